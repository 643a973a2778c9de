set_option maxHeartbeats 16000000 in
set_option maxRecDepth 100000 in
theorem c_X2_distance (l : Launch) (D : va_G) (gi gc gr : ClassId) (sz : Nat) (w : Nat) (rw : Nat) (bq : Nat) (sq : Nat) (mp : Int) (b : Nat → Int) (ra : Nat → Nat) (ia : Nat → Nat) (tn : Nat → Int) (gs : Nat → Nat → Int) (x1 : Int) (x2 : Int) (htn : ∀ k : Nat, k < 3 → 0 ≤ tn k ∧ tn k ≤ 10) (hgs : ∀ k : Nat, k < 3 → ∀ j : Nat, (j : Int) < tn k → 0 ≤ gs k j ∧ gs k j ≤ 99) (hx1 : 0 ≤ x1 ∧ x1 < 3) (hx2 : 0 ≤ x2 ∧ x2 < 3) : Met l yX2_distance wsX2_distance { frames := 3, cells := 0, slots := 0, locals := 68 } (zPw D gi gc gr [(w, .inr (1, [.ref rw, .ref bq, .ref sq, .int (iI mp)])), (rw, .inl (gr, 3, .inr (.inr (.inr (.inr (rF ra)))))), (bq, aI gi 121 b), ((ra 0), .inr (3, [.ref (ia 0), .int (iI (tn 0))])), ((ia 0), aI gi 10 (gs 0)), ((ra 1), .inr (3, [.ref (ia 1), .int (iI (tn 1))])), ((ia 1), aI gi 10 (gs 1)), ((ra 2), .inr (3, [.ref (ia 2), .int (iI (tn 2))])), ((ia 2), aI gi 10 (gs 2))] sz [.ref w, .int (iI x1), .int (iI x2)]) (va_Qi (S := Nat → Int) (fun v u => v = iI (EF (gs x1.toNat) (tn x1.toNat) (gs x2.toNat) (tn x2.toNat) 0 0) ∧ ∀ x y : Int, 0 ≤ x → x ≤ tn x1.toNat → 0 ≤ y → y ≤ tn x2.toNat → u (x * 11 + y).toNat = EF (gs x1.toNat) (tn x1.toNat) (gs x2.toNat) (tn x2.toNat) x y) (zB D (va_A [(w, .inr (1, [.ref rw, .ref bq, .ref sq, .int (iI mp)])), (rw, .inl (gr, 3, .inr (.inr (.inr (.inr (rF ra)))))), (bq, aI gi 121 b), ((ra 0), .inr (3, [.ref (ia 0), .int (iI (tn 0))])), ((ia 0), aI gi 10 (gs 0)), ((ra 1), .inr (3, [.ref (ia 1), .int (iI (tn 1))])), ((ia 1), aI gi 10 (gs 1)), ((ra 2), .inr (3, [.ref (ia 2), .int (iI (tn 2))])), ((ia 2), aI gi 10 (gs 2))] sz) (fun u => [(w, .inr (1, [.ref rw, .ref bq, .ref sq, .int (iI mp)])), (rw, .inl (gr, 3, .inr (.inr (.inr (.inr (rF ra)))))), (bq, aI gi 121 u), (ra 0, .inr (3, [.ref (ia 0), .int (iI (tn 0))])), (ia 0, aI gi 10 (gs 0)), (ra 1, .inr (3, [.ref (ia 1), .int (iI (tn 1))])), (ia 1, aI gi 10 (gs 1)), (ra 2, .inr (3, [.ref (ia 2), .int (iI (tn 2))])), (ia 2, aI gi 10 (gs 2))])) (va_A [(w, .inr (1, [.ref rw, .ref bq, .ref sq, .int (iI mp)])), (rw, .inl (gr, 3, .inr (.inr (.inr (.inr (rF ra)))))), (bq, aI gi 121 b), ((ra 0), .inr (3, [.ref (ia 0), .int (iI (tn 0))])), ((ia 0), aI gi 10 (gs 0)), ((ra 1), .inr (3, [.ref (ia 1), .int (iI (tn 1))])), ((ia 1), aI gi 10 (gs 1)), ((ra 2), .inr (3, [.ref (ia 2), .int (iI (tn 2))])), ((ia 2), aI gi 10 (gs 2))] sz)) 0 0 (va_A [(w, .inr (1, [.ref rw, .ref bq, .ref sq, .int (iI mp)])), (rw, .inl (gr, 3, .inr (.inr (.inr (.inr (rF ra)))))), (bq, aI gi 121 b), ((ra 0), .inr (3, [.ref (ia 0), .int (iI (tn 0))])), ((ia 0), aI gi 10 (gs 0)), ((ra 1), .inr (3, [.ref (ia 1), .int (iI (tn 1))])), ((ia 1), aI gi 10 (gs 1)), ((ra 2), .inr (3, [.ref (ia 2), .int (iI (tn 2))])), ((ia 2), aI gi 10 (gs 2))] sz) := by
  refine zt_metWi (own := RX2) (cc := cX2_distance) (maxL := 7) (by decide) rfl rfl (Nat.le_of_ble_eq_true rfl) ?_
  intro p e s m args below meth c Q A C hK hP hD hS hA _ hQ ls hl
  have hx := C.1
  have hb := C.2.1
  have hml := C.2.2.1
  have hown := C.2.2.2.1
  have hts := C.2.2.2.2
  have i2 : ∀ w ∈ u_ws RX2 TX2 4, w ∈ wsX2_distance := by decide +kernel
  have f11 := hts (.fieldLink RX2 11 "Threetwo$Prints" "rows" "[LThreetwo$Row;") (by decide +kernel)
  have f20 := hts (.fieldLink RX2 20 "Threetwo$Prints" "behind" "[I") (by decide +kernel)
  have hl : lv_has ls 7 [(0, .ref w), (1, .int (iI x1)), (2, .int (iI x2))] := hl
  have h1x : x1.toNat < 3 := by omega
  have h2x : x2.toNat < 3 := by omega
  have hn1 := htn _ h1x
  have hn2 := htn _ h2x
  refine lv_aload_n hx hb dX2_distance_0 rfl (lv_at hl 0 rfl) ?_
  refine va_get (D := D) (ci := 1) (v := .ref rw) (C := RX2) (T := TX2) (N := 4) hx hb hts i2 hown hK.1 hP 0 rfl rfl 0 (by decide) f11 (fun _ h9 => h9) rfl dX2_distance_1 ?_
  refine lv_iload_n hx hb dX2_distance_4 rfl (lv_at hl 1 rfl) ?_
  refine zt_aald hx hb hK.1 hP 1 2 rfl rfl (by omega) (by omega) dX2_distance_5 ?_
  refine lv_astore_n (lv' := [(3, .ref (ra x1.toNat)), (0, .ref w), (1, .int (iI x1)), (2, .int (iI x2))]) hx hb dX2_distance_6 rfl hl (by decide) rfl (fun ls hl => ?_)
  refine lv_aload_n hx hb dX2_distance_7 rfl (lv_at hl 1 rfl) ?_
  refine va_get (D := D) (ci := 1) (v := .ref rw) (C := RX2) (T := TX2) (N := 4) hx hb hts i2 hown hK.1 hP 0 rfl rfl 0 (by decide) f11 (fun _ h9 => h9) rfl dX2_distance_8 ?_
  refine lv_iload_n hx hb dX2_distance_11 rfl (lv_at hl 3 rfl) ?_
  refine zt_aald hx hb hK.1 hP 1 2 rfl rfl (by omega) (by omega) dX2_distance_12 ?_
  refine lv_astore (lv' := [(4, .ref (ra x2.toNat)), (3, .ref (ra x1.toNat)), (0, .ref w), (1, .int (iI x1)), (2, .int (iI x2))]) hx hb dX2_distance_13 hl (by decide) rfl (fun ls hl => ?_)
  refine lv_aload_n hx hb dX2_distance_15 rfl (lv_at hl 1 rfl) ?_
  refine zt_callV C (As := []) (rest := []) (c_X4_many l D gi gc gr (ra x1.toNat) (ia x1.toNat) (tn x1.toNat)) (cwV 0 hts gX2_distance_X4_many rfl rfl rfl (by decide +kernel) ⟨Nat.le_of_ble_eq_true rfl, Nat.le_of_ble_eq_true rfl⟩) (zt_preV hK ((zrow (hP.sub (ws' := rowsW gi ra ia tn gs) [3, 4, 5, 6, 7, 8] rfl) h1x).sub [0] rfl) [] 0 rfl rfl) rfl hl.1 rfl (Nat.le_of_ble_eq_true rfl) dX2_distance_16 ⟨Nat.le_of_ble_eq_true rfl, Nat.le_of_ble_eq_true rfl⟩ (fun r_1 hr_1 => ?_)
  obtain rfl := hr_1
  refine lv_istore (lv' := [(5, .int (iI (tn x1.toNat))), (4, .ref (ra x2.toNat)), (3, .ref (ra x1.toNat)), (0, .ref w), (1, .int (iI x1)), (2, .int (iI x2))]) hx hb dX2_distance_19 hl (by decide) rfl (fun ls hl => ?_)
  have loop_21 : ∀ (n_21 : Nat) (i : Int) (b1 : Nat → Int) (hi : -1 ≤ i ∧ i ≤ tn x1.toNat) (hT : TB b1 (tn x1.toNat) (tn x2.toNat) (EF (gs x1.toNat) (tn x1.toNat) (gs x2.toNat) (tn x2.toNat)) i (tn x2.toNat)) (hm_21 : i + 1 < (n_21 : Int)) (H : Heap) (locs : List Loc) (hP : va_P D vwCl [(w, .inr (1, [.ref rw, .ref bq, .ref sq, .int (iI mp)])), (rw, .inl (gr, 3, .inr (.inr (.inr (.inr (rF ra)))))), (bq, aI gi 121 b1), ((ra 0), .inr (3, [.ref (ia 0), .int (iI (tn 0))])), ((ia 0), aI gi 10 (gs 0)), ((ra 1), .inr (3, [.ref (ia 1), .int (iI (tn 1))])), ((ia 1), aI gi 10 (gs 1)), ((ra 2), .inr (3, [.ref (ia 2), .int (iI (tn 2))])), ((ia 2), aI gi 10 (gs 2))] H) (hD : va_D A [(w, .inr (1, [.ref rw, .ref bq, .ref sq, .int (iI mp)])), (rw, .inl (gr, 3, .inr (.inr (.inr (.inr (rF ra)))))), (bq, aI gi 121 b1), ((ra 0), .inr (3, [.ref (ia 0), .int (iI (tn 0))])), ((ia 0), aI gi 10 (gs 0)), ((ra 1), .inr (3, [.ref (ia 1), .int (iI (tn 1))])), ((ia 1), aI gi 10 (gs 1)), ((ra 2), .inr (3, [.ref (ia 2), .int (iI (tn 2))])), ((ia 2), aI gi 10 (gs 2))]) (hS : va_S A s.heap H locs) (ls : Array Slot) (hl : lv_has ls 7 [(0, .ref w), (1, .int (iI x1)), (2, .int (iI x2)), (3, .ref (ra x1.toNat)), (4, .ref (ra x2.toNat)), (5, .int (iI i))]), W p l e { frames := 3, cells := 0, slots := 0, locals := 68 } s m args below meth c H locs 0 0 Q (F0 m 21 ls []) := by
    intro n_21
    induction n_21 with
    | zero => intro i b1 hi hT hm_21 H locs hP hD hS ls hl; exact absurd hm_21 (by omega)
    | succ n_21 ih_21 =>
      intro i b1 hi hT hm_21 H locs hP hD hS ls hl
      refine lv_iload hx hb dX2_distance_21 (lv_at hl 5 rfl) ?_
      refine zt_if_lt (tgt := 74) hx hb dX2_distance_23 (by decide) (by omega) (fun c_2 => ?_) (fun c_2 => ?_)
      · refine lv_aload_n hx hb dX2_distance_74 rfl (lv_at hl 0 rfl) ?_
        refine va_get (D := D) (ci := 1) (v := .ref bq) (C := RX2) (T := TX2) (N := 4) hx hb hts i2 hown hK.1 hP 0 rfl rfl 1 (by decide) f20 (fun _ h9 => h9) rfl dX2_distance_75 ?_
        refine lv_iconst (v := iI (0)) hx hb dX2_distance_78 (by decide +kernel) ?_
        refine zt_iald hx hb hK.1 hP 2 0 rfl rfl (by omega) (by omega) dX2_distance_79 ?_
        exact hQ b1 _ _ _ _ _ (⟨congrArg iI (hT 0 0 (by omega) (by omega) (by omega) (by omega) (by omega)), fun x y q1 q2 q3 q4 => hT x y q1 q2 q3 q4 (by omega)⟩) hP hD hS dX2_distance_80
      · refine lv_aload hx hb dX2_distance_26 (lv_at hl 4 rfl) ?_
        refine zt_callV C (As := []) (rest := []) (c_X4_many l D gi gc gr (ra x2.toNat) (ia x2.toNat) (tn x2.toNat)) (cwV 0 hts gX2_distance_X4_many rfl rfl rfl (by decide +kernel) ⟨Nat.le_of_ble_eq_true rfl, Nat.le_of_ble_eq_true rfl⟩) (zt_preV hK ((zrow (hP.sub (ws' := rowsW gi ra ia tn gs) [3, 4, 5, 6, 7, 8] rfl) h2x).sub [0] rfl) [] 0 rfl rfl) rfl hl.1 rfl (Nat.le_of_ble_eq_true rfl) dX2_distance_28 ⟨Nat.le_of_ble_eq_true rfl, Nat.le_of_ble_eq_true rfl⟩ (fun r_3 hr_3 => ?_)
        obtain rfl := hr_3
        refine lv_istore (lv' := [(6, .int (iI (tn x2.toNat))), (0, .ref w), (1, .int (iI x1)), (2, .int (iI x2)), (3, .ref (ra x1.toNat)), (4, .ref (ra x2.toNat)), (5, .int (iI i))]) hx hb dX2_distance_31 hl (by decide) rfl (fun ls hl => ?_)
        have loop_33 : ∀ (n_33 : Nat) (j : Int) (b2 : Nat → Int) (hj : -1 ≤ j ∧ j ≤ tn x2.toNat) (hT : TB b2 (tn x1.toNat) (tn x2.toNat) (EF (gs x1.toNat) (tn x1.toNat) (gs x2.toNat) (tn x2.toNat)) i j) (hm_33 : j + 1 < (n_33 : Int)) (H : Heap) (locs : List Loc) (hP : va_P D vwCl [(w, .inr (1, [.ref rw, .ref bq, .ref sq, .int (iI mp)])), (rw, .inl (gr, 3, .inr (.inr (.inr (.inr (rF ra)))))), (bq, aI gi 121 b2), ((ra 0), .inr (3, [.ref (ia 0), .int (iI (tn 0))])), ((ia 0), aI gi 10 (gs 0)), ((ra 1), .inr (3, [.ref (ia 1), .int (iI (tn 1))])), ((ia 1), aI gi 10 (gs 1)), ((ra 2), .inr (3, [.ref (ia 2), .int (iI (tn 2))])), ((ia 2), aI gi 10 (gs 2))] H) (hD : va_D A [(w, .inr (1, [.ref rw, .ref bq, .ref sq, .int (iI mp)])), (rw, .inl (gr, 3, .inr (.inr (.inr (.inr (rF ra)))))), (bq, aI gi 121 b2), ((ra 0), .inr (3, [.ref (ia 0), .int (iI (tn 0))])), ((ia 0), aI gi 10 (gs 0)), ((ra 1), .inr (3, [.ref (ia 1), .int (iI (tn 1))])), ((ia 1), aI gi 10 (gs 1)), ((ra 2), .inr (3, [.ref (ia 2), .int (iI (tn 2))])), ((ia 2), aI gi 10 (gs 2))]) (hS : va_S A s.heap H locs) (ls : Array Slot) (hl : lv_has ls 7 [(0, .ref w), (1, .int (iI x1)), (2, .int (iI x2)), (3, .ref (ra x1.toNat)), (4, .ref (ra x2.toNat)), (5, .int (iI i)), (6, .int (iI j))]), W p l e { frames := 3, cells := 0, slots := 0, locals := 68 } s m args below meth c H locs 0 0 Q (F0 m 33 ls []) := by
          intro n_33
          induction n_33 with
          | zero => intro j b2 hj hT hm_33 H locs hP hD hS ls hl; exact absurd hm_33 (by omega)
          | succ n_33 ih_33 =>
            intro j b2 hj hT hm_33 H locs hP hD hS ls hl
            refine lv_iload hx hb dX2_distance_33 (lv_at hl 6 rfl) ?_
            refine zt_if_lt (tgt := 68) hx hb dX2_distance_35 (by decide) (by omega) (fun c_4 => ?_) (fun c_4 => ?_)
            · refine lv_iinc (v := iI (i + (-1))) (lv' := [(5, .int (iI (i + (-1)))), (0, .ref w), (1, .int (iI x1)), (2, .int (iI x2)), (3, .ref (ra x1.toNat)), (4, .ref (ra x2.toNat)), (6, .int (iI j))]) hx hb dX2_distance_68 hl (k := 5) rfl (iI_add _ _) (by decide) rfl (fun ls hl => ?_)
              refine lv_goto (tgt := 21) hx hb dX2_distance_71 (by decide) ?_
              exact ih_21 (i + (-1)) b2 (by omega) (by have hT2 := hT; rw [show j = -1 by omega] at hT2; exact TB_row hT2) (by omega) H locs hP hD hS ls (lv_sub hl [1, 2, 3, 4, 5, 0] rfl)
            · refine lv_aload_n hx hb dX2_distance_38 rfl (lv_at hl 0 rfl) ?_
              refine va_get (D := D) (ci := 1) (v := .ref bq) (C := RX2) (T := TX2) (N := 4) hx hb hts i2 hown hK.1 hP 0 rfl rfl 1 (by decide) f20 (fun _ h9 => h9) rfl dX2_distance_39 ?_
              refine lv_iload hx hb dX2_distance_42 (lv_at hl 5 rfl) ?_
              refine lv_bipush (v := iI (11)) hx hb dX2_distance_44 (by decide +kernel) ?_
              refine zt_imul hx hb dX2_distance_46 ?_
              refine lv_iload hx hb dX2_distance_47 (lv_at hl 6 rfl) ?_
              refine zt_iadd hx hb dX2_distance_49 ?_
              refine lv_aload_n hx hb dX2_distance_50 rfl (lv_at hl 0 rfl) ?_
              refine lv_aload_n hx hb dX2_distance_51 rfl (lv_at hl 3 rfl) ?_
              refine lv_aload hx hb dX2_distance_52 (lv_at hl 4 rfl) ?_
              refine lv_iload hx hb dX2_distance_54 (lv_at hl 5 rfl) ?_
              refine lv_iload hx hb dX2_distance_56 (lv_at hl 6 rfl) ?_
              refine zt_callV C (As := [.ref (ra x1.toNat), .ref (ra x2.toNat), .int (iI i), .int (iI j)]) (rest := [.int (iI ((i * 11) + j)), .ref bq]) (c_X2_leastFrom l D gi gc gr w rw bq sq mp b2 (ra x1.toNat) (ia x1.toNat) (tn x1.toNat) (gs x1.toNat) (ra x2.toNat) (ia x2.toNat) (tn x2.toNat) (gs x2.toNat) i j (⟨hn1, hn2⟩) (hgs _ h1x) (hgs _ h2x) (by first | omega | assumption) (by first | omega | assumption) (hT)) (cwV 4 hts gX2_distance_X2_leastFrom rfl rfl rfl (by decide +kernel) ⟨Nat.le_of_ble_eq_true rfl, Nat.le_of_ble_eq_true rfl⟩) (zt_preV hK ((hP.sub (ws' := [(w, .inr (1, [.ref rw, .ref bq, .ref sq, .int (iI mp)])), (bq, aI gi 121 b2)]) [0, 2] rfl).app (((zrow (hP.sub (ws' := rowsW gi ra ia tn gs) [3, 4, 5, 6, 7, 8] rfl) h1x)).app ((zrow (hP.sub (ws' := rowsW gi ra ia tn gs) [3, 4, 5, 6, 7, 8] rfl) h2x)))) [.ref (ra x1.toNat), .ref (ra x2.toNat), .int (iI i), .int (iI j)] 0 rfl rfl) rfl hl.1 rfl (Nat.le_of_ble_eq_true rfl) dX2_distance_58 ⟨Nat.le_of_ble_eq_true rfl, Nat.le_of_ble_eq_true rfl⟩ (fun r_5 hr_5 => ?_)
              obtain rfl := hr_5
              refine zt_iast (g := b2) (x := EF (gs x1.toNat) (tn x1.toNat) (gs x2.toNat) (tn x2.toNat) i j) hx hb hK.1 hP hD hS 2 0 rfl rfl (by omega) (by omega) dX2_distance_61 (fun H locs hP hD hS => ?_)
              have hP : va_P D vwCl [(w, .inr (1, [.ref rw, .ref bq, .ref sq, .int (iI mp)])), (rw, .inl (gr, 3, .inr (.inr (.inr (.inr (rF ra)))))), (bq, aI gi 121 (uP b2 ((i * 11) + j).toNat (EF (gs x1.toNat) (tn x1.toNat) (gs x2.toNat) (tn x2.toNat) i j))), ((ra 0), .inr (3, [.ref (ia 0), .int (iI (tn 0))])), ((ia 0), aI gi 10 (gs 0)), ((ra 1), .inr (3, [.ref (ia 1), .int (iI (tn 1))])), ((ia 1), aI gi 10 (gs 1)), ((ra 2), .inr (3, [.ref (ia 2), .int (iI (tn 2))])), ((ia 2), aI gi 10 (gs 2))] H := hP
              have hD : va_D A [(w, .inr (1, [.ref rw, .ref bq, .ref sq, .int (iI mp)])), (rw, .inl (gr, 3, .inr (.inr (.inr (.inr (rF ra)))))), (bq, aI gi 121 (uP b2 ((i * 11) + j).toNat (EF (gs x1.toNat) (tn x1.toNat) (gs x2.toNat) (tn x2.toNat) i j))), ((ra 0), .inr (3, [.ref (ia 0), .int (iI (tn 0))])), ((ia 0), aI gi 10 (gs 0)), ((ra 1), .inr (3, [.ref (ia 1), .int (iI (tn 1))])), ((ia 1), aI gi 10 (gs 1)), ((ra 2), .inr (3, [.ref (ia 2), .int (iI (tn 2))])), ((ia 2), aI gi 10 (gs 2))] := hD
              refine lv_iinc (v := iI (j + (-1))) (lv' := [(6, .int (iI (j + (-1)))), (0, .ref w), (1, .int (iI x1)), (2, .int (iI x2)), (3, .ref (ra x1.toNat)), (4, .ref (ra x2.toNat)), (5, .int (iI i))]) hx hb dX2_distance_62 hl (k := 6) rfl (iI_add _ _) (by decide) rfl (fun ls hl => ?_)
              refine lv_goto (tgt := 33) hx hb dX2_distance_65 (by decide) ?_
              exact ih_33 (j + (-1)) (uP b2 ((i * 11) + j).toNat (EF (gs x1.toNat) (tn x1.toNat) (gs x2.toNat) (tn x2.toNat) i j)) (by omega) (by have hT3 := TB_put hn2.2 (by omega) (by omega) hT rfl; exact hT3) (by omega) H locs hP hD hS ls (lv_sub hl [1, 2, 3, 4, 5, 6, 0] rfl)
        exact loop_33 (((tn x2.toNat) + 1 : Int).toNat + 1) (tn x2.toNat) b1 (by omega) (hT) (by omega) H locs hP hD hS ls (lv_sub hl [1, 2, 3, 4, 5, 6, 0] rfl)
  exact loop_21 (((tn x1.toNat) + 1 : Int).toNat + 1) (tn x1.toNat) b (by omega) (TB_0) (by omega) s.heap [] hP hD hS ls (lv_sub hl [3, 4, 5, 2, 1, 0] rfl)
