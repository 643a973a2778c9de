theorem layL_go {sg : Int → Int → Int} {t1 t2 i j n i2 j2 sv : Int} {k : Nat} (hsv : sv = sg i j) (hc : i < t1 ∨ j < t2) (hi : i2 = i + (if sv = 2 then 0 else 1)) (hj : j2 = j + (if sv = 1 then 0 else 1)) : layL sg t1 t2 (k + 1) i j n = layL sg t1 t2 k i2 j2 (n + 1) := by
  rw [layL_s, if_pos hc, hi, hj, hsv]
theorem layL_end {sg : Int → Int → Int} {t1 t2 i j n : Int} {k : Nat} (h : k = 0 ∨ (t1 ≤ i ∧ t2 ≤ j)) : layL sg t1 t2 k i j n = n := by
  cases k with
  | zero => rfl
  | succ k => rw [layL_s, if_neg (by omega)]
theorem layL_b {sg : Int → Int → Int} {t1 t2 : Int} : ∀ (k : Nat) (i j n : Int), n ≤ layL sg t1 t2 k i j n ∧ layL sg t1 t2 k i j n ≤ n + (k : Int) := by
  intro k
  induction k with
  | zero => intro i j n; show n ≤ n ∧ n ≤ n + ((0 : Nat) : Int); omega
  | succ k ih =>
    intro i j n
    rw [layL_s]
    have h := ih (i + (if sg i j = 2 then 0 else 1)) (j + (if sg i j = 1 then 0 else 1)) (n + 1)
    split <;> omega
theorem EF_1 {g1 g2 : Nat → Int} {t1 t2 i : Int} (hi : 0 ≤ i ∧ i < t1) : EF g1 t1 g2 t2 i t2 = 2 + EF g1 t1 g2 t2 (i + 1) t2 := by
  rw [EF_r (by omega) (by omega), EF_r (by omega) (by omega)]
  omega
theorem sgF_end {g1 g2 : Nat → Int} {tg : Int → Int → Int} {t1 t2 i : Int} (hi : 0 ≤ i ∧ i < t1) : sgF (EF g1 t1 g2 t2) tg t1 t2 i t2 = 1 := by
  unfold sgF
  rw [if_neg (by omega), if_pos ⟨hi.2, EF_1 hi⟩]
theorem sgF_end2 {f tg : Int → Int → Int} {t1 t2 j : Int} : sgF f tg t1 t2 t1 j = 2 := by
  unfold sgF
  rw [if_neg (by omega), if_neg (by omega)]

set_option maxHeartbeats 16000000 in
set_option maxRecDepth 100000 in
theorem c_X2_layOut (l : Launch) (D : va_G) (gi gc gr : ClassId) (sz : Nat) (w : Nat) (rw : Nat) (bq : Nat) (sq : Nat) (mp : Int) (b : Nat → Int) (ra : Nat → Nat) (ia : Nat → Nat) (tn : Nat → Int) (gs : Nat → Nat → Int) (sf : Nat → Int32) (x1 : Int) (x2 : Int) (htn : ∀ k : Nat, k < 3 → 0 ≤ tn k ∧ tn k ≤ 10) (hgs : ∀ k : Nat, k < 3 → ∀ j : Nat, (j : Int) < tn k → 0 ≤ gs k j ∧ gs k j ≤ 99) (hx1 : 0 ≤ x1 ∧ x1 < 3) (hx2 : 0 ≤ x2 ∧ x2 < 3) : Met l yX2_layOut wsX2_layOut { frames := 4, cells := 0, slots := 0, locals := 94 } (zPw D gi gc gr [(w, .inr (1, [.ref rw, .ref bq, .ref sq, .int (iI mp)])), (rw, .inl (gr, 3, .inr (.inr (.inr (.inr (rF ra)))))), (bq, aI gi 121 b), ((ra 0), .inr (3, [.ref (ia 0), .int (iI (tn 0))])), ((ia 0), aI gi 10 (gs 0)), ((ra 1), .inr (3, [.ref (ia 1), .int (iI (tn 1))])), ((ia 1), aI gi 10 (gs 1)), ((ra 2), .inr (3, [.ref (ia 2), .int (iI (tn 2))])), ((ia 2), aI gi 10 (gs 2)), (sq, .inl (gc, 20, .inl sf))] sz [.ref w, .int (iI x1), .int (iI x2)]) (va_Qi (S := (Nat → Int) × (Nat → Int32)) (fun v u => v = iI (layL (sgF (EF (gs x1.toNat) (tn x1.toNat) (gs x2.toNat) (tn x2.toNat)) (fun x y => tog (gs x1.toNat x.toNat) (gs x2.toNat y.toNat)) (tn x1.toNat) (tn x2.toNat)) (tn x1.toNat) (tn x2.toNat) 20 0 0 0)) (zB D (va_A [(w, .inr (1, [.ref rw, .ref bq, .ref sq, .int (iI mp)])), (rw, .inl (gr, 3, .inr (.inr (.inr (.inr (rF ra)))))), (bq, aI gi 121 b), ((ra 0), .inr (3, [.ref (ia 0), .int (iI (tn 0))])), ((ia 0), aI gi 10 (gs 0)), ((ra 1), .inr (3, [.ref (ia 1), .int (iI (tn 1))])), ((ia 1), aI gi 10 (gs 1)), ((ra 2), .inr (3, [.ref (ia 2), .int (iI (tn 2))])), ((ia 2), aI gi 10 (gs 2)), (sq, .inl (gc, 20, .inl sf))] sz) (fun u => [(w, .inr (1, [.ref rw, .ref bq, .ref sq, .int (iI mp)])), (rw, .inl (gr, 3, .inr (.inr (.inr (.inr (rF ra)))))), (bq, aI gi 121 u.1), (ra 0, .inr (3, [.ref (ia 0), .int (iI (tn 0))])), (ia 0, aI gi 10 (gs 0)), (ra 1, .inr (3, [.ref (ia 1), .int (iI (tn 1))])), (ia 1, aI gi 10 (gs 1)), (ra 2, .inr (3, [.ref (ia 2), .int (iI (tn 2))])), (ia 2, aI gi 10 (gs 2)), (sq, .inl (gc, 20, .inl u.2))])) (va_A [(w, .inr (1, [.ref rw, .ref bq, .ref sq, .int (iI mp)])), (rw, .inl (gr, 3, .inr (.inr (.inr (.inr (rF ra)))))), (bq, aI gi 121 b), ((ra 0), .inr (3, [.ref (ia 0), .int (iI (tn 0))])), ((ia 0), aI gi 10 (gs 0)), ((ra 1), .inr (3, [.ref (ia 1), .int (iI (tn 1))])), ((ia 1), aI gi 10 (gs 1)), ((ra 2), .inr (3, [.ref (ia 2), .int (iI (tn 2))])), ((ia 2), aI gi 10 (gs 2)), (sq, .inl (gc, 20, .inl sf))] sz)) 0 0 (va_A [(w, .inr (1, [.ref rw, .ref bq, .ref sq, .int (iI mp)])), (rw, .inl (gr, 3, .inr (.inr (.inr (.inr (rF ra)))))), (bq, aI gi 121 b), ((ra 0), .inr (3, [.ref (ia 0), .int (iI (tn 0))])), ((ia 0), aI gi 10 (gs 0)), ((ra 1), .inr (3, [.ref (ia 1), .int (iI (tn 1))])), ((ia 1), aI gi 10 (gs 1)), ((ra 2), .inr (3, [.ref (ia 2), .int (iI (tn 2))])), ((ia 2), aI gi 10 (gs 2)), (sq, .inl (gc, 20, .inl sf))] sz) := by
  refine zt_metWi (own := RX2) (cc := cX2_layOut) (maxL := 9) (by decide) rfl rfl (Nat.le_of_ble_eq_true rfl) ?_
  intro p e s m args below meth c Q A C hK hP hD hS hA _ hQ ls hl
  have hx := C.1
  have hb := C.2.1
  have hml := C.2.2.1
  have hown := C.2.2.2.1
  have hts := C.2.2.2.2
  have i2 : ∀ w ∈ u_ws RX2 TX2 4, w ∈ wsX2_layOut := by decide +kernel
  have f11 := hts (.fieldLink RX2 11 "Threetwo$Prints" "rows" "[LThreetwo$Row;") (by decide +kernel)
  have f24 := hts (.fieldLink RX2 24 "Threetwo$Prints" "signs" "[C") (by decide +kernel)
  have hl : lv_has ls 9 [(0, .ref w), (1, .int (iI x1)), (2, .int (iI x2))] := hl
  have h1x : x1.toNat < 3 := by omega
  have h2x : x2.toNat < 3 := by omega
  have hn1 := htn _ h1x
  have hn2 := htn _ h2x
  refine lv_aload_n hx hb dX2_layOut_0 rfl (lv_at hl 0 rfl) ?_
  refine lv_iload_n hx hb dX2_layOut_1 rfl (lv_at hl 1 rfl) ?_
  refine lv_iload_n hx hb dX2_layOut_2 rfl (lv_at hl 2 rfl) ?_
  have hPc := hP.sub (ws' := [(w, .inr (1, [.ref rw, .ref bq, .ref sq, .int (iI mp)])), (rw, .inl (gr, 3, .inr (.inr (.inr (.inr (rF ra)))))), (bq, aI gi 121 b), ((ra 0), .inr (3, [.ref (ia 0), .int (iI (tn 0))])), ((ia 0), aI gi 10 (gs 0)), ((ra 1), .inr (3, [.ref (ia 1), .int (iI (tn 1))])), ((ia 1), aI gi 10 (gs 1)), ((ra 2), .inr (3, [.ref (ia 2), .int (iI (tn 2))])), ((ia 2), aI gi 10 (gs 2))]) [0, 1, 2, 3, 4, 5, 6, 7, 8] rfl
  have hDc := hD.sub (ws' := [(w, .inr (1, [.ref rw, .ref bq, .ref sq, .int (iI mp)])), (rw, .inl (gr, 3, .inr (.inr (.inr (.inr (rF ra)))))), (bq, aI gi 121 b), ((ra 0), .inr (3, [.ref (ia 0), .int (iI (tn 0))])), ((ia 0), aI gi 10 (gs 0)), ((ra 1), .inr (3, [.ref (ia 1), .int (iI (tn 1))])), ((ia 1), aI gi 10 (gs 1)), ((ra 2), .inr (3, [.ref (ia 2), .int (iI (tn 2))])), ((ia 2), aI gi 10 (gs 2))]) [0, 1, 2, 3, 4, 5, 6, 7, 8] (by decide) rfl
  have hFc := va_free (wc := [(w, .inr (1, [.ref rw, .ref bq, .ref sq, .int (iI mp)])), (rw, .inl (gr, 3, .inr (.inr (.inr (.inr (rF ra)))))), (bq, aI gi 121 b), ((ra 0), .inr (3, [.ref (ia 0), .int (iI (tn 0))])), ((ia 0), aI gi 10 (gs 0)), ((ra 1), .inr (3, [.ref (ia 1), .int (iI (tn 1))])), ((ia 1), aI gi 10 (gs 1)), ((ra 2), .inr (3, [.ref (ia 2), .int (iI (tn 2))])), ((ia 2), aI gi 10 (gs 2))]) hD hS hA [0, 1, 2, 3, 4, 5, 6, 7, 8] rfl
  refine va_calli (va_runV C (As := [.int (iI x1), .int (iI x2)]) (rest := []) (c_X2_distance l D gi gc gr s.heap.size w rw bq sq mp b ra ia tn gs x1 x2 (by first | omega | assumption) (by first | omega | assumption) (by first | omega | assumption) (by first | omega | assumption)) (cwV 2 hts gX2_layOut_X2_distance rfl rfl rfl (by decide +kernel) ⟨Nat.le_of_ble_eq_true rfl, Nat.le_of_ble_eq_true rfl⟩) (zt_preVw hK hPc hDc [.int (iI x1), .int (iI x2)] 0 rfl rfl) rfl rfl hl.1 rfl (lv_room (Nat.le_of_ble_eq_true rfl)) dX2_layOut_3 ⟨Nat.le_of_ble_eq_true rfl, Nat.le_of_ble_eq_true rfl⟩) hS (fun q _ h => hFc q h) hFc (fun r_1 u_r_1 T9 H1 locs hT9 hvm hw hB hz1 hk1 hS => ?_)
  obtain ⟨hv_1, hT⟩ := hw
  try dsimp only at hT
  subst hv_1
  obtain ⟨hP1, hD1⟩ := hB
  rw [hT9] at hP1
  obtain ⟨hP, hD⟩ := zt_back (w1 := [(w, .inr (1, [.ref rw, .ref bq, .ref sq, .int (iI mp)])), (rw, .inl (gr, 3, .inr (.inr (.inr (.inr (rF ra)))))), (bq, aI gi 121 u_r_1), ((ra 0), .inr (3, [.ref (ia 0), .int (iI (tn 0))])), ((ia 0), aI gi 10 (gs 0)), ((ra 1), .inr (3, [.ref (ia 1), .int (iI (tn 1))])), ((ia 1), aI gi 10 (gs 1)), ((ra 2), .inr (3, [.ref (ia 2), .int (iI (tn 2))])), ((ia 2), aI gi 10 (gs 2))]) (wr := [(sq, .inl (gc, 20, .inl sf))]) (wn := [(w, .inr (1, [.ref rw, .ref bq, .ref sq, .int (iI mp)])), (rw, .inl (gr, 3, .inr (.inr (.inr (.inr (rF ra)))))), (bq, aI gi 121 u_r_1), ((ra 0), .inr (3, [.ref (ia 0), .int (iI (tn 0))])), ((ia 0), aI gi 10 (gs 0)), ((ra 1), .inr (3, [.ref (ia 1), .int (iI (tn 1))])), ((ia 1), aI gi 10 (gs 1)), ((ra 2), .inr (3, [.ref (ia 2), .int (iI (tn 2))])), ((ia 2), aI gi 10 (gs 2)), (sq, .inl (gc, 20, .inl sf))]) hP hD [0, 1, 2, 3, 4, 5, 6, 7, 8] [9] [1, 2, 3, 4, 5, 6, 7, 8, 9, 0] rfl rfl (by decide) (by decide) hk1 hFc hP1 hD1 rfl (by decide)
  generalize H1 = H at hP hS ⊢
  refine lv_pop hx hb dX2_layOut_6 rfl ?_
  refine lv_aload_n hx hb dX2_layOut_7 rfl (lv_at hl 0 rfl) ?_
  refine va_get (D := D) (ci := 1) (v := .ref rw) (C := RX2) (T := TX2) (N := 4) hx hb hts i2 hown hK.1 hP 0 rfl rfl 0 (by decide) f11 (fun _ h9 => h9) rfl dX2_layOut_8 ?_
  refine lv_iload_n hx hb dX2_layOut_11 rfl (lv_at hl 1 rfl) ?_
  refine zt_aald hx hb hK.1 hP 1 2 rfl rfl (by omega) (by omega) dX2_layOut_12 ?_
  refine lv_astore_n (lv' := [(3, .ref (ra x1.toNat)), (0, .ref w), (1, .int (iI x1)), (2, .int (iI x2))]) hx hb dX2_layOut_13 rfl hl (by decide) rfl (fun ls hl => ?_)
  refine lv_aload_n hx hb dX2_layOut_14 rfl (lv_at hl 1 rfl) ?_
  refine va_get (D := D) (ci := 1) (v := .ref rw) (C := RX2) (T := TX2) (N := 4) hx hb hts i2 hown hK.1 hP 0 rfl rfl 0 (by decide) f11 (fun _ h9 => h9) rfl dX2_layOut_15 ?_
  refine lv_iload_n hx hb dX2_layOut_18 rfl (lv_at hl 3 rfl) ?_
  refine zt_aald hx hb hK.1 hP 1 2 rfl rfl (by omega) (by omega) dX2_layOut_19 ?_
  refine lv_astore (lv' := [(4, .ref (ra x2.toNat)), (3, .ref (ra x1.toNat)), (0, .ref w), (1, .int (iI x1)), (2, .int (iI x2))]) hx hb dX2_layOut_20 hl (by decide) rfl (fun ls hl => ?_)
  refine lv_iconst (v := iI (0)) hx hb dX2_layOut_22 (by decide +kernel) ?_
  refine lv_istore (lv' := [(5, .int (iI 0)), (4, .ref (ra x2.toNat)), (3, .ref (ra x1.toNat)), (0, .ref w), (1, .int (iI x1)), (2, .int (iI x2))]) hx hb dX2_layOut_23 hl (by decide) rfl (fun ls hl => ?_)
  refine lv_iconst (v := iI (0)) hx hb dX2_layOut_25 (by decide +kernel) ?_
  refine lv_istore (lv' := [(6, .int (iI 0)), (5, .int (iI 0)), (4, .ref (ra x2.toNat)), (3, .ref (ra x1.toNat)), (0, .ref w), (1, .int (iI x1)), (2, .int (iI x2))]) hx hb dX2_layOut_26 hl (by decide) rfl (fun ls hl => ?_)
  refine lv_iconst (v := iI (0)) hx hb dX2_layOut_28 (by decide +kernel) ?_
  refine lv_istore (lv' := [(7, .int (iI 0)), (6, .int (iI 0)), (5, .int (iI 0)), (4, .ref (ra x2.toNat)), (3, .ref (ra x1.toNat)), (0, .ref w), (1, .int (iI x1)), (2, .int (iI x2))]) hx hb dX2_layOut_29 hl (by decide) rfl (fun ls hl => ?_)
  have loop_31 : ∀ (n_31 : Nat) (i : Int) (j : Int) (n : Int) (s1 : Nat → Int32) (hi : 0 ≤ i ∧ i ≤ tn x1.toNat) (hj : 0 ≤ j ∧ j ≤ tn x2.toNat) (hn : 0 ≤ n ∧ n ≤ 20) (hf : layL (sgF (EF (gs x1.toNat) (tn x1.toNat) (gs x2.toNat) (tn x2.toNat)) (fun x y => tog (gs x1.toNat x.toNat) (gs x2.toNat y.toNat)) (tn x1.toNat) (tn x2.toNat)) (tn x1.toNat) (tn x2.toNat) 20 0 0 0 = layL (sgF (EF (gs x1.toNat) (tn x1.toNat) (gs x2.toNat) (tn x2.toNat)) (fun x y => tog (gs x1.toNat x.toNat) (gs x2.toNat y.toNat)) (tn x1.toNat) (tn x2.toNat)) (tn x1.toNat) (tn x2.toNat) (20 - n).toNat i j n) (hm_31 : 20 - n < (n_31 : Int)) (H : Heap) (locs : List Loc) (hP : va_P D vwCl [(w, .inr (1, [.ref rw, .ref bq, .ref sq, .int (iI mp)])), (rw, .inl (gr, 3, .inr (.inr (.inr (.inr (rF ra)))))), (bq, aI gi 121 u_r_1), ((ra 0), .inr (3, [.ref (ia 0), .int (iI (tn 0))])), ((ia 0), aI gi 10 (gs 0)), ((ra 1), .inr (3, [.ref (ia 1), .int (iI (tn 1))])), ((ia 1), aI gi 10 (gs 1)), ((ra 2), .inr (3, [.ref (ia 2), .int (iI (tn 2))])), ((ia 2), aI gi 10 (gs 2)), (sq, .inl (gc, 20, .inl s1))] H) (hD : va_D A [(w, .inr (1, [.ref rw, .ref bq, .ref sq, .int (iI mp)])), (rw, .inl (gr, 3, .inr (.inr (.inr (.inr (rF ra)))))), (bq, aI gi 121 u_r_1), ((ra 0), .inr (3, [.ref (ia 0), .int (iI (tn 0))])), ((ia 0), aI gi 10 (gs 0)), ((ra 1), .inr (3, [.ref (ia 1), .int (iI (tn 1))])), ((ia 1), aI gi 10 (gs 1)), ((ra 2), .inr (3, [.ref (ia 2), .int (iI (tn 2))])), ((ia 2), aI gi 10 (gs 2)), (sq, .inl (gc, 20, .inl s1))]) (hS : va_S A s.heap H locs) (ls : Array Slot) (hl : lv_has ls 9 [(0, .ref w), (1, .int (iI x1)), (2, .int (iI x2)), (3, .ref (ra x1.toNat)), (4, .ref (ra x2.toNat)), (5, .int (iI i)), (6, .int (iI j)), (7, .int (iI n))]), W p l e { frames := 4, cells := 0, slots := 0, locals := 94 } s m args below meth c H locs 0 0 Q (F0 m 31 ls []) := by
    intro n_31
    induction n_31 with
    | zero => intro i j n s1 hi hj hn hf hm_31 H locs hP hD hS ls hl; exact absurd hm_31 (by omega)
    | succ n_31 ih_31 =>
      intro i j n s1 hi hj hn hf hm_31 H locs hP hD hS ls hl
      refine lv_iload hx hb dX2_layOut_31 (lv_at hl 7 rfl) ?_
      refine lv_aload_n hx hb dX2_layOut_33 rfl (lv_at hl 0 rfl) ?_
      refine va_get (D := D) (ci := 1) (v := .ref sq) (C := RX2) (T := TX2) (N := 4) hx hb hts i2 hown hK.1 hP 0 rfl rfl 2 (by decide) f24 (fun _ h9 => h9) rfl dX2_layOut_34 ?_
      refine va_alen (v := iI 20) hx hb hK.1 hP 9 1 rfl rfl (by first | rfl | exact (iI_ofN _)) dX2_layOut_37 ?_
      refine zt_icmp_ge (tgt := 122) hx hb dX2_layOut_38 (by decide) (by omega) (fun c_2 => ?_) (fun c_2 => ?_)
      · refine lv_iload hx hb dX2_layOut_122 (lv_at hl 7 rfl) ?_
        exact hQ (u_r_1, s1) _ _ _ _ _ (congrArg iI (by rw [hf, layL_end (by omega)])) hP hD hS dX2_layOut_124
      · refine lv_aload_n hx hb dX2_layOut_41 rfl (lv_at hl 3 rfl) ?_
        refine lv_iload hx hb dX2_layOut_42 (lv_at hl 5 rfl) ?_
        refine zt_callV C (As := [.int (iI i)]) (rest := []) (c_X4_has l D gi gc gr (ra x1.toNat) (ia x1.toNat) (tn x1.toNat) i (by first | omega | assumption) (by first | omega | assumption)) (cwV 1 hts gX2_layOut_X4_has rfl rfl rfl (by decide +kernel) ⟨Nat.le_of_ble_eq_true rfl, Nat.le_of_ble_eq_true rfl⟩) (zt_preV hK ((zrow (hP.sub (ws' := rowsW gi ra ia tn gs) [3, 4, 5, 6, 7, 8] rfl) h1x).sub [0] rfl) [.int (iI i)] 0 rfl rfl) rfl hl.1 rfl (Nat.le_of_ble_eq_true rfl) dX2_layOut_44 ⟨Nat.le_of_ble_eq_true rfl, Nat.le_of_ble_eq_true rfl⟩ (fun r_3 hr_3 => ?_)
        obtain ⟨z_4, rfl, hz_4⟩ := hr_3
        refine zt_if_ne (tgt := 60) hx hb dX2_layOut_47 (by decide) (by omega) (fun c_5 => ?_) (fun c_5 => ?_)
        · refine lv_aload_n hx hb dX2_layOut_60 rfl (lv_at hl 0 rfl) ?_
          refine lv_aload_n hx hb dX2_layOut_61 rfl (lv_at hl 3 rfl) ?_
          refine lv_aload hx hb dX2_layOut_62 (lv_at hl 4 rfl) ?_
          refine lv_iload hx hb dX2_layOut_64 (lv_at hl 5 rfl) ?_
          refine lv_iload hx hb dX2_layOut_66 (lv_at hl 6 rfl) ?_
          refine zt_callV C (As := [.ref (ra x1.toNat), .ref (ra x2.toNat), .int (iI i), .int (iI j)]) (rest := []) (c_X2_signAt l D gi gc gr w rw bq sq mp u_r_1 (ra x1.toNat) (ia x1.toNat) (tn x1.toNat) (gs x1.toNat) (ra x2.toNat) (ia x2.toNat) (tn x2.toNat) (gs x2.toNat) i j (⟨hn1, hn2⟩) (hgs _ h1x) (hgs _ h2x) (by first | omega | assumption) (by first | omega | assumption) (by first | omega | assumption) (hT)) (cwV 4 hts gX2_layOut_X2_signAt rfl rfl rfl (by decide +kernel) ⟨Nat.le_of_ble_eq_true rfl, Nat.le_of_ble_eq_true rfl⟩) (zt_preV hK ((hP.sub (ws' := [(w, .inr (1, [.ref rw, .ref bq, .ref sq, .int (iI mp)])), (bq, aI gi 121 u_r_1)]) [0, 2] rfl).app (((zrow (hP.sub (ws' := rowsW gi ra ia tn gs) [3, 4, 5, 6, 7, 8] rfl) h1x)).app ((zrow (hP.sub (ws' := rowsW gi ra ia tn gs) [3, 4, 5, 6, 7, 8] rfl) h2x)))) [.ref (ra x1.toNat), .ref (ra x2.toNat), .int (iI i), .int (iI j)] 0 rfl rfl) rfl hl.1 rfl (Nat.le_of_ble_eq_true rfl) dX2_layOut_68 ⟨Nat.le_of_ble_eq_true rfl, Nat.le_of_ble_eq_true rfl⟩ (fun r_6 hr_6 => ?_)
          obtain ⟨z_7, rfl, hz_7⟩ := hr_6
          obtain ⟨sv, hsv⟩ : ∃ q, q = sgF (EF (gs x1.toNat) (tn x1.toNat) (gs x2.toNat) (tn x2.toNat)) (fun x y => tog (gs x1.toNat x.toNat) (gs x2.toNat y.toNat)) (tn x1.toNat) (tn x2.toNat) i j := ⟨_, rfl⟩
          rw [← hsv] at hz_7
          have hend : j = tn x2.toNat → i < tn x1.toNat → sv = 1 := fun q1 q2 => by rw [hsv, q1]; exact sgF_end ⟨hi.1, q2⟩
          have hend2 : i = tn x1.toNat → sv = 2 := fun q1 => by rw [hsv, q1]; exact sgF_end2
          have hcase : (j = tn x2.toNat ∧ i < tn x1.toNat ∧ sv = 1) ∨ (i = tn x1.toNat ∧ sv = 2) ∨ (i < tn x1.toNat ∧ j < tn x2.toNat) := by
            rcases (show (j = tn x2.toNat ∧ i < tn x1.toNat) ∨ i = tn x1.toNat ∨ (i < tn x1.toNat ∧ j < tn x2.toNat) by omega) with q | q | q
            · exact Or.inl ⟨q.1, q.2, hend q.1 q.2⟩
            · exact Or.inr (Or.inl ⟨q, hend2 q⟩)
            · exact Or.inr (Or.inr q)
          refine lv_istore (lv' := [(8, .int (iI z_7)), (0, .ref w), (1, .int (iI x1)), (2, .int (iI x2)), (3, .ref (ra x1.toNat)), (4, .ref (ra x2.toNat)), (5, .int (iI i)), (6, .int (iI j)), (7, .int (iI n))]) hx hb dX2_layOut_71 hl (by decide) rfl (fun ls hl => ?_)
          refine lv_aload_n hx hb dX2_layOut_73 rfl (lv_at hl 1 rfl) ?_
          refine va_get (D := D) (ci := 1) (v := .ref sq) (C := RX2) (T := TX2) (N := 4) hx hb hts i2 hown hK.1 hP 0 rfl rfl 2 (by decide) f24 (fun _ h9 => h9) rfl dX2_layOut_74 ?_
          refine lv_iload hx hb dX2_layOut_77 (lv_at hl 8 rfl) ?_
          refine lv_iload hx hb dX2_layOut_79 (lv_at hl 0 rfl) ?_
          refine zt_cast hx hb hK.1 hP hD hS 9 1 rfl rfl (by omega) (by omega) dX2_layOut_81 (fun f_8 H locs hP hD hS => ?_)
          have hP : va_P D vwCl [(w, .inr (1, [.ref rw, .ref bq, .ref sq, .int (iI mp)])), (rw, .inl (gr, 3, .inr (.inr (.inr (.inr (rF ra)))))), (bq, aI gi 121 u_r_1), ((ra 0), .inr (3, [.ref (ia 0), .int (iI (tn 0))])), ((ia 0), aI gi 10 (gs 0)), ((ra 1), .inr (3, [.ref (ia 1), .int (iI (tn 1))])), ((ia 1), aI gi 10 (gs 1)), ((ra 2), .inr (3, [.ref (ia 2), .int (iI (tn 2))])), ((ia 2), aI gi 10 (gs 2)), (sq, .inl (gc, 20, .inl f_8))] H := hP
          have hD : va_D A [(w, .inr (1, [.ref rw, .ref bq, .ref sq, .int (iI mp)])), (rw, .inl (gr, 3, .inr (.inr (.inr (.inr (rF ra)))))), (bq, aI gi 121 u_r_1), ((ra 0), .inr (3, [.ref (ia 0), .int (iI (tn 0))])), ((ia 0), aI gi 10 (gs 0)), ((ra 1), .inr (3, [.ref (ia 1), .int (iI (tn 1))])), ((ia 1), aI gi 10 (gs 1)), ((ra 2), .inr (3, [.ref (ia 2), .int (iI (tn 2))])), ((ia 2), aI gi 10 (gs 2)), (sq, .inl (gc, 20, .inl f_8))] := hD
          refine lv_iinc (v := iI (n + 1)) (lv' := [(7, .int (iI (n + 1))), (8, .int (iI z_7)), (0, .ref w), (1, .int (iI x1)), (2, .int (iI x2)), (3, .ref (ra x1.toNat)), (4, .ref (ra x2.toNat)), (5, .int (iI i)), (6, .int (iI j))]) hx hb dX2_layOut_82 hl (k := 8) rfl (iI_add _ _) (by decide) rfl (fun ls hl => ?_)
          refine lv_iload hx hb dX2_layOut_85 (lv_at hl 7 rfl) ?_
          refine lv_iload hx hb dX2_layOut_87 (lv_at hl 1 rfl) ?_
          refine lv_bipush (v := iI (50)) hx hb dX2_layOut_89 (by decide +kernel) ?_
          refine zt_icmp_ne (tgt := 98) hx hb dX2_layOut_91 (by decide) (by omega) (fun c_9 => ?_) (fun c_9 => ?_)
          · refine lv_iconst (v := iI (1)) hx hb dX2_layOut_98 (by decide +kernel) ?_
            refine zt_iadd hx hb dX2_layOut_99 ?_
            refine lv_istore (lv' := [(5, .int (iI (i + 1))), (7, .int (iI (n + 1))), (8, .int (iI z_7)), (0, .ref w), (1, .int (iI x1)), (2, .int (iI x2)), (3, .ref (ra x1.toNat)), (4, .ref (ra x2.toNat)), (6, .int (iI j))]) hx hb dX2_layOut_100 hl (by decide) rfl (fun ls hl => ?_)
            refine lv_iload hx hb dX2_layOut_102 (lv_at hl 8 rfl) ?_
            refine lv_iload hx hb dX2_layOut_104 (lv_at hl 2 rfl) ?_
            refine lv_bipush (v := iI (49)) hx hb dX2_layOut_106 (by decide +kernel) ?_
            refine zt_icmp_ne (tgt := 115) hx hb dX2_layOut_108 (by decide) (by omega) (fun c_10 => ?_) (fun c_10 => ?_)
            · refine lv_iconst (v := iI (1)) hx hb dX2_layOut_115 (by decide +kernel) ?_
              refine zt_iadd hx hb dX2_layOut_116 ?_
              refine lv_istore (lv' := [(6, .int (iI (j + 1))), (5, .int (iI (i + 1))), (7, .int (iI (n + 1))), (8, .int (iI z_7)), (0, .ref w), (1, .int (iI x1)), (2, .int (iI x2)), (3, .ref (ra x1.toNat)), (4, .ref (ra x2.toNat))]) hx hb dX2_layOut_117 hl (by decide) rfl (fun ls hl => ?_)
              refine lv_goto (tgt := 31) hx hb dX2_layOut_119 (by decide) ?_
              exact ih_31 (i + 1) (j + 1) (n + 1) f_8 (by omega) (by omega) (by omega) (by rw [hf, show (20 - n).toNat = (20 - (n + 1)).toNat + 1 by omega]; exact layL_go hsv (by omega) (by split <;> omega) (by split <;> omega)) (by omega) H locs hP hD hS ls (lv_sub hl [4, 5, 6, 7, 8, 1, 0, 2] rfl)
            · refine lv_iconst (v := iI (0)) hx hb dX2_layOut_111 (by decide +kernel) ?_
              refine lv_goto (tgt := 116) hx hb dX2_layOut_112 (by decide) ?_
              refine zt_iadd hx hb dX2_layOut_116 ?_
              refine lv_istore (lv' := [(6, .int (iI (j + 0))), (5, .int (iI (i + 1))), (7, .int (iI (n + 1))), (8, .int (iI z_7)), (0, .ref w), (1, .int (iI x1)), (2, .int (iI x2)), (3, .ref (ra x1.toNat)), (4, .ref (ra x2.toNat))]) hx hb dX2_layOut_117 hl (by decide) rfl (fun ls hl => ?_)
              refine lv_goto (tgt := 31) hx hb dX2_layOut_119 (by decide) ?_
              exact ih_31 (i + 1) (j + 0) (n + 1) f_8 (by omega) (by omega) (by omega) (by rw [hf, show (20 - n).toNat = (20 - (n + 1)).toNat + 1 by omega]; exact layL_go hsv (by omega) (by split <;> omega) (by split <;> omega)) (by omega) H locs hP hD hS ls (lv_sub hl [4, 5, 6, 7, 8, 1, 0, 2] rfl)
          · refine lv_iconst (v := iI (0)) hx hb dX2_layOut_94 (by decide +kernel) ?_
            refine lv_goto (tgt := 99) hx hb dX2_layOut_95 (by decide) ?_
            refine zt_iadd hx hb dX2_layOut_99 ?_
            refine lv_istore (lv' := [(5, .int (iI (i + 0))), (7, .int (iI (n + 1))), (8, .int (iI z_7)), (0, .ref w), (1, .int (iI x1)), (2, .int (iI x2)), (3, .ref (ra x1.toNat)), (4, .ref (ra x2.toNat)), (6, .int (iI j))]) hx hb dX2_layOut_100 hl (by decide) rfl (fun ls hl => ?_)
            refine lv_iload hx hb dX2_layOut_102 (lv_at hl 8 rfl) ?_
            refine lv_iload hx hb dX2_layOut_104 (lv_at hl 2 rfl) ?_
            refine lv_bipush (v := iI (49)) hx hb dX2_layOut_106 (by decide +kernel) ?_
            refine zt_icmp_ne (tgt := 115) hx hb dX2_layOut_108 (by decide) (by omega) (fun c_11 => ?_) (fun c_11 => ?_)
            · refine lv_iconst (v := iI (1)) hx hb dX2_layOut_115 (by decide +kernel) ?_
              refine zt_iadd hx hb dX2_layOut_116 ?_
              refine lv_istore (lv' := [(6, .int (iI (j + 1))), (5, .int (iI (i + 0))), (7, .int (iI (n + 1))), (8, .int (iI z_7)), (0, .ref w), (1, .int (iI x1)), (2, .int (iI x2)), (3, .ref (ra x1.toNat)), (4, .ref (ra x2.toNat))]) hx hb dX2_layOut_117 hl (by decide) rfl (fun ls hl => ?_)
              refine lv_goto (tgt := 31) hx hb dX2_layOut_119 (by decide) ?_
              exact ih_31 (i + 0) (j + 1) (n + 1) f_8 (by omega) (by omega) (by omega) (by rw [hf, show (20 - n).toNat = (20 - (n + 1)).toNat + 1 by omega]; exact layL_go hsv (by omega) (by split <;> omega) (by split <;> omega)) (by omega) H locs hP hD hS ls (lv_sub hl [4, 5, 6, 7, 8, 1, 0, 2] rfl)
            · refine lv_iconst (v := iI (0)) hx hb dX2_layOut_111 (by decide +kernel) ?_
              refine lv_goto (tgt := 116) hx hb dX2_layOut_112 (by decide) ?_
              refine zt_iadd hx hb dX2_layOut_116 ?_
              refine lv_istore (lv' := [(6, .int (iI (j + 0))), (5, .int (iI (i + 0))), (7, .int (iI (n + 1))), (8, .int (iI z_7)), (0, .ref w), (1, .int (iI x1)), (2, .int (iI x2)), (3, .ref (ra x1.toNat)), (4, .ref (ra x2.toNat))]) hx hb dX2_layOut_117 hl (by decide) rfl (fun ls hl => ?_)
              refine lv_goto (tgt := 31) hx hb dX2_layOut_119 (by decide) ?_
              exact ih_31 (i + 0) (j + 0) (n + 1) f_8 (by omega) (by omega) (by omega) (by rw [hf, show (20 - n).toNat = (20 - (n + 1)).toNat + 1 by omega]; exact layL_go hsv (by omega) (by split <;> omega) (by split <;> omega)) (by omega) H locs hP hD hS ls (lv_sub hl [4, 5, 6, 7, 8, 1, 0, 2] rfl)
        · refine lv_aload hx hb dX2_layOut_50 (lv_at hl 4 rfl) ?_
          refine lv_iload hx hb dX2_layOut_52 (lv_at hl 6 rfl) ?_
          refine zt_callV C (As := [.int (iI j)]) (rest := []) (c_X4_has l D gi gc gr (ra x2.toNat) (ia x2.toNat) (tn x2.toNat) j (by first | omega | assumption) (by first | omega | assumption)) (cwV 1 hts gX2_layOut_X4_has rfl rfl rfl (by decide +kernel) ⟨Nat.le_of_ble_eq_true rfl, Nat.le_of_ble_eq_true rfl⟩) (zt_preV hK ((zrow (hP.sub (ws' := rowsW gi ra ia tn gs) [3, 4, 5, 6, 7, 8] rfl) h2x).sub [0] rfl) [.int (iI j)] 0 rfl rfl) rfl hl.1 rfl (Nat.le_of_ble_eq_true rfl) dX2_layOut_54 ⟨Nat.le_of_ble_eq_true rfl, Nat.le_of_ble_eq_true rfl⟩ (fun r_12 hr_12 => ?_)
          obtain ⟨z_13, rfl, hz_13⟩ := hr_12
          refine zt_if_eq (tgt := 122) hx hb dX2_layOut_57 (by decide) (by omega) (fun c_14 => ?_) (fun c_14 => ?_)
          · refine lv_iload hx hb dX2_layOut_122 (lv_at hl 7 rfl) ?_
            exact hQ (u_r_1, s1) _ _ _ _ _ (congrArg iI (by rw [hf, layL_end (by omega)])) hP hD hS dX2_layOut_124
          · refine lv_aload_n hx hb dX2_layOut_60 rfl (lv_at hl 0 rfl) ?_
            refine lv_aload_n hx hb dX2_layOut_61 rfl (lv_at hl 3 rfl) ?_
            refine lv_aload hx hb dX2_layOut_62 (lv_at hl 4 rfl) ?_
            refine lv_iload hx hb dX2_layOut_64 (lv_at hl 5 rfl) ?_
            refine lv_iload hx hb dX2_layOut_66 (lv_at hl 6 rfl) ?_
            refine zt_callV C (As := [.ref (ra x1.toNat), .ref (ra x2.toNat), .int (iI i), .int (iI j)]) (rest := []) (c_X2_signAt l D gi gc gr w rw bq sq mp u_r_1 (ra x1.toNat) (ia x1.toNat) (tn x1.toNat) (gs x1.toNat) (ra x2.toNat) (ia x2.toNat) (tn x2.toNat) (gs x2.toNat) i j (⟨hn1, hn2⟩) (hgs _ h1x) (hgs _ h2x) (by first | omega | assumption) (by first | omega | assumption) (by first | omega | assumption) (hT)) (cwV 4 hts gX2_layOut_X2_signAt rfl rfl rfl (by decide +kernel) ⟨Nat.le_of_ble_eq_true rfl, Nat.le_of_ble_eq_true rfl⟩) (zt_preV hK ((hP.sub (ws' := [(w, .inr (1, [.ref rw, .ref bq, .ref sq, .int (iI mp)])), (bq, aI gi 121 u_r_1)]) [0, 2] rfl).app (((zrow (hP.sub (ws' := rowsW gi ra ia tn gs) [3, 4, 5, 6, 7, 8] rfl) h1x)).app ((zrow (hP.sub (ws' := rowsW gi ra ia tn gs) [3, 4, 5, 6, 7, 8] rfl) h2x)))) [.ref (ra x1.toNat), .ref (ra x2.toNat), .int (iI i), .int (iI j)] 0 rfl rfl) rfl hl.1 rfl (Nat.le_of_ble_eq_true rfl) dX2_layOut_68 ⟨Nat.le_of_ble_eq_true rfl, Nat.le_of_ble_eq_true rfl⟩ (fun r_15 hr_15 => ?_)
            obtain ⟨z_16, rfl, hz_16⟩ := hr_15
            obtain ⟨sv, hsv⟩ : ∃ q, q = sgF (EF (gs x1.toNat) (tn x1.toNat) (gs x2.toNat) (tn x2.toNat)) (fun x y => tog (gs x1.toNat x.toNat) (gs x2.toNat y.toNat)) (tn x1.toNat) (tn x2.toNat) i j := ⟨_, rfl⟩
            rw [← hsv] at hz_16
            have hend : j = tn x2.toNat → i < tn x1.toNat → sv = 1 := fun q1 q2 => by rw [hsv, q1]; exact sgF_end ⟨hi.1, q2⟩
            have hend2 : i = tn x1.toNat → sv = 2 := fun q1 => by rw [hsv, q1]; exact sgF_end2
            have hcase : (j = tn x2.toNat ∧ i < tn x1.toNat ∧ sv = 1) ∨ (i = tn x1.toNat ∧ sv = 2) ∨ (i < tn x1.toNat ∧ j < tn x2.toNat) := by
              rcases (show (j = tn x2.toNat ∧ i < tn x1.toNat) ∨ i = tn x1.toNat ∨ (i < tn x1.toNat ∧ j < tn x2.toNat) by omega) with q | q | q
              · exact Or.inl ⟨q.1, q.2, hend q.1 q.2⟩
              · exact Or.inr (Or.inl ⟨q, hend2 q⟩)
              · exact Or.inr (Or.inr q)
            refine lv_istore (lv' := [(8, .int (iI z_16)), (0, .ref w), (1, .int (iI x1)), (2, .int (iI x2)), (3, .ref (ra x1.toNat)), (4, .ref (ra x2.toNat)), (5, .int (iI i)), (6, .int (iI j)), (7, .int (iI n))]) hx hb dX2_layOut_71 hl (by decide) rfl (fun ls hl => ?_)
            refine lv_aload_n hx hb dX2_layOut_73 rfl (lv_at hl 1 rfl) ?_
            refine va_get (D := D) (ci := 1) (v := .ref sq) (C := RX2) (T := TX2) (N := 4) hx hb hts i2 hown hK.1 hP 0 rfl rfl 2 (by decide) f24 (fun _ h9 => h9) rfl dX2_layOut_74 ?_
            refine lv_iload hx hb dX2_layOut_77 (lv_at hl 8 rfl) ?_
            refine lv_iload hx hb dX2_layOut_79 (lv_at hl 0 rfl) ?_
            refine zt_cast hx hb hK.1 hP hD hS 9 1 rfl rfl (by omega) (by omega) dX2_layOut_81 (fun f_17 H locs hP hD hS => ?_)
            have hP : va_P D vwCl [(w, .inr (1, [.ref rw, .ref bq, .ref sq, .int (iI mp)])), (rw, .inl (gr, 3, .inr (.inr (.inr (.inr (rF ra)))))), (bq, aI gi 121 u_r_1), ((ra 0), .inr (3, [.ref (ia 0), .int (iI (tn 0))])), ((ia 0), aI gi 10 (gs 0)), ((ra 1), .inr (3, [.ref (ia 1), .int (iI (tn 1))])), ((ia 1), aI gi 10 (gs 1)), ((ra 2), .inr (3, [.ref (ia 2), .int (iI (tn 2))])), ((ia 2), aI gi 10 (gs 2)), (sq, .inl (gc, 20, .inl f_17))] H := hP
            have hD : va_D A [(w, .inr (1, [.ref rw, .ref bq, .ref sq, .int (iI mp)])), (rw, .inl (gr, 3, .inr (.inr (.inr (.inr (rF ra)))))), (bq, aI gi 121 u_r_1), ((ra 0), .inr (3, [.ref (ia 0), .int (iI (tn 0))])), ((ia 0), aI gi 10 (gs 0)), ((ra 1), .inr (3, [.ref (ia 1), .int (iI (tn 1))])), ((ia 1), aI gi 10 (gs 1)), ((ra 2), .inr (3, [.ref (ia 2), .int (iI (tn 2))])), ((ia 2), aI gi 10 (gs 2)), (sq, .inl (gc, 20, .inl f_17))] := hD
            refine lv_iinc (v := iI (n + 1)) (lv' := [(7, .int (iI (n + 1))), (8, .int (iI z_16)), (0, .ref w), (1, .int (iI x1)), (2, .int (iI x2)), (3, .ref (ra x1.toNat)), (4, .ref (ra x2.toNat)), (5, .int (iI i)), (6, .int (iI j))]) hx hb dX2_layOut_82 hl (k := 8) rfl (iI_add _ _) (by decide) rfl (fun ls hl => ?_)
            refine lv_iload hx hb dX2_layOut_85 (lv_at hl 7 rfl) ?_
            refine lv_iload hx hb dX2_layOut_87 (lv_at hl 1 rfl) ?_
            refine lv_bipush (v := iI (50)) hx hb dX2_layOut_89 (by decide +kernel) ?_
            refine zt_icmp_ne (tgt := 98) hx hb dX2_layOut_91 (by decide) (by omega) (fun c_18 => ?_) (fun c_18 => ?_)
            · refine lv_iconst (v := iI (1)) hx hb dX2_layOut_98 (by decide +kernel) ?_
              refine zt_iadd hx hb dX2_layOut_99 ?_
              refine lv_istore (lv' := [(5, .int (iI (i + 1))), (7, .int (iI (n + 1))), (8, .int (iI z_16)), (0, .ref w), (1, .int (iI x1)), (2, .int (iI x2)), (3, .ref (ra x1.toNat)), (4, .ref (ra x2.toNat)), (6, .int (iI j))]) hx hb dX2_layOut_100 hl (by decide) rfl (fun ls hl => ?_)
              refine lv_iload hx hb dX2_layOut_102 (lv_at hl 8 rfl) ?_
              refine lv_iload hx hb dX2_layOut_104 (lv_at hl 2 rfl) ?_
              refine lv_bipush (v := iI (49)) hx hb dX2_layOut_106 (by decide +kernel) ?_
              refine zt_icmp_ne (tgt := 115) hx hb dX2_layOut_108 (by decide) (by omega) (fun c_19 => ?_) (fun c_19 => ?_)
              · refine lv_iconst (v := iI (1)) hx hb dX2_layOut_115 (by decide +kernel) ?_
                refine zt_iadd hx hb dX2_layOut_116 ?_
                refine lv_istore (lv' := [(6, .int (iI (j + 1))), (5, .int (iI (i + 1))), (7, .int (iI (n + 1))), (8, .int (iI z_16)), (0, .ref w), (1, .int (iI x1)), (2, .int (iI x2)), (3, .ref (ra x1.toNat)), (4, .ref (ra x2.toNat))]) hx hb dX2_layOut_117 hl (by decide) rfl (fun ls hl => ?_)
                refine lv_goto (tgt := 31) hx hb dX2_layOut_119 (by decide) ?_
                exact ih_31 (i + 1) (j + 1) (n + 1) f_17 (by omega) (by omega) (by omega) (by rw [hf, show (20 - n).toNat = (20 - (n + 1)).toNat + 1 by omega]; exact layL_go hsv (by omega) (by split <;> omega) (by split <;> omega)) (by omega) H locs hP hD hS ls (lv_sub hl [4, 5, 6, 7, 8, 1, 0, 2] rfl)
              · refine lv_iconst (v := iI (0)) hx hb dX2_layOut_111 (by decide +kernel) ?_
                refine lv_goto (tgt := 116) hx hb dX2_layOut_112 (by decide) ?_
                refine zt_iadd hx hb dX2_layOut_116 ?_
                refine lv_istore (lv' := [(6, .int (iI (j + 0))), (5, .int (iI (i + 1))), (7, .int (iI (n + 1))), (8, .int (iI z_16)), (0, .ref w), (1, .int (iI x1)), (2, .int (iI x2)), (3, .ref (ra x1.toNat)), (4, .ref (ra x2.toNat))]) hx hb dX2_layOut_117 hl (by decide) rfl (fun ls hl => ?_)
                refine lv_goto (tgt := 31) hx hb dX2_layOut_119 (by decide) ?_
                exact ih_31 (i + 1) (j + 0) (n + 1) f_17 (by omega) (by omega) (by omega) (by rw [hf, show (20 - n).toNat = (20 - (n + 1)).toNat + 1 by omega]; exact layL_go hsv (by omega) (by split <;> omega) (by split <;> omega)) (by omega) H locs hP hD hS ls (lv_sub hl [4, 5, 6, 7, 8, 1, 0, 2] rfl)
            · refine lv_iconst (v := iI (0)) hx hb dX2_layOut_94 (by decide +kernel) ?_
              refine lv_goto (tgt := 99) hx hb dX2_layOut_95 (by decide) ?_
              refine zt_iadd hx hb dX2_layOut_99 ?_
              refine lv_istore (lv' := [(5, .int (iI (i + 0))), (7, .int (iI (n + 1))), (8, .int (iI z_16)), (0, .ref w), (1, .int (iI x1)), (2, .int (iI x2)), (3, .ref (ra x1.toNat)), (4, .ref (ra x2.toNat)), (6, .int (iI j))]) hx hb dX2_layOut_100 hl (by decide) rfl (fun ls hl => ?_)
              refine lv_iload hx hb dX2_layOut_102 (lv_at hl 8 rfl) ?_
              refine lv_iload hx hb dX2_layOut_104 (lv_at hl 2 rfl) ?_
              refine lv_bipush (v := iI (49)) hx hb dX2_layOut_106 (by decide +kernel) ?_
              refine zt_icmp_ne (tgt := 115) hx hb dX2_layOut_108 (by decide) (by omega) (fun c_20 => ?_) (fun c_20 => ?_)
              · refine lv_iconst (v := iI (1)) hx hb dX2_layOut_115 (by decide +kernel) ?_
                refine zt_iadd hx hb dX2_layOut_116 ?_
                refine lv_istore (lv' := [(6, .int (iI (j + 1))), (5, .int (iI (i + 0))), (7, .int (iI (n + 1))), (8, .int (iI z_16)), (0, .ref w), (1, .int (iI x1)), (2, .int (iI x2)), (3, .ref (ra x1.toNat)), (4, .ref (ra x2.toNat))]) hx hb dX2_layOut_117 hl (by decide) rfl (fun ls hl => ?_)
                refine lv_goto (tgt := 31) hx hb dX2_layOut_119 (by decide) ?_
                exact ih_31 (i + 0) (j + 1) (n + 1) f_17 (by omega) (by omega) (by omega) (by rw [hf, show (20 - n).toNat = (20 - (n + 1)).toNat + 1 by omega]; exact layL_go hsv (by omega) (by split <;> omega) (by split <;> omega)) (by omega) H locs hP hD hS ls (lv_sub hl [4, 5, 6, 7, 8, 1, 0, 2] rfl)
              · refine lv_iconst (v := iI (0)) hx hb dX2_layOut_111 (by decide +kernel) ?_
                refine lv_goto (tgt := 116) hx hb dX2_layOut_112 (by decide) ?_
                refine zt_iadd hx hb dX2_layOut_116 ?_
                refine lv_istore (lv' := [(6, .int (iI (j + 0))), (5, .int (iI (i + 0))), (7, .int (iI (n + 1))), (8, .int (iI z_16)), (0, .ref w), (1, .int (iI x1)), (2, .int (iI x2)), (3, .ref (ra x1.toNat)), (4, .ref (ra x2.toNat))]) hx hb dX2_layOut_117 hl (by decide) rfl (fun ls hl => ?_)
                refine lv_goto (tgt := 31) hx hb dX2_layOut_119 (by decide) ?_
                exact ih_31 (i + 0) (j + 0) (n + 1) f_17 (by omega) (by omega) (by omega) (by rw [hf, show (20 - n).toNat = (20 - (n + 1)).toNat + 1 by omega]; exact layL_go hsv (by omega) (by split <;> omega) (by split <;> omega)) (by omega) H locs hP hD hS ls (lv_sub hl [4, 5, 6, 7, 8, 1, 0, 2] rfl)
  exact loop_31 ((20 - 0 : Int).toNat + 1) 0 0 0 sf (by omega) (by omega) (by omega) (rfl) (by omega) H locs hP hD hS ls (lv_sub hl [5, 6, 7, 4, 3, 2, 1, 0] rfl)
