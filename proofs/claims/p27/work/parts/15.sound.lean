set_option maxHeartbeats 4000000 in
set_option maxRecDepth 100000 in
theorem c_X6_apart (l : Launch) (D : va_G) (gi gc gr : ClassId) (sz : Nat) (h : Nat) (k1 : Nat) (d : Nat) (o : Nat) (w : Nat) (bu : Nat) (chg : Int) (rfd : Int) (rw : Nat) (bq : Nat) (sq : Nat) (mp : Int) (pb : Nat → Int) (ra : Nat → Nat) (ia : Nat → Nat) (tn : Nat → Int) (gs : Nat → Nat → Int) (x1 : Int) (x2 : Int) (htn : ∀ k : Nat, k < 3 → 0 ≤ tn k ∧ tn k ≤ 10) (hgs : ∀ k : Nat, k < 3 → ∀ j : Nat, (j : Int) < tn k → 0 ≤ gs k j ∧ gs k j ≤ 99) (hmp : 0 ≤ mp ∧ mp ≤ 3) (hx1 : 0 ≤ x1 ∧ x1 < mp) (hx2 : 0 ≤ x2 ∧ x2 < mp) : Met l yX6_apart wsX6_apart { frames := 4, cells := 0, slots := 0, locals := 94 } (zPw D gi gc gr [(h, .inr (5, [.ref k1, .ref d, .ref o, .ref w, .ref bu, .int (iI chg), .int (iI rfd)])), (w, .inr (1, [.ref rw, .ref bq, .ref sq, .int (iI mp)])), (rw, .inl (gr, 3, .inr (.inr (.inr (.inr (rF ra)))))), (bq, aI gi 121 pb), ((ra 0), .inr (3, [.ref (ia 0), .int (iI (tn 0))])), ((ia 0), aI gi 10 (gs 0)), ((ra 1), .inr (3, [.ref (ia 1), .int (iI (tn 1))])), ((ia 1), aI gi 10 (gs 1)), ((ra 2), .inr (3, [.ref (ia 2), .int (iI (tn 2))])), ((ia 2), aI gi 10 (gs 2))] sz [.ref h, .int (iI x1), .int (iI x2)]) (va_Qi (S := Nat → Int) (fun v _ => v = iI (EF (gs x1.toNat) (tn x1.toNat) (gs x2.toNat) (tn x2.toNat) 0 0)) (zB D (va_A [(h, .inr (5, [.ref k1, .ref d, .ref o, .ref w, .ref bu, .int (iI chg), .int (iI rfd)])), (w, .inr (1, [.ref rw, .ref bq, .ref sq, .int (iI mp)])), (rw, .inl (gr, 3, .inr (.inr (.inr (.inr (rF ra)))))), (bq, aI gi 121 pb), ((ra 0), .inr (3, [.ref (ia 0), .int (iI (tn 0))])), ((ia 0), aI gi 10 (gs 0)), ((ra 1), .inr (3, [.ref (ia 1), .int (iI (tn 1))])), ((ia 1), aI gi 10 (gs 1)), ((ra 2), .inr (3, [.ref (ia 2), .int (iI (tn 2))])), ((ia 2), aI gi 10 (gs 2))] sz) (fun u => [(h, .inr (5, [.ref k1, .ref d, .ref o, .ref w, .ref bu, .int (iI chg), .int (iI rfd)])), (w, .inr (1, [.ref rw, .ref bq, .ref sq, .int (iI mp)])), (rw, .inl (gr, 3, .inr (.inr (.inr (.inr (rF ra)))))), (bq, aI gi 121 u), (ra 0, .inr (3, [.ref (ia 0), .int (iI (tn 0))])), (ia 0, aI gi 10 (gs 0)), (ra 1, .inr (3, [.ref (ia 1), .int (iI (tn 1))])), (ia 1, aI gi 10 (gs 1)), (ra 2, .inr (3, [.ref (ia 2), .int (iI (tn 2))])), (ia 2, aI gi 10 (gs 2))])) (va_A [(h, .inr (5, [.ref k1, .ref d, .ref o, .ref w, .ref bu, .int (iI chg), .int (iI rfd)])), (w, .inr (1, [.ref rw, .ref bq, .ref sq, .int (iI mp)])), (rw, .inl (gr, 3, .inr (.inr (.inr (.inr (rF ra)))))), (bq, aI gi 121 pb), ((ra 0), .inr (3, [.ref (ia 0), .int (iI (tn 0))])), ((ia 0), aI gi 10 (gs 0)), ((ra 1), .inr (3, [.ref (ia 1), .int (iI (tn 1))])), ((ia 1), aI gi 10 (gs 1)), ((ra 2), .inr (3, [.ref (ia 2), .int (iI (tn 2))])), ((ia 2), aI gi 10 (gs 2))] sz)) 0 0 (va_A [(h, .inr (5, [.ref k1, .ref d, .ref o, .ref w, .ref bu, .int (iI chg), .int (iI rfd)])), (w, .inr (1, [.ref rw, .ref bq, .ref sq, .int (iI mp)])), (rw, .inl (gr, 3, .inr (.inr (.inr (.inr (rF ra)))))), (bq, aI gi 121 pb), ((ra 0), .inr (3, [.ref (ia 0), .int (iI (tn 0))])), ((ia 0), aI gi 10 (gs 0)), ((ra 1), .inr (3, [.ref (ia 1), .int (iI (tn 1))])), ((ia 1), aI gi 10 (gs 1)), ((ra 2), .inr (3, [.ref (ia 2), .int (iI (tn 2))])), ((ia 2), aI gi 10 (gs 2))] sz) := by
  refine zt_metWi (own := RX6) (cc := cX6_apart) (maxL := 3) (by decide) rfl rfl (Nat.le_of_ble_eq_true rfl) ?_
  intro p e s m args below meth c Q A C hK hP hD hS hA _ hQ ls hl
  have hx := C.1
  have hb := C.2.1
  have hml := C.2.2.1
  have hown := C.2.2.2.1
  have hts := C.2.2.2.2
  have i6 : ∀ w ∈ u_ws RX6 TX6 7, w ∈ wsX6_apart := by decide +kernel
  have f35 := hts (.fieldLink RX6 35 "Threetwo" "prints" "LThreetwo$Prints;") (by decide +kernel)
  have hl : lv_has ls 3 [(0, .ref h), (1, .int (iI x1)), (2, .int (iI x2))] := hl
  refine lv_aload_n hx hb dX6_apart_0 rfl (lv_at hl 0 rfl) ?_
  refine lv_iload_n hx hb dX6_apart_1 rfl (lv_at hl 1 rfl) ?_
  refine zt_callVv C (As := [.int (iI x1)]) (rest := []) (c_X6_requirePrint l D gi gc gr h k1 d o w bu chg rfd rw bq sq mp x1 (by first | omega | assumption) (by first | omega | assumption)) (cwV 1 hts gX6_apart_X6_requirePrint rfl rfl rfl (by decide +kernel) ⟨Nat.le_of_ble_eq_true rfl, Nat.le_of_ble_eq_true rfl⟩) (zt_preV hK (hP.sub (ws' := [(h, .inr (5, [.ref k1, .ref d, .ref o, .ref w, .ref bu, .int (iI chg), .int (iI rfd)])), (w, .inr (1, [.ref rw, .ref bq, .ref sq, .int (iI mp)]))]) [0, 1] rfl) [.int (iI x1)] 0 rfl rfl) rfl hl.1 rfl (Nat.le_of_ble_eq_true rfl) dX6_apart_2 ⟨Nat.le_of_ble_eq_true rfl, Nat.le_of_ble_eq_true rfl⟩ (fun hr_1 => ?_)
  refine lv_aload_n hx hb dX6_apart_5 rfl (lv_at hl 0 rfl) ?_
  refine lv_iload_n hx hb dX6_apart_6 rfl (lv_at hl 2 rfl) ?_
  refine zt_callVv C (As := [.int (iI x2)]) (rest := []) (c_X6_requirePrint l D gi gc gr h k1 d o w bu chg rfd rw bq sq mp x2 (by first | omega | assumption) (by first | omega | assumption)) (cwV 1 hts gX6_apart_X6_requirePrint rfl rfl rfl (by decide +kernel) ⟨Nat.le_of_ble_eq_true rfl, Nat.le_of_ble_eq_true rfl⟩) (zt_preV hK (hP.sub (ws' := [(h, .inr (5, [.ref k1, .ref d, .ref o, .ref w, .ref bu, .int (iI chg), .int (iI rfd)])), (w, .inr (1, [.ref rw, .ref bq, .ref sq, .int (iI mp)]))]) [0, 1] rfl) [.int (iI x2)] 0 rfl rfl) rfl hl.1 rfl (Nat.le_of_ble_eq_true rfl) dX6_apart_7 ⟨Nat.le_of_ble_eq_true rfl, Nat.le_of_ble_eq_true rfl⟩ (fun hr_2 => ?_)
  refine lv_aload_n hx hb dX6_apart_10 rfl (lv_at hl 0 rfl) ?_
  refine va_get (D := D) (ci := 5) (v := .ref w) (C := RX6) (T := TX6) (N := 7) hx hb hts i6 hown hK.1 hP 0 rfl rfl 3 (by decide) f35 (fun _ h9 => h9) rfl dX6_apart_11 ?_
  refine lv_iload_n hx hb dX6_apart_14 rfl (lv_at hl 1 rfl) ?_
  refine lv_iload_n hx hb dX6_apart_15 rfl (lv_at hl 2 rfl) ?_
  have hPc := hP.sub (ws' := [(w, .inr (1, [.ref rw, .ref bq, .ref sq, .int (iI mp)])), (rw, .inl (gr, 3, .inr (.inr (.inr (.inr (rF ra)))))), (bq, aI gi 121 pb), ((ra 0), .inr (3, [.ref (ia 0), .int (iI (tn 0))])), ((ia 0), aI gi 10 (gs 0)), ((ra 1), .inr (3, [.ref (ia 1), .int (iI (tn 1))])), ((ia 1), aI gi 10 (gs 1)), ((ra 2), .inr (3, [.ref (ia 2), .int (iI (tn 2))])), ((ia 2), aI gi 10 (gs 2))]) [1, 2, 3, 4, 5, 6, 7, 8, 9] rfl
  have hDc := hD.sub (ws' := [(w, .inr (1, [.ref rw, .ref bq, .ref sq, .int (iI mp)])), (rw, .inl (gr, 3, .inr (.inr (.inr (.inr (rF ra)))))), (bq, aI gi 121 pb), ((ra 0), .inr (3, [.ref (ia 0), .int (iI (tn 0))])), ((ia 0), aI gi 10 (gs 0)), ((ra 1), .inr (3, [.ref (ia 1), .int (iI (tn 1))])), ((ia 1), aI gi 10 (gs 1)), ((ra 2), .inr (3, [.ref (ia 2), .int (iI (tn 2))])), ((ia 2), aI gi 10 (gs 2))]) [1, 2, 3, 4, 5, 6, 7, 8, 9] (by decide) rfl
  have hFc := va_free (wc := [(w, .inr (1, [.ref rw, .ref bq, .ref sq, .int (iI mp)])), (rw, .inl (gr, 3, .inr (.inr (.inr (.inr (rF ra)))))), (bq, aI gi 121 pb), ((ra 0), .inr (3, [.ref (ia 0), .int (iI (tn 0))])), ((ia 0), aI gi 10 (gs 0)), ((ra 1), .inr (3, [.ref (ia 1), .int (iI (tn 1))])), ((ia 1), aI gi 10 (gs 1)), ((ra 2), .inr (3, [.ref (ia 2), .int (iI (tn 2))])), ((ia 2), aI gi 10 (gs 2))]) hD hS hA [1, 2, 3, 4, 5, 6, 7, 8, 9] rfl
  refine va_calli (va_runV C (As := [.int (iI x1), .int (iI x2)]) (rest := []) (c_X2_distance l D gi gc gr s.heap.size w rw bq sq mp pb ra ia tn gs x1 x2 (by first | omega | assumption) (by first | omega | assumption) (by first | omega | assumption) (by first | omega | assumption)) (cwV 2 hts gX6_apart_X2_distance rfl rfl rfl (by decide +kernel) ⟨Nat.le_of_ble_eq_true rfl, Nat.le_of_ble_eq_true rfl⟩) (zt_preVw hK hPc hDc [.int (iI x1), .int (iI x2)] 0 rfl rfl) rfl rfl hl.1 rfl (lv_room (Nat.le_of_ble_eq_true rfl)) dX6_apart_16 ⟨Nat.le_of_ble_eq_true rfl, Nat.le_of_ble_eq_true rfl⟩) hS (fun q _ h => hFc q h) hFc (fun r_3 u_r_3 T9 H1 locs hT9 hvm hw hB hz1 hk1 hS => ?_)
  obtain ⟨hv_3, hT⟩ := hw
  try dsimp only at hT
  subst hv_3
  obtain ⟨hP1, hD1⟩ := hB
  rw [hT9] at hP1
  obtain ⟨hP, hD⟩ := zt_back (w1 := [(w, .inr (1, [.ref rw, .ref bq, .ref sq, .int (iI mp)])), (rw, .inl (gr, 3, .inr (.inr (.inr (.inr (rF ra)))))), (bq, aI gi 121 u_r_3), ((ra 0), .inr (3, [.ref (ia 0), .int (iI (tn 0))])), ((ia 0), aI gi 10 (gs 0)), ((ra 1), .inr (3, [.ref (ia 1), .int (iI (tn 1))])), ((ia 1), aI gi 10 (gs 1)), ((ra 2), .inr (3, [.ref (ia 2), .int (iI (tn 2))])), ((ia 2), aI gi 10 (gs 2))]) (wr := [(h, .inr (5, [.ref k1, .ref d, .ref o, .ref w, .ref bu, .int (iI chg), .int (iI rfd)]))]) (wn := [(h, .inr (5, [.ref k1, .ref d, .ref o, .ref w, .ref bu, .int (iI chg), .int (iI rfd)])), (w, .inr (1, [.ref rw, .ref bq, .ref sq, .int (iI mp)])), (rw, .inl (gr, 3, .inr (.inr (.inr (.inr (rF ra)))))), (bq, aI gi 121 u_r_3), ((ra 0), .inr (3, [.ref (ia 0), .int (iI (tn 0))])), ((ia 0), aI gi 10 (gs 0)), ((ra 1), .inr (3, [.ref (ia 1), .int (iI (tn 1))])), ((ia 1), aI gi 10 (gs 1)), ((ra 2), .inr (3, [.ref (ia 2), .int (iI (tn 2))])), ((ia 2), aI gi 10 (gs 2))]) hP hD [1, 2, 3, 4, 5, 6, 7, 8, 9] [0] [0, 1, 2, 3, 4, 5, 6, 7, 8, 9] rfl rfl (by decide) (by decide) hk1 hFc hP1 hD1 rfl (by decide)
  generalize H1 = H at hP hS ⊢
  exact hQ u_r_3 _ _ _ _ _ (rfl) hP hD hS dX6_apart_19
set_option maxHeartbeats 4000000 in
set_option maxRecDepth 100000 in
theorem c_X6_withFields (l : Launch) (D : va_G) (gi gc gr : ClassId) (h : Nat) (k1 : Nat) (d : Nat) (o : Nat) (w : Nat) (bu : Nat) (chg : Int) (rfd : Int) (r2 : Nat) (n1 : Nat) (n2 : Nat) (sg : Nat) (nn : Int) (r : Nat) (a : Nat) (t : Int) (g : Nat → Int) (q1 : Nat) (q2 : Nat) (q3 : Nat) (q4 : Nat) (q5 : Nat) (q6 : Nat) (cst : Int) (F : Int) (pl : Nat → Int) (fo : Nat → Int) (nf : Nat → Int) (dg : Int64) (ht : 0 ≤ t ∧ t ≤ 60) (hnn : 0 ≤ nn ∧ nn ≤ 512) : Met l yX6_withFields wsX6_withFields { frames := 3, cells := 0, slots := 0, locals := 64 } (zPr D gi gc gr [(h, .inr (5, [.ref k1, .ref d, .ref o, .ref w, .ref bu, .int (iI chg), .int (iI rfd)])), (d, .inr (4, [.ref r, .ref r2, .ref n1, .ref n2, .ref sg, .int (iI nn)])), (r, .inr (3, [.ref a, .int (iI t)])), (a, aI gi 60 g), (o, .inr (2, [.ref q1, .ref q2, .ref q3, .ref q4, .ref q5, .ref q6, .int (iI cst), .int (iI F), .int (iI 1)])), (q2, aI gi 60 pl), (q3, aI gi 60 fo), (n1, aI gi 512 nf)] [.ref h, .long dg]) (vp_Sl (fun v => v = wfL g pl fo nf nn t.toNat 0 dg)) 0 0 (fun _ => False) := by
  refine zt_metRl (own := RX6) (cc := cX6_withFields) (maxL := 7) (by decide) rfl rfl (Nat.le_of_ble_eq_true rfl) ?_
  intro p e s m args below meth c Q C hK hP hQ ls hl
  have hx := C.1
  have hb := C.2.1
  have hml := C.2.2.1
  have hown := C.2.2.2.1
  have hts := C.2.2.2.2
  have i5 : ∀ w ∈ u_ws RX5 TX5 6, w ∈ wsX6_withFields := by decide +kernel
  have i6 : ∀ w ∈ u_ws RX6 TX6 7, w ∈ wsX6_withFields := by decide +kernel
  have f21 := hts (.fieldLink RX6 21 "Threetwo" "strip" "LThreetwo$Strip;") (by decide +kernel)
  have hl : lv_has ls 7 [(0, .ref h), (1, .long dg)] := hl
  refine lv_lload_n hx hb dX6_withFields_0 rfl (lv_at hl 1 rfl) ?_
  refine lv_lstore_n (lv' := [(3, .long dg), (0, .ref h), (1, .long dg)]) hx hb dX6_withFields_1 rfl hl (by decide) rfl (fun ls hl => ?_)
  refine lv_iconst (v := iI (0)) hx hb dX6_withFields_2 (by decide +kernel) ?_
  refine lv_istore (lv' := [(5, .int (iI 0)), (3, .long dg), (0, .ref h), (1, .long dg)]) hx hb dX6_withFields_3 hl (by decide) rfl (fun ls hl => ?_)
  have loop_5 : ∀ (n_5 : Nat) (dd : Int64) (j : Int) (hj : 0 ≤ j ∧ j ≤ t) (hf : wfL g pl fo nf nn t.toNat 0 dg = wfL g pl fo nf nn (t - j).toNat j dd) (hm_5 : t - j < (n_5 : Int)) (ls : Array Slot) (hl : lv_has ls 7 [(0, .ref h), (1, .long dg), (3, .long dd), (5, .int (iI j))]), W p l e { frames := 3, cells := 0, slots := 0, locals := 64 } s m args below meth c s.heap [] 0 0 Q (F0 m 5 ls []) := by
    intro n_5
    induction n_5 with
    | zero => intro dd j hj hf hm_5 ls hl; exact absurd hm_5 (by omega)
    | succ n_5 ih_5 =>
      intro dd j hj hf hm_5 ls hl
      refine lv_iload hx hb dX6_withFields_5 (lv_at hl 3 rfl) ?_
      refine lv_aload_n hx hb dX6_withFields_7 rfl (lv_at hl 0 rfl) ?_
      refine va_get (D := D) (ci := 5) (v := .ref d) (C := RX6) (T := TX6) (N := 7) hx hb hts i6 hown hK.1 hP 0 rfl rfl 1 (by decide) f21 (fun _ h9 => h9) rfl dX6_withFields_8 ?_
      refine va_getN (D := D) (ci := 4) (v := .ref r) (C := RX5) (T := TX5) (N := 6) hx hb hts i5 hown hK.1 hP 1 rfl rfl 0 (by decide) (zK.n79 hK _) (fun _ h9 => h9) rfl dX6_withFields_11 ?_
      refine zt_callV C (As := []) (rest := [.int (iI j)]) (c_X4_many l D gi gc gr r a t) (cwV 0 hts gX6_withFields_X4_many rfl rfl rfl (by decide +kernel) ⟨Nat.le_of_ble_eq_true rfl, Nat.le_of_ble_eq_true rfl⟩) (zt_preV hK (hP.sub (ws' := [(r, .inr (3, [.ref a, .int (iI t)]))]) [2] rfl) [] 0 rfl rfl) rfl hl.1 rfl (Nat.le_of_ble_eq_true rfl) dX6_withFields_14 ⟨Nat.le_of_ble_eq_true rfl, Nat.le_of_ble_eq_true rfl⟩ (fun r_1 hr_1 => ?_)
      obtain rfl := hr_1
      refine zt_icmp_ge (tgt := 57) hx hb dX6_withFields_17 (by decide) (by omega) (fun c_2 => ?_) (fun c_2 => ?_)
      · refine lv_lload_n hx hb dX6_withFields_57 rfl (lv_at hl 2 rfl) ?_
        exact hQ _ _ _ (by rw [hf, show (t - j).toNat = 0 by omega]; rfl) dX6_withFields_58
      · refine lv_iconst (v := iI (0)) hx hb dX6_withFields_20 (by decide +kernel) ?_
        refine lv_istore (lv' := [(6, .int (iI 0)), (0, .ref h), (1, .long dg), (3, .long dd), (5, .int (iI j))]) hx hb dX6_withFields_21 hl (by decide) rfl (fun ls hl => ?_)
        refine lv_iload hx hb dX6_withFields_23 (lv_at hl 0 rfl) ?_
        refine lv_iconst (v := iI (4)) hx hb dX6_withFields_25 (by decide +kernel) ?_
        refine zt_icmp_ge (tgt := 51) hx hb dX6_withFields_26 (by decide) (by omega) (fun c_3 => absurd c_3 (by omega)) (fun c_3 => ?_)
        refine lv_lload_n hx hb dX6_withFields_29 rfl (lv_at hl 3 rfl) ?_
        refine lv_ldc2 (v := 31) hx hb hown (hts (.constantLong RX6 242 (31)) (by decide +kernel)) dX6_withFields_30 ?_
        refine lv_lmul hx hb dX6_withFields_33 ?_
        refine lv_aload_n hx hb dX6_withFields_34 rfl (lv_at hl 1 rfl) ?_
        refine lv_iload hx hb dX6_withFields_35 (lv_at hl 4 rfl) ?_
        refine lv_iload hx hb dX6_withFields_37 (lv_at hl 0 rfl) ?_
        refine zt_callV C (As := [.int (iI j), .int (iI 0)]) (rest := [.long (dd * 31)]) (c_X6_ofField_0 l D gi gc gr h k1 d o w bu chg rfd r2 n1 n2 sg nn r a t g q1 q2 q3 q4 q5 q6 cst F j (by first | omega | assumption) (by first | omega | assumption)) (cwV 2 hts gX6_withFields_X6_ofField rfl rfl rfl (by decide +kernel) ⟨Nat.le_of_ble_eq_true rfl, Nat.le_of_ble_eq_true rfl⟩) (zt_preV hK (hP.sub (ws' := [(h, .inr (5, [.ref k1, .ref d, .ref o, .ref w, .ref bu, .int (iI chg), .int (iI rfd)])), (d, .inr (4, [.ref r, .ref r2, .ref n1, .ref n2, .ref sg, .int (iI nn)])), (r, .inr (3, [.ref a, .int (iI t)])), (a, aI gi 60 g), (o, .inr (2, [.ref q1, .ref q2, .ref q3, .ref q4, .ref q5, .ref q6, .int (iI cst), .int (iI F), .int (iI 1)]))]) [0, 1, 2, 3, 4] rfl) [.int (iI j), .int (iI 0)] 0 rfl rfl) rfl hl.1 rfl (Nat.le_of_ble_eq_true rfl) dX6_withFields_39 ⟨Nat.le_of_ble_eq_true rfl, Nat.le_of_ble_eq_true rfl⟩ (fun r_4 hr_4 => ?_)
        obtain rfl := hr_4
        refine lv_i2l hx hb dX6_withFields_42 rfl ?_
        refine lv_ladd hx hb dX6_withFields_43 ?_
        refine lv_lstore_n (lv' := [(3, .long ((dd * 31) + (iI (g j.toNat)).toInt64)), (6, .int (iI 0)), (0, .ref h), (1, .long dg), (5, .int (iI j))]) hx hb dX6_withFields_44 rfl hl (by decide) rfl (fun ls hl => ?_)
        refine lv_iinc (v := iI (1)) (lv' := [(6, .int (iI 1)), (3, .long ((dd * 31) + (iI (g j.toNat)).toInt64)), (0, .ref h), (1, .long dg), (5, .int (iI j))]) hx hb dX6_withFields_45 hl (k := 1) rfl (by decide +kernel) (by decide) rfl (fun ls hl => ?_)
        refine lv_goto (tgt := 23) hx hb dX6_withFields_48 (by decide) ?_
        refine lv_iload hx hb dX6_withFields_23 (lv_at hl 0 rfl) ?_
        refine lv_iconst (v := iI (4)) hx hb dX6_withFields_25 (by decide +kernel) ?_
        refine zt_icmp_ge (tgt := 51) hx hb dX6_withFields_26 (by decide) (by omega) (fun c_5 => absurd c_5 (by omega)) (fun c_5 => ?_)
        refine lv_lload_n hx hb dX6_withFields_29 rfl (lv_at hl 1 rfl) ?_
        refine lv_ldc2 (v := 31) hx hb hown (hts (.constantLong RX6 242 (31)) (by decide +kernel)) dX6_withFields_30 ?_
        refine lv_lmul hx hb dX6_withFields_33 ?_
        refine lv_aload_n hx hb dX6_withFields_34 rfl (lv_at hl 2 rfl) ?_
        refine lv_iload hx hb dX6_withFields_35 (lv_at hl 4 rfl) ?_
        refine lv_iload hx hb dX6_withFields_37 (lv_at hl 0 rfl) ?_
        refine zt_callV C (As := [.int (iI j), .int (iI 1)]) (rest := [.long (((dd * 31) + (iI (g j.toNat)).toInt64) * 31)]) (c_X6_ofField_1 l D gi gc gr h k1 d o w bu chg rfd r2 n1 n2 sg nn r a t g q1 q2 q3 q4 q5 q6 cst F pl j (by first | omega | assumption) (by first | omega | assumption)) (cwV 2 hts gX6_withFields_X6_ofField rfl rfl rfl (by decide +kernel) ⟨Nat.le_of_ble_eq_true rfl, Nat.le_of_ble_eq_true rfl⟩) (zt_preV hK (hP.sub (ws' := [(h, .inr (5, [.ref k1, .ref d, .ref o, .ref w, .ref bu, .int (iI chg), .int (iI rfd)])), (d, .inr (4, [.ref r, .ref r2, .ref n1, .ref n2, .ref sg, .int (iI nn)])), (r, .inr (3, [.ref a, .int (iI t)])), (a, aI gi 60 g), (o, .inr (2, [.ref q1, .ref q2, .ref q3, .ref q4, .ref q5, .ref q6, .int (iI cst), .int (iI F), .int (iI 1)])), (q2, aI gi 60 pl)]) [0, 1, 2, 3, 4, 5] rfl) [.int (iI j), .int (iI 1)] 0 rfl rfl) rfl hl.1 rfl (Nat.le_of_ble_eq_true rfl) dX6_withFields_39 ⟨Nat.le_of_ble_eq_true rfl, Nat.le_of_ble_eq_true rfl⟩ (fun r_6 hr_6 => ?_)
        obtain rfl := hr_6
        refine lv_i2l hx hb dX6_withFields_42 rfl ?_
        refine lv_ladd hx hb dX6_withFields_43 ?_
        refine lv_lstore_n (lv' := [(3, .long ((((dd * 31) + (iI (g j.toNat)).toInt64) * 31) + (iI (pl j.toNat)).toInt64)), (6, .int (iI 1)), (0, .ref h), (1, .long dg), (5, .int (iI j))]) hx hb dX6_withFields_44 rfl hl (by decide) rfl (fun ls hl => ?_)
        refine lv_iinc (v := iI (2)) (lv' := [(6, .int (iI 2)), (3, .long ((((dd * 31) + (iI (g j.toNat)).toInt64) * 31) + (iI (pl j.toNat)).toInt64)), (0, .ref h), (1, .long dg), (5, .int (iI j))]) hx hb dX6_withFields_45 hl (k := 1) rfl (by decide +kernel) (by decide) rfl (fun ls hl => ?_)
        refine lv_goto (tgt := 23) hx hb dX6_withFields_48 (by decide) ?_
        refine lv_iload hx hb dX6_withFields_23 (lv_at hl 0 rfl) ?_
        refine lv_iconst (v := iI (4)) hx hb dX6_withFields_25 (by decide +kernel) ?_
        refine zt_icmp_ge (tgt := 51) hx hb dX6_withFields_26 (by decide) (by omega) (fun c_7 => absurd c_7 (by omega)) (fun c_7 => ?_)
        refine lv_lload_n hx hb dX6_withFields_29 rfl (lv_at hl 1 rfl) ?_
        refine lv_ldc2 (v := 31) hx hb hown (hts (.constantLong RX6 242 (31)) (by decide +kernel)) dX6_withFields_30 ?_
        refine lv_lmul hx hb dX6_withFields_33 ?_
        refine lv_aload_n hx hb dX6_withFields_34 rfl (lv_at hl 2 rfl) ?_
        refine lv_iload hx hb dX6_withFields_35 (lv_at hl 4 rfl) ?_
        refine lv_iload hx hb dX6_withFields_37 (lv_at hl 0 rfl) ?_
        refine zt_callV C (As := [.int (iI j), .int (iI 2)]) (rest := [.long (((((dd * 31) + (iI (g j.toNat)).toInt64) * 31) + (iI (pl j.toNat)).toInt64) * 31)]) (c_X6_ofField_2 l D gi gc gr h k1 d o w bu chg rfd r2 n1 n2 sg nn r a t g q1 q2 q3 q4 q5 q6 cst F fo j (by first | omega | assumption) (by first | omega | assumption)) (cwV 2 hts gX6_withFields_X6_ofField rfl rfl rfl (by decide +kernel) ⟨Nat.le_of_ble_eq_true rfl, Nat.le_of_ble_eq_true rfl⟩) (zt_preV hK (hP.sub (ws' := [(h, .inr (5, [.ref k1, .ref d, .ref o, .ref w, .ref bu, .int (iI chg), .int (iI rfd)])), (d, .inr (4, [.ref r, .ref r2, .ref n1, .ref n2, .ref sg, .int (iI nn)])), (r, .inr (3, [.ref a, .int (iI t)])), (a, aI gi 60 g), (o, .inr (2, [.ref q1, .ref q2, .ref q3, .ref q4, .ref q5, .ref q6, .int (iI cst), .int (iI F), .int (iI 1)])), (q3, aI gi 60 fo)]) [0, 1, 2, 3, 4, 6] rfl) [.int (iI j), .int (iI 2)] 0 rfl rfl) rfl hl.1 rfl (Nat.le_of_ble_eq_true rfl) dX6_withFields_39 ⟨Nat.le_of_ble_eq_true rfl, Nat.le_of_ble_eq_true rfl⟩ (fun r_8 hr_8 => ?_)
        obtain rfl := hr_8
        refine lv_i2l hx hb dX6_withFields_42 rfl ?_
        refine lv_ladd hx hb dX6_withFields_43 ?_
        refine lv_lstore_n (lv' := [(3, .long ((((((dd * 31) + (iI (g j.toNat)).toInt64) * 31) + (iI (pl j.toNat)).toInt64) * 31) + (iI (fo j.toNat)).toInt64)), (6, .int (iI 2)), (0, .ref h), (1, .long dg), (5, .int (iI j))]) hx hb dX6_withFields_44 rfl hl (by decide) rfl (fun ls hl => ?_)
        refine lv_iinc (v := iI (3)) (lv' := [(6, .int (iI 3)), (3, .long ((((((dd * 31) + (iI (g j.toNat)).toInt64) * 31) + (iI (pl j.toNat)).toInt64) * 31) + (iI (fo j.toNat)).toInt64)), (0, .ref h), (1, .long dg), (5, .int (iI j))]) hx hb dX6_withFields_45 hl (k := 1) rfl (by decide +kernel) (by decide) rfl (fun ls hl => ?_)
        refine lv_goto (tgt := 23) hx hb dX6_withFields_48 (by decide) ?_
        refine lv_iload hx hb dX6_withFields_23 (lv_at hl 0 rfl) ?_
        refine lv_iconst (v := iI (4)) hx hb dX6_withFields_25 (by decide +kernel) ?_
        refine zt_icmp_ge (tgt := 51) hx hb dX6_withFields_26 (by decide) (by omega) (fun c_9 => absurd c_9 (by omega)) (fun c_9 => ?_)
        refine lv_lload_n hx hb dX6_withFields_29 rfl (lv_at hl 1 rfl) ?_
        refine lv_ldc2 (v := 31) hx hb hown (hts (.constantLong RX6 242 (31)) (by decide +kernel)) dX6_withFields_30 ?_
        refine lv_lmul hx hb dX6_withFields_33 ?_
        refine lv_aload_n hx hb dX6_withFields_34 rfl (lv_at hl 2 rfl) ?_
        refine lv_iload hx hb dX6_withFields_35 (lv_at hl 4 rfl) ?_
        refine lv_iload hx hb dX6_withFields_37 (lv_at hl 0 rfl) ?_
        refine zt_callV C (As := [.int (iI j), .int (iI 3)]) (rest := [.long (((((((dd * 31) + (iI (g j.toNat)).toInt64) * 31) + (iI (pl j.toNat)).toInt64) * 31) + (iI (fo j.toNat)).toInt64) * 31)]) (c_X6_ofField_3 l D gi gc gr h k1 d o w bu chg rfd r2 n1 n2 sg nn r a t g q1 q2 q3 q4 q5 q6 cst F nf j (by first | omega | assumption) (by first | omega | assumption) (by first | omega | assumption)) (cwV 2 hts gX6_withFields_X6_ofField rfl rfl rfl (by decide +kernel) ⟨Nat.le_of_ble_eq_true rfl, Nat.le_of_ble_eq_true rfl⟩) (zt_preV hK (hP.sub (ws' := [(h, .inr (5, [.ref k1, .ref d, .ref o, .ref w, .ref bu, .int (iI chg), .int (iI rfd)])), (d, .inr (4, [.ref r, .ref r2, .ref n1, .ref n2, .ref sg, .int (iI nn)])), (r, .inr (3, [.ref a, .int (iI t)])), (a, aI gi 60 g), (o, .inr (2, [.ref q1, .ref q2, .ref q3, .ref q4, .ref q5, .ref q6, .int (iI cst), .int (iI F), .int (iI 1)])), (n1, aI gi 512 nf)]) [0, 1, 2, 3, 4, 7] rfl) [.int (iI j), .int (iI 3)] 0 rfl rfl) rfl hl.1 rfl (Nat.le_of_ble_eq_true rfl) dX6_withFields_39 ⟨Nat.le_of_ble_eq_true rfl, Nat.le_of_ble_eq_true rfl⟩ (fun r_10 hr_10 => ?_)
        obtain rfl := hr_10
        refine lv_i2l hx hb dX6_withFields_42 rfl ?_
        refine lv_ladd hx hb dX6_withFields_43 ?_
        refine lv_lstore_n (lv' := [(3, .long ((((((((dd * 31) + (iI (g j.toNat)).toInt64) * 31) + (iI (pl j.toNat)).toInt64) * 31) + (iI (fo j.toNat)).toInt64) * 31) + (iI (notL nf j nn.toNat 0)).toInt64)), (6, .int (iI 3)), (0, .ref h), (1, .long dg), (5, .int (iI j))]) hx hb dX6_withFields_44 rfl hl (by decide) rfl (fun ls hl => ?_)
        refine lv_iinc (v := iI (4)) (lv' := [(6, .int (iI 4)), (3, .long ((((((((dd * 31) + (iI (g j.toNat)).toInt64) * 31) + (iI (pl j.toNat)).toInt64) * 31) + (iI (fo j.toNat)).toInt64) * 31) + (iI (notL nf j nn.toNat 0)).toInt64)), (0, .ref h), (1, .long dg), (5, .int (iI j))]) hx hb dX6_withFields_45 hl (k := 1) rfl (by decide +kernel) (by decide) rfl (fun ls hl => ?_)
        refine lv_goto (tgt := 23) hx hb dX6_withFields_48 (by decide) ?_
        refine lv_iload hx hb dX6_withFields_23 (lv_at hl 0 rfl) ?_
        refine lv_iconst (v := iI (4)) hx hb dX6_withFields_25 (by decide +kernel) ?_
        refine zt_icmp_ge (tgt := 51) hx hb dX6_withFields_26 (by decide) (by omega) (fun c_11 => ?_) (fun c_11 => absurd c_11 (by omega))
        refine lv_iinc (v := iI (j + 1)) (lv' := [(5, .int (iI (j + 1))), (6, .int (iI 4)), (3, .long ((((((((dd * 31) + (iI (g j.toNat)).toInt64) * 31) + (iI (pl j.toNat)).toInt64) * 31) + (iI (fo j.toNat)).toInt64) * 31) + (iI (notL nf j nn.toNat 0)).toInt64)), (0, .ref h), (1, .long dg)]) hx hb dX6_withFields_51 hl (k := 4) rfl (iI_add _ _) (by decide) rfl (fun ls hl => ?_)
        refine lv_goto (tgt := 5) hx hb dX6_withFields_54 (by decide) ?_
        exact ih_5 ((((((((dd * 31) + (iI (g j.toNat)).toInt64) * 31) + (iI (pl j.toNat)).toInt64) * 31) + (iI (fo j.toNat)).toInt64) * 31) + (iI (notL nf j nn.toNat 0)).toInt64) (j + 1) (by omega) (by rw [hf, show (t - j).toNat = (t - (j + 1)).toNat + 1 by omega, wfL_s]) (by omega) ls (lv_sub hl [3, 4, 2, 0] rfl)
  exact loop_5 ((t - 0 : Int).toNat + 1) dg 0 (by omega) (by rw [show t - 0 = t by omega]) (by omega) ls (lv_sub hl [2, 3, 1, 0] rfl)
set_option maxHeartbeats 4000000 in
set_option maxRecDepth 100000 in
theorem c_X6_withFoundFrames (l : Launch) (D : va_G) (gi gc gr : ClassId) (h : Nat) (k1 : Nat) (d : Nat) (o : Nat) (w : Nat) (bu : Nat) (chg : Int) (rfd : Int) (r2 : Nat) (n1 : Nat) (n2 : Nat) (sg : Nat) (nn : Int) (r : Nat) (q1 : Nat) (q2 : Nat) (q3 : Nat) (q4 : Nat) (q5 : Nat) (q6 : Nat) (cst : Int) (F : Int) (fi : Nat → Int) (le : Nat → Int) (fl : Nat → Int) (dg : Int64) (hF : 0 ≤ F ∧ F ≤ 60) : Met l yX6_withFoundFrames wsX6_withFoundFrames { frames := 2, cells := 0, slots := 0, locals := 45 } (zPr D gi gc gr [(h, .inr (5, [.ref k1, .ref d, .ref o, .ref w, .ref bu, .int (iI chg), .int (iI rfd)])), (d, .inr (4, [.ref r, .ref r2, .ref n1, .ref n2, .ref sg, .int (iI nn)])), (o, .inr (2, [.ref q1, .ref q2, .ref q3, .ref q4, .ref q5, .ref q6, .int (iI cst), .int (iI F), .int (iI 1)])), (q4, aI gi 60 fi), (q5, aI gi 60 le), (q6, aI gi 60 fl)] [.ref h, .long dg]) (vp_Sl (fun v => v = ffL fl fi le F.toNat 0 dg)) 0 0 (fun _ => False) := by
  refine zt_metRl (own := RX6) (cc := cX6_withFoundFrames) (maxL := 7) (by decide) rfl rfl (Nat.le_of_ble_eq_true rfl) ?_
  intro p e s m args below meth c Q C hK hP hQ ls hl
  have hx := C.1
  have hb := C.2.1
  have hml := C.2.2.1
  have hown := C.2.2.2.1
  have hts := C.2.2.2.2
  have i3 : ∀ w ∈ u_ws RX3 TX3 9, w ∈ wsX6_withFoundFrames := by decide +kernel
  have i6 : ∀ w ∈ u_ws RX6 TX6 7, w ∈ wsX6_withFoundFrames := by decide +kernel
  have f28 := hts (.fieldLink RX6 28 "Threetwo" "rhythm" "LThreetwo$Rhythm;") (by decide +kernel)
  have hl : lv_has ls 7 [(0, .ref h), (1, .long dg)] := hl
  refine lv_lload_n hx hb dX6_withFoundFrames_0 rfl (lv_at hl 1 rfl) ?_
  refine lv_lstore_n (lv' := [(3, .long dg), (0, .ref h), (1, .long dg)]) hx hb dX6_withFoundFrames_1 rfl hl (by decide) rfl (fun ls hl => ?_)
  refine lv_iconst (v := iI (0)) hx hb dX6_withFoundFrames_2 (by decide +kernel) ?_
  refine lv_istore (lv' := [(5, .int (iI 0)), (3, .long dg), (0, .ref h), (1, .long dg)]) hx hb dX6_withFoundFrames_3 hl (by decide) rfl (fun ls hl => ?_)
  have loop_5 : ∀ (n_5 : Nat) (dd : Int64) (j : Int) (hj : 0 ≤ j ∧ j ≤ F) (hf : ffL fl fi le F.toNat 0 dg = ffL fl fi le (F - j).toNat j dd) (hm_5 : F - j < (n_5 : Int)) (ls : Array Slot) (hl : lv_has ls 7 [(0, .ref h), (1, .long dg), (3, .long dd), (5, .int (iI j))]), W p l e { frames := 2, cells := 0, slots := 0, locals := 45 } s m args below meth c s.heap [] 0 0 Q (F0 m 5 ls []) := by
    intro n_5
    induction n_5 with
    | zero => intro dd j hj hf hm_5 ls hl; exact absurd hm_5 (by omega)
    | succ n_5 ih_5 =>
      intro dd j hj hf hm_5 ls hl
      refine lv_iload hx hb dX6_withFoundFrames_5 (lv_at hl 3 rfl) ?_
      refine lv_aload_n hx hb dX6_withFoundFrames_7 rfl (lv_at hl 0 rfl) ?_
      refine va_get (D := D) (ci := 5) (v := .ref o) (C := RX6) (T := TX6) (N := 7) hx hb hts i6 hown hK.1 hP 0 rfl rfl 2 (by decide) f28 (fun _ h9 => h9) rfl dX6_withFoundFrames_8 ?_
      refine va_getN (D := D) (ci := 2) (v := .int (iI F)) (C := RX3) (T := TX3) (N := 9) hx hb hts i3 hown hK.1 hP 2 rfl rfl 7 (by decide) (zK.n148 hK _) (fun _ h9 => h9) rfl dX6_withFoundFrames_11 ?_
      refine zt_icmp_ge (tgt := 54) hx hb dX6_withFoundFrames_14 (by decide) (by omega) (fun c_1 => ?_) (fun c_1 => ?_)
      · refine lv_lload_n hx hb dX6_withFoundFrames_54 rfl (lv_at hl 2 rfl) ?_
        exact hQ _ _ _ (by rw [hf, show (F - j).toNat = 0 by omega]; rfl) dX6_withFoundFrames_55
      · refine lv_iconst (v := iI (0)) hx hb dX6_withFoundFrames_17 (by decide +kernel) ?_
        refine lv_istore (lv' := [(6, .int (iI 0)), (0, .ref h), (1, .long dg), (3, .long dd), (5, .int (iI j))]) hx hb dX6_withFoundFrames_18 hl (by decide) rfl (fun ls hl => ?_)
        refine lv_iload hx hb dX6_withFoundFrames_20 (lv_at hl 0 rfl) ?_
        refine lv_iconst (v := iI (3)) hx hb dX6_withFoundFrames_22 (by decide +kernel) ?_
        refine zt_icmp_ge (tgt := 48) hx hb dX6_withFoundFrames_23 (by decide) (by omega) (fun c_2 => absurd c_2 (by omega)) (fun c_2 => ?_)
        refine lv_lload_n hx hb dX6_withFoundFrames_26 rfl (lv_at hl 3 rfl) ?_
        refine lv_ldc2 (v := 31) hx hb hown (hts (.constantLong RX6 242 (31)) (by decide +kernel)) dX6_withFoundFrames_27 ?_
        refine lv_lmul hx hb dX6_withFoundFrames_30 ?_
        refine lv_aload_n hx hb dX6_withFoundFrames_31 rfl (lv_at hl 1 rfl) ?_
        refine lv_iload hx hb dX6_withFoundFrames_32 (lv_at hl 4 rfl) ?_
        refine lv_iload hx hb dX6_withFoundFrames_34 (lv_at hl 0 rfl) ?_
        refine zt_callV C (As := [.int (iI j), .int (iI 0)]) (rest := [.long (dd * 31)]) (c_X6_found_0 l D gi gc gr h k1 d o w bu chg rfd r2 n1 n2 sg nn r q1 q2 q3 q4 q5 q6 cst F fl j (by first | omega | assumption)) (cwV 2 hts gX6_withFoundFrames_X6_found rfl rfl rfl (by decide +kernel) ⟨Nat.le_of_ble_eq_true rfl, Nat.le_of_ble_eq_true rfl⟩) (zt_preV hK (hP.sub (ws' := [(h, .inr (5, [.ref k1, .ref d, .ref o, .ref w, .ref bu, .int (iI chg), .int (iI rfd)])), (d, .inr (4, [.ref r, .ref r2, .ref n1, .ref n2, .ref sg, .int (iI nn)])), (o, .inr (2, [.ref q1, .ref q2, .ref q3, .ref q4, .ref q5, .ref q6, .int (iI cst), .int (iI F), .int (iI 1)])), (q6, aI gi 60 fl)]) [0, 1, 2, 5] rfl) [.int (iI j), .int (iI 0)] 0 rfl rfl) rfl hl.1 rfl (Nat.le_of_ble_eq_true rfl) dX6_withFoundFrames_36 ⟨Nat.le_of_ble_eq_true rfl, Nat.le_of_ble_eq_true rfl⟩ (fun r_3 hr_3 => ?_)
        obtain rfl := hr_3
        refine lv_i2l hx hb dX6_withFoundFrames_39 rfl ?_
        refine lv_ladd hx hb dX6_withFoundFrames_40 ?_
        refine lv_lstore_n (lv' := [(3, .long ((dd * 31) + (iI (fl j.toNat)).toInt64)), (6, .int (iI 0)), (0, .ref h), (1, .long dg), (5, .int (iI j))]) hx hb dX6_withFoundFrames_41 rfl hl (by decide) rfl (fun ls hl => ?_)
        refine lv_iinc (v := iI (1)) (lv' := [(6, .int (iI 1)), (3, .long ((dd * 31) + (iI (fl j.toNat)).toInt64)), (0, .ref h), (1, .long dg), (5, .int (iI j))]) hx hb dX6_withFoundFrames_42 hl (k := 1) rfl (by decide +kernel) (by decide) rfl (fun ls hl => ?_)
        refine lv_goto (tgt := 20) hx hb dX6_withFoundFrames_45 (by decide) ?_
        refine lv_iload hx hb dX6_withFoundFrames_20 (lv_at hl 0 rfl) ?_
        refine lv_iconst (v := iI (3)) hx hb dX6_withFoundFrames_22 (by decide +kernel) ?_
        refine zt_icmp_ge (tgt := 48) hx hb dX6_withFoundFrames_23 (by decide) (by omega) (fun c_4 => absurd c_4 (by omega)) (fun c_4 => ?_)
        refine lv_lload_n hx hb dX6_withFoundFrames_26 rfl (lv_at hl 1 rfl) ?_
        refine lv_ldc2 (v := 31) hx hb hown (hts (.constantLong RX6 242 (31)) (by decide +kernel)) dX6_withFoundFrames_27 ?_
        refine lv_lmul hx hb dX6_withFoundFrames_30 ?_
        refine lv_aload_n hx hb dX6_withFoundFrames_31 rfl (lv_at hl 2 rfl) ?_
        refine lv_iload hx hb dX6_withFoundFrames_32 (lv_at hl 4 rfl) ?_
        refine lv_iload hx hb dX6_withFoundFrames_34 (lv_at hl 0 rfl) ?_
        refine zt_callV C (As := [.int (iI j), .int (iI 1)]) (rest := [.long (((dd * 31) + (iI (fl j.toNat)).toInt64) * 31)]) (c_X6_found_1 l D gi gc gr h k1 d o w bu chg rfd r2 n1 n2 sg nn r q1 q2 q3 q4 q5 q6 cst F fi j (by first | omega | assumption)) (cwV 2 hts gX6_withFoundFrames_X6_found rfl rfl rfl (by decide +kernel) ⟨Nat.le_of_ble_eq_true rfl, Nat.le_of_ble_eq_true rfl⟩) (zt_preV hK (hP.sub (ws' := [(h, .inr (5, [.ref k1, .ref d, .ref o, .ref w, .ref bu, .int (iI chg), .int (iI rfd)])), (d, .inr (4, [.ref r, .ref r2, .ref n1, .ref n2, .ref sg, .int (iI nn)])), (o, .inr (2, [.ref q1, .ref q2, .ref q3, .ref q4, .ref q5, .ref q6, .int (iI cst), .int (iI F), .int (iI 1)])), (q4, aI gi 60 fi)]) [0, 1, 2, 3] rfl) [.int (iI j), .int (iI 1)] 0 rfl rfl) rfl hl.1 rfl (Nat.le_of_ble_eq_true rfl) dX6_withFoundFrames_36 ⟨Nat.le_of_ble_eq_true rfl, Nat.le_of_ble_eq_true rfl⟩ (fun r_5 hr_5 => ?_)
        obtain rfl := hr_5
        refine lv_i2l hx hb dX6_withFoundFrames_39 rfl ?_
        refine lv_ladd hx hb dX6_withFoundFrames_40 ?_
        refine lv_lstore_n (lv' := [(3, .long ((((dd * 31) + (iI (fl j.toNat)).toInt64) * 31) + (iI (fi j.toNat)).toInt64)), (6, .int (iI 1)), (0, .ref h), (1, .long dg), (5, .int (iI j))]) hx hb dX6_withFoundFrames_41 rfl hl (by decide) rfl (fun ls hl => ?_)
        refine lv_iinc (v := iI (2)) (lv' := [(6, .int (iI 2)), (3, .long ((((dd * 31) + (iI (fl j.toNat)).toInt64) * 31) + (iI (fi j.toNat)).toInt64)), (0, .ref h), (1, .long dg), (5, .int (iI j))]) hx hb dX6_withFoundFrames_42 hl (k := 1) rfl (by decide +kernel) (by decide) rfl (fun ls hl => ?_)
        refine lv_goto (tgt := 20) hx hb dX6_withFoundFrames_45 (by decide) ?_
        refine lv_iload hx hb dX6_withFoundFrames_20 (lv_at hl 0 rfl) ?_
        refine lv_iconst (v := iI (3)) hx hb dX6_withFoundFrames_22 (by decide +kernel) ?_
        refine zt_icmp_ge (tgt := 48) hx hb dX6_withFoundFrames_23 (by decide) (by omega) (fun c_6 => absurd c_6 (by omega)) (fun c_6 => ?_)
        refine lv_lload_n hx hb dX6_withFoundFrames_26 rfl (lv_at hl 1 rfl) ?_
        refine lv_ldc2 (v := 31) hx hb hown (hts (.constantLong RX6 242 (31)) (by decide +kernel)) dX6_withFoundFrames_27 ?_
        refine lv_lmul hx hb dX6_withFoundFrames_30 ?_
        refine lv_aload_n hx hb dX6_withFoundFrames_31 rfl (lv_at hl 2 rfl) ?_
        refine lv_iload hx hb dX6_withFoundFrames_32 (lv_at hl 4 rfl) ?_
        refine lv_iload hx hb dX6_withFoundFrames_34 (lv_at hl 0 rfl) ?_
        refine zt_callV C (As := [.int (iI j), .int (iI 2)]) (rest := [.long (((((dd * 31) + (iI (fl j.toNat)).toInt64) * 31) + (iI (fi j.toNat)).toInt64) * 31)]) (c_X6_found_2 l D gi gc gr h k1 d o w bu chg rfd r2 n1 n2 sg nn r q1 q2 q3 q4 q5 q6 cst F le j (by first | omega | assumption)) (cwV 2 hts gX6_withFoundFrames_X6_found rfl rfl rfl (by decide +kernel) ⟨Nat.le_of_ble_eq_true rfl, Nat.le_of_ble_eq_true rfl⟩) (zt_preV hK (hP.sub (ws' := [(h, .inr (5, [.ref k1, .ref d, .ref o, .ref w, .ref bu, .int (iI chg), .int (iI rfd)])), (d, .inr (4, [.ref r, .ref r2, .ref n1, .ref n2, .ref sg, .int (iI nn)])), (o, .inr (2, [.ref q1, .ref q2, .ref q3, .ref q4, .ref q5, .ref q6, .int (iI cst), .int (iI F), .int (iI 1)])), (q5, aI gi 60 le)]) [0, 1, 2, 4] rfl) [.int (iI j), .int (iI 2)] 0 rfl rfl) rfl hl.1 rfl (Nat.le_of_ble_eq_true rfl) dX6_withFoundFrames_36 ⟨Nat.le_of_ble_eq_true rfl, Nat.le_of_ble_eq_true rfl⟩ (fun r_7 hr_7 => ?_)
        obtain rfl := hr_7
        refine lv_i2l hx hb dX6_withFoundFrames_39 rfl ?_
        refine lv_ladd hx hb dX6_withFoundFrames_40 ?_
        refine lv_lstore_n (lv' := [(3, .long ((((((dd * 31) + (iI (fl j.toNat)).toInt64) * 31) + (iI (fi j.toNat)).toInt64) * 31) + (iI (le j.toNat)).toInt64)), (6, .int (iI 2)), (0, .ref h), (1, .long dg), (5, .int (iI j))]) hx hb dX6_withFoundFrames_41 rfl hl (by decide) rfl (fun ls hl => ?_)
        refine lv_iinc (v := iI (3)) (lv' := [(6, .int (iI 3)), (3, .long ((((((dd * 31) + (iI (fl j.toNat)).toInt64) * 31) + (iI (fi j.toNat)).toInt64) * 31) + (iI (le j.toNat)).toInt64)), (0, .ref h), (1, .long dg), (5, .int (iI j))]) hx hb dX6_withFoundFrames_42 hl (k := 1) rfl (by decide +kernel) (by decide) rfl (fun ls hl => ?_)
        refine lv_goto (tgt := 20) hx hb dX6_withFoundFrames_45 (by decide) ?_
        refine lv_iload hx hb dX6_withFoundFrames_20 (lv_at hl 0 rfl) ?_
        refine lv_iconst (v := iI (3)) hx hb dX6_withFoundFrames_22 (by decide +kernel) ?_
        refine zt_icmp_ge (tgt := 48) hx hb dX6_withFoundFrames_23 (by decide) (by omega) (fun c_8 => ?_) (fun c_8 => absurd c_8 (by omega))
        refine lv_iinc (v := iI (j + 1)) (lv' := [(5, .int (iI (j + 1))), (6, .int (iI 3)), (3, .long ((((((dd * 31) + (iI (fl j.toNat)).toInt64) * 31) + (iI (fi j.toNat)).toInt64) * 31) + (iI (le j.toNat)).toInt64)), (0, .ref h), (1, .long dg)]) hx hb dX6_withFoundFrames_48 hl (k := 4) rfl (iI_add _ _) (by decide) rfl (fun ls hl => ?_)
        refine lv_goto (tgt := 5) hx hb dX6_withFoundFrames_51 (by decide) ?_
        exact ih_5 ((((((dd * 31) + (iI (fl j.toNat)).toInt64) * 31) + (iI (fi j.toNat)).toInt64) * 31) + (iI (le j.toNat)).toInt64) (j + 1) (by omega) (by rw [hf, show (F - j).toNat = (F - (j + 1)).toNat + 1 by omega, ffL_s]) (by omega) ls (lv_sub hl [3, 4, 2, 0] rfl)
  exact loop_5 ((F - 0 : Int).toNat + 1) dg 0 (by omega) (by rw [show F - 0 = F by omega]) (by omega) ls (lv_sub hl [2, 3, 1, 0] rfl)
set_option maxHeartbeats 16000000 in
set_option maxRecDepth 100000 in
theorem c_X6_withPrints (l : Launch) (D : va_G) (gi gc gr : ClassId) (sz : Nat) (h : Nat) (k1 : Nat) (d : Nat) (o : Nat) (w : Nat) (bu : Nat) (chg : Int) (rfd : Int) (rw : Nat) (bq : Nat) (sq : Nat) (mp : Int) (pb : Nat → Int) (ra : Nat → Nat) (ia : Nat → Nat) (tn : Nat → Int) (gs : Nat → Nat → Int) (sf : Nat → Int32) (dg : Int64) (htn : ∀ k : Nat, k < 3 → 0 ≤ tn k ∧ tn k ≤ 10) (hgs : ∀ k : Nat, k < 3 → ∀ j : Nat, (j : Int) < tn k → 0 ≤ gs k j ∧ gs k j ≤ 99) (hmp : 0 ≤ mp ∧ mp ≤ 3) : Met l yX6_withPrints wsX6_withPrints { frames := 5, cells := 0, slots := 0, locals := 122 } (zPw D gi gc gr [(h, .inr (5, [.ref k1, .ref d, .ref o, .ref w, .ref bu, .int (iI chg), .int (iI rfd)])), (w, .inr (1, [.ref rw, .ref bq, .ref sq, .int (iI mp)])), (rw, .inl (gr, 3, .inr (.inr (.inr (.inr (rF ra)))))), (bq, aI gi 121 pb), ((ra 0), .inr (3, [.ref (ia 0), .int (iI (tn 0))])), ((ia 0), aI gi 10 (gs 0)), ((ra 1), .inr (3, [.ref (ia 1), .int (iI (tn 1))])), ((ia 1), aI gi 10 (gs 1)), ((ra 2), .inr (3, [.ref (ia 2), .int (iI (tn 2))])), ((ia 2), aI gi 10 (gs 2)), (sq, .inl (gc, 20, .inl sf))] sz [.ref h, .long dg]) (va_Ql (S := (Nat → Int) × (Nat → Int32)) (fun v _ => v = wpL tn gs mp mp.toNat 0 dg) (zB D (va_A [(h, .inr (5, [.ref k1, .ref d, .ref o, .ref w, .ref bu, .int (iI chg), .int (iI rfd)])), (w, .inr (1, [.ref rw, .ref bq, .ref sq, .int (iI mp)])), (rw, .inl (gr, 3, .inr (.inr (.inr (.inr (rF ra)))))), (bq, aI gi 121 pb), ((ra 0), .inr (3, [.ref (ia 0), .int (iI (tn 0))])), ((ia 0), aI gi 10 (gs 0)), ((ra 1), .inr (3, [.ref (ia 1), .int (iI (tn 1))])), ((ia 1), aI gi 10 (gs 1)), ((ra 2), .inr (3, [.ref (ia 2), .int (iI (tn 2))])), ((ia 2), aI gi 10 (gs 2)), (sq, .inl (gc, 20, .inl sf))] sz) (fun u => [(h, .inr (5, [.ref k1, .ref d, .ref o, .ref w, .ref bu, .int (iI chg), .int (iI rfd)])), (w, .inr (1, [.ref rw, .ref bq, .ref sq, .int (iI mp)])), (rw, .inl (gr, 3, .inr (.inr (.inr (.inr (rF ra)))))), (bq, aI gi 121 u.1), (ra 0, .inr (3, [.ref (ia 0), .int (iI (tn 0))])), (ia 0, aI gi 10 (gs 0)), (ra 1, .inr (3, [.ref (ia 1), .int (iI (tn 1))])), (ia 1, aI gi 10 (gs 1)), (ra 2, .inr (3, [.ref (ia 2), .int (iI (tn 2))])), (ia 2, aI gi 10 (gs 2)), (sq, .inl (gc, 20, .inl u.2))])) (va_A [(h, .inr (5, [.ref k1, .ref d, .ref o, .ref w, .ref bu, .int (iI chg), .int (iI rfd)])), (w, .inr (1, [.ref rw, .ref bq, .ref sq, .int (iI mp)])), (rw, .inl (gr, 3, .inr (.inr (.inr (.inr (rF ra)))))), (bq, aI gi 121 pb), ((ra 0), .inr (3, [.ref (ia 0), .int (iI (tn 0))])), ((ia 0), aI gi 10 (gs 0)), ((ra 1), .inr (3, [.ref (ia 1), .int (iI (tn 1))])), ((ia 1), aI gi 10 (gs 1)), ((ra 2), .inr (3, [.ref (ia 2), .int (iI (tn 2))])), ((ia 2), aI gi 10 (gs 2)), (sq, .inl (gc, 20, .inl sf))] sz)) 0 0 (va_A [(h, .inr (5, [.ref k1, .ref d, .ref o, .ref w, .ref bu, .int (iI chg), .int (iI rfd)])), (w, .inr (1, [.ref rw, .ref bq, .ref sq, .int (iI mp)])), (rw, .inl (gr, 3, .inr (.inr (.inr (.inr (rF ra)))))), (bq, aI gi 121 pb), ((ra 0), .inr (3, [.ref (ia 0), .int (iI (tn 0))])), ((ia 0), aI gi 10 (gs 0)), ((ra 1), .inr (3, [.ref (ia 1), .int (iI (tn 1))])), ((ia 1), aI gi 10 (gs 1)), ((ra 2), .inr (3, [.ref (ia 2), .int (iI (tn 2))])), ((ia 2), aI gi 10 (gs 2)), (sq, .inl (gc, 20, .inl sf))] sz) := by
  refine zt_metWl (own := RX6) (cc := cX6_withPrints) (maxL := 7) (by decide) rfl rfl (Nat.le_of_ble_eq_true rfl) ?_
  intro p e s m args below meth c Q A C hK hP hD hS hA _ hQ ls hl
  have hx := C.1
  have hb := C.2.1
  have hml := C.2.2.1
  have hown := C.2.2.2.1
  have hts := C.2.2.2.2
  have i2 : ∀ w ∈ u_ws RX2 TX2 4, w ∈ wsX6_withPrints := by decide +kernel
  have i6 : ∀ w ∈ u_ws RX6 TX6 7, w ∈ wsX6_withPrints := by decide +kernel
  have f35 := hts (.fieldLink RX6 35 "Threetwo" "prints" "LThreetwo$Prints;") (by decide +kernel)
  have hl : lv_has ls 7 [(0, .ref h), (1, .long dg)] := hl
  refine lv_lload_n hx hb dX6_withPrints_0 rfl (lv_at hl 1 rfl) ?_
  refine lv_lstore_n (lv' := [(3, .long dg), (0, .ref h), (1, .long dg)]) hx hb dX6_withPrints_1 rfl hl (by decide) rfl (fun ls hl => ?_)
  refine lv_iconst (v := iI (0)) hx hb dX6_withPrints_2 (by decide +kernel) ?_
  refine lv_istore (lv' := [(5, .int (iI 0)), (3, .long dg), (0, .ref h), (1, .long dg)]) hx hb dX6_withPrints_3 hl (by decide) rfl (fun ls hl => ?_)
  have loop_5 : ∀ (n_5 : Nat) (dd : Int64) (i : Int) (p1 : Nat → Int) (s1 : Nat → Int32) (hi : 0 ≤ i ∧ i ≤ mp) (hf : wpL tn gs mp mp.toNat 0 dg = wpL tn gs mp (mp - i).toNat i dd) (hm_5 : mp - i < (n_5 : Int)) (H : Heap) (locs : List Loc) (hP : va_P D vwCl [(h, .inr (5, [.ref k1, .ref d, .ref o, .ref w, .ref bu, .int (iI chg), .int (iI rfd)])), (w, .inr (1, [.ref rw, .ref bq, .ref sq, .int (iI mp)])), (rw, .inl (gr, 3, .inr (.inr (.inr (.inr (rF ra)))))), (bq, aI gi 121 p1), ((ra 0), .inr (3, [.ref (ia 0), .int (iI (tn 0))])), ((ia 0), aI gi 10 (gs 0)), ((ra 1), .inr (3, [.ref (ia 1), .int (iI (tn 1))])), ((ia 1), aI gi 10 (gs 1)), ((ra 2), .inr (3, [.ref (ia 2), .int (iI (tn 2))])), ((ia 2), aI gi 10 (gs 2)), (sq, .inl (gc, 20, .inl s1))] H) (hD : va_D A [(h, .inr (5, [.ref k1, .ref d, .ref o, .ref w, .ref bu, .int (iI chg), .int (iI rfd)])), (w, .inr (1, [.ref rw, .ref bq, .ref sq, .int (iI mp)])), (rw, .inl (gr, 3, .inr (.inr (.inr (.inr (rF ra)))))), (bq, aI gi 121 p1), ((ra 0), .inr (3, [.ref (ia 0), .int (iI (tn 0))])), ((ia 0), aI gi 10 (gs 0)), ((ra 1), .inr (3, [.ref (ia 1), .int (iI (tn 1))])), ((ia 1), aI gi 10 (gs 1)), ((ra 2), .inr (3, [.ref (ia 2), .int (iI (tn 2))])), ((ia 2), aI gi 10 (gs 2)), (sq, .inl (gc, 20, .inl s1))]) (hS : va_S A s.heap H locs) (ls : Array Slot) (hl : lv_has ls 7 [(0, .ref h), (1, .long dg), (3, .long dd), (5, .int (iI i))]), W p l e { frames := 5, cells := 0, slots := 0, locals := 122 } s m args below meth c H locs 0 0 Q (F0 m 5 ls []) := by
    intro n_5
    induction n_5 with
    | zero => intro dd i p1 s1 hi hf hm_5 H locs hP hD hS ls hl; exact absurd hm_5 (by omega)
    | succ n_5 ih_5 =>
      intro dd i p1 s1 hi hf hm_5 H locs hP hD hS ls hl
      refine lv_iload hx hb dX6_withPrints_5 (lv_at hl 3 rfl) ?_
      refine lv_aload_n hx hb dX6_withPrints_7 rfl (lv_at hl 0 rfl) ?_
      refine va_get (D := D) (ci := 5) (v := .ref w) (C := RX6) (T := TX6) (N := 7) hx hb hts i6 hown hK.1 hP 0 rfl rfl 3 (by decide) f35 (fun _ h9 => h9) rfl dX6_withPrints_8 ?_
      refine va_getN (D := D) (ci := 1) (v := .int (iI mp)) (C := RX2) (T := TX2) (N := 4) hx hb hts i2 hown hK.1 hP 1 rfl rfl 3 (by decide) (zK.n190 hK _) (fun _ h9 => h9) rfl dX6_withPrints_11 ?_
      refine zt_icmp_ge (tgt := 82) hx hb dX6_withPrints_14 (by decide) (by omega) (fun c_1 => ?_) (fun c_1 => ?_)
      · refine lv_lload_n hx hb dX6_withPrints_82 rfl (lv_at hl 2 rfl) ?_
        exact hQ (p1, s1) _ _ _ _ _ (by rw [hf, show (mp - i).toNat = 0 by omega]; rfl) hP hD hS dX6_withPrints_83
      · refine lv_iconst (v := iI (0)) hx hb dX6_withPrints_17 (by decide +kernel) ?_
        refine lv_istore (lv' := [(6, .int (iI 0)), (0, .ref h), (1, .long dg), (3, .long dd), (5, .int (iI i))]) hx hb dX6_withPrints_18 hl (by decide) rfl (fun ls hl => ?_)
        have loop_20 : ∀ (n_20 : Nat) (de : Int64) (j : Int) (p2 : Nat → Int) (s2 : Nat → Int32) (hj : 0 ≤ j ∧ j ≤ mp) (hfi : wpI tn gs i mp.toNat 0 dd = wpI tn gs i (mp - j).toNat j de) (hm_20 : mp - j < (n_20 : Int)) (H : Heap) (locs : List Loc) (hP : va_P D vwCl [(h, .inr (5, [.ref k1, .ref d, .ref o, .ref w, .ref bu, .int (iI chg), .int (iI rfd)])), (w, .inr (1, [.ref rw, .ref bq, .ref sq, .int (iI mp)])), (rw, .inl (gr, 3, .inr (.inr (.inr (.inr (rF ra)))))), (bq, aI gi 121 p2), ((ra 0), .inr (3, [.ref (ia 0), .int (iI (tn 0))])), ((ia 0), aI gi 10 (gs 0)), ((ra 1), .inr (3, [.ref (ia 1), .int (iI (tn 1))])), ((ia 1), aI gi 10 (gs 1)), ((ra 2), .inr (3, [.ref (ia 2), .int (iI (tn 2))])), ((ia 2), aI gi 10 (gs 2)), (sq, .inl (gc, 20, .inl s2))] H) (hD : va_D A [(h, .inr (5, [.ref k1, .ref d, .ref o, .ref w, .ref bu, .int (iI chg), .int (iI rfd)])), (w, .inr (1, [.ref rw, .ref bq, .ref sq, .int (iI mp)])), (rw, .inl (gr, 3, .inr (.inr (.inr (.inr (rF ra)))))), (bq, aI gi 121 p2), ((ra 0), .inr (3, [.ref (ia 0), .int (iI (tn 0))])), ((ia 0), aI gi 10 (gs 0)), ((ra 1), .inr (3, [.ref (ia 1), .int (iI (tn 1))])), ((ia 1), aI gi 10 (gs 1)), ((ra 2), .inr (3, [.ref (ia 2), .int (iI (tn 2))])), ((ia 2), aI gi 10 (gs 2)), (sq, .inl (gc, 20, .inl s2))]) (hS : va_S A s.heap H locs) (ls : Array Slot) (hl : lv_has ls 7 [(0, .ref h), (1, .long dg), (3, .long de), (5, .int (iI i)), (6, .int (iI j))]), W p l e { frames := 5, cells := 0, slots := 0, locals := 122 } s m args below meth c H locs 0 0 Q (F0 m 20 ls []) := by
          intro n_20
          induction n_20 with
          | zero => intro de j p2 s2 hj hfi hm_20 H locs hP hD hS ls hl; exact absurd hm_20 (by omega)
          | succ n_20 ih_20 =>
            intro de j p2 s2 hj hfi hm_20 H locs hP hD hS ls hl
            refine lv_iload hx hb dX6_withPrints_20 (lv_at hl 4 rfl) ?_
            refine lv_aload_n hx hb dX6_withPrints_22 rfl (lv_at hl 0 rfl) ?_
            refine va_get (D := D) (ci := 5) (v := .ref w) (C := RX6) (T := TX6) (N := 7) hx hb hts i6 hown hK.1 hP 0 rfl rfl 3 (by decide) f35 (fun _ h9 => h9) rfl dX6_withPrints_23 ?_
            refine va_getN (D := D) (ci := 1) (v := .int (iI mp)) (C := RX2) (T := TX2) (N := 4) hx hb hts i2 hown hK.1 hP 1 rfl rfl 3 (by decide) (zK.n190 hK _) (fun _ h9 => h9) rfl dX6_withPrints_26 ?_
            refine zt_icmp_ge (tgt := 76) hx hb dX6_withPrints_29 (by decide) (by omega) (fun c_2 => ?_) (fun c_2 => ?_)
            · refine lv_iinc (v := iI (i + 1)) (lv' := [(5, .int (iI (i + 1))), (0, .ref h), (1, .long dg), (3, .long de), (6, .int (iI j))]) hx hb dX6_withPrints_76 hl (k := 3) rfl (iI_add _ _) (by decide) rfl (fun ls hl => ?_)
              refine lv_goto (tgt := 5) hx hb dX6_withPrints_79 (by decide) ?_
              exact ih_5 de (i + 1) p2 s2 (by omega) (by rw [hf, show (mp - i).toNat = (mp - (i + 1)).toNat + 1 by omega, wpL_s, hfi, show (mp - j).toNat = 0 by omega]; rfl) (by omega) H locs hP hD hS ls (lv_sub hl [1, 2, 3, 0] rfl)
            · refine lv_lload_n hx hb dX6_withPrints_32 rfl (lv_at hl 2 rfl) ?_
              refine lv_ldc2 (v := 31) hx hb hown (hts (.constantLong RX6 242 (31)) (by decide +kernel)) dX6_withPrints_33 ?_
              refine lv_lmul hx hb dX6_withPrints_36 ?_
              refine lv_aload_n hx hb dX6_withPrints_37 rfl (lv_at hl 0 rfl) ?_
              refine va_get (D := D) (ci := 5) (v := .ref w) (C := RX6) (T := TX6) (N := 7) hx hb hts i6 hown hK.1 hP 0 rfl rfl 3 (by decide) f35 (fun _ h9 => h9) rfl dX6_withPrints_38 ?_
              refine lv_iload hx hb dX6_withPrints_41 (lv_at hl 3 rfl) ?_
              refine lv_iload hx hb dX6_withPrints_43 (lv_at hl 4 rfl) ?_
              have hPc := hP.sub (ws' := [(w, .inr (1, [.ref rw, .ref bq, .ref sq, .int (iI mp)])), (rw, .inl (gr, 3, .inr (.inr (.inr (.inr (rF ra)))))), (bq, aI gi 121 p2), ((ra 0), .inr (3, [.ref (ia 0), .int (iI (tn 0))])), ((ia 0), aI gi 10 (gs 0)), ((ra 1), .inr (3, [.ref (ia 1), .int (iI (tn 1))])), ((ia 1), aI gi 10 (gs 1)), ((ra 2), .inr (3, [.ref (ia 2), .int (iI (tn 2))])), ((ia 2), aI gi 10 (gs 2))]) [1, 2, 3, 4, 5, 6, 7, 8, 9] rfl
              have hDc := hD.sub (ws' := [(w, .inr (1, [.ref rw, .ref bq, .ref sq, .int (iI mp)])), (rw, .inl (gr, 3, .inr (.inr (.inr (.inr (rF ra)))))), (bq, aI gi 121 p2), ((ra 0), .inr (3, [.ref (ia 0), .int (iI (tn 0))])), ((ia 0), aI gi 10 (gs 0)), ((ra 1), .inr (3, [.ref (ia 1), .int (iI (tn 1))])), ((ia 1), aI gi 10 (gs 1)), ((ra 2), .inr (3, [.ref (ia 2), .int (iI (tn 2))])), ((ia 2), aI gi 10 (gs 2))]) [1, 2, 3, 4, 5, 6, 7, 8, 9] (by decide) rfl
              have hFc := va_free (wc := [(w, .inr (1, [.ref rw, .ref bq, .ref sq, .int (iI mp)])), (rw, .inl (gr, 3, .inr (.inr (.inr (.inr (rF ra)))))), (bq, aI gi 121 p2), ((ra 0), .inr (3, [.ref (ia 0), .int (iI (tn 0))])), ((ia 0), aI gi 10 (gs 0)), ((ra 1), .inr (3, [.ref (ia 1), .int (iI (tn 1))])), ((ia 1), aI gi 10 (gs 1)), ((ra 2), .inr (3, [.ref (ia 2), .int (iI (tn 2))])), ((ia 2), aI gi 10 (gs 2))]) hD hS hA [1, 2, 3, 4, 5, 6, 7, 8, 9] rfl
              refine va_calli (va_runV C (As := [.int (iI i), .int (iI j)]) (rest := [.long (de * 31)]) (c_X2_distance l D gi gc gr H.size w rw bq sq mp p2 ra ia tn gs i j (by first | omega | assumption) (by first | omega | assumption) (by first | omega | assumption) (by first | omega | assumption)) (cwV 2 hts gX6_withPrints_X2_distance rfl rfl rfl (by decide +kernel) ⟨Nat.le_of_ble_eq_true rfl, Nat.le_of_ble_eq_true rfl⟩) (zt_preVw hK hPc hDc [.int (iI i), .int (iI j)] 0 rfl rfl) rfl rfl hl.1 rfl (lv_room (Nat.le_of_ble_eq_true rfl)) dX6_withPrints_45 ⟨Nat.le_of_ble_eq_true rfl, Nat.le_of_ble_eq_true rfl⟩) hS (fun q _ h => hFc q h) hFc (fun r_3 u_r_3 T9 H1 locs hT9 hvm hw hB hz1 hk1 hS => ?_)
              obtain ⟨hv_3, hT⟩ := hw
              try dsimp only at hT
              subst hv_3
              obtain ⟨hP1, hD1⟩ := hB
              rw [hT9] at hP1
              obtain ⟨hP, hD⟩ := zt_back (w1 := [(w, .inr (1, [.ref rw, .ref bq, .ref sq, .int (iI mp)])), (rw, .inl (gr, 3, .inr (.inr (.inr (.inr (rF ra)))))), (bq, aI gi 121 u_r_3), ((ra 0), .inr (3, [.ref (ia 0), .int (iI (tn 0))])), ((ia 0), aI gi 10 (gs 0)), ((ra 1), .inr (3, [.ref (ia 1), .int (iI (tn 1))])), ((ia 1), aI gi 10 (gs 1)), ((ra 2), .inr (3, [.ref (ia 2), .int (iI (tn 2))])), ((ia 2), aI gi 10 (gs 2))]) (wr := [(h, .inr (5, [.ref k1, .ref d, .ref o, .ref w, .ref bu, .int (iI chg), .int (iI rfd)])), (sq, .inl (gc, 20, .inl s2))]) (wn := [(h, .inr (5, [.ref k1, .ref d, .ref o, .ref w, .ref bu, .int (iI chg), .int (iI rfd)])), (w, .inr (1, [.ref rw, .ref bq, .ref sq, .int (iI mp)])), (rw, .inl (gr, 3, .inr (.inr (.inr (.inr (rF ra)))))), (bq, aI gi 121 u_r_3), ((ra 0), .inr (3, [.ref (ia 0), .int (iI (tn 0))])), ((ia 0), aI gi 10 (gs 0)), ((ra 1), .inr (3, [.ref (ia 1), .int (iI (tn 1))])), ((ia 1), aI gi 10 (gs 1)), ((ra 2), .inr (3, [.ref (ia 2), .int (iI (tn 2))])), ((ia 2), aI gi 10 (gs 2)), (sq, .inl (gc, 20, .inl s2))]) hP hD [1, 2, 3, 4, 5, 6, 7, 8, 9] [0, 10] [0, 2, 3, 4, 5, 6, 7, 8, 9, 10, 1] rfl rfl (by decide) (by decide) hk1 hFc hP1 hD1 rfl (by decide)
              generalize H1 = H at hP hS ⊢
              refine lv_i2l hx hb dX6_withPrints_48 rfl ?_
              refine lv_ladd hx hb dX6_withPrints_49 ?_
              refine lv_lstore_n (lv' := [(3, .long ((de * 31) + (iI (EF (gs i.toNat) (tn i.toNat) (gs j.toNat) (tn j.toNat) 0 0)).toInt64)), (0, .ref h), (1, .long dg), (5, .int (iI i)), (6, .int (iI j))]) hx hb dX6_withPrints_50 rfl hl (by decide) rfl (fun ls hl => ?_)
              refine lv_lload_n hx hb dX6_withPrints_51 rfl (lv_at hl 0 rfl) ?_
              refine lv_ldc2 (v := 31) hx hb hown (hts (.constantLong RX6 242 (31)) (by decide +kernel)) dX6_withPrints_52 ?_
              refine lv_lmul hx hb dX6_withPrints_55 ?_
              refine lv_aload_n hx hb dX6_withPrints_56 rfl (lv_at hl 1 rfl) ?_
              refine va_get (D := D) (ci := 5) (v := .ref w) (C := RX6) (T := TX6) (N := 7) hx hb hts i6 hown hK.1 hP 0 rfl rfl 3 (by decide) f35 (fun _ h9 => h9) rfl dX6_withPrints_57 ?_
              refine lv_iload hx hb dX6_withPrints_60 (lv_at hl 3 rfl) ?_
              refine lv_iload hx hb dX6_withPrints_62 (lv_at hl 4 rfl) ?_
              have hPc := hP.sub (ws' := [(w, .inr (1, [.ref rw, .ref bq, .ref sq, .int (iI mp)])), (rw, .inl (gr, 3, .inr (.inr (.inr (.inr (rF ra)))))), (bq, aI gi 121 u_r_3), ((ra 0), .inr (3, [.ref (ia 0), .int (iI (tn 0))])), ((ia 0), aI gi 10 (gs 0)), ((ra 1), .inr (3, [.ref (ia 1), .int (iI (tn 1))])), ((ia 1), aI gi 10 (gs 1)), ((ra 2), .inr (3, [.ref (ia 2), .int (iI (tn 2))])), ((ia 2), aI gi 10 (gs 2)), (sq, .inl (gc, 20, .inl s2))]) [1, 2, 3, 4, 5, 6, 7, 8, 9, 10] rfl
              have hDc := hD.sub (ws' := [(w, .inr (1, [.ref rw, .ref bq, .ref sq, .int (iI mp)])), (rw, .inl (gr, 3, .inr (.inr (.inr (.inr (rF ra)))))), (bq, aI gi 121 u_r_3), ((ra 0), .inr (3, [.ref (ia 0), .int (iI (tn 0))])), ((ia 0), aI gi 10 (gs 0)), ((ra 1), .inr (3, [.ref (ia 1), .int (iI (tn 1))])), ((ia 1), aI gi 10 (gs 1)), ((ra 2), .inr (3, [.ref (ia 2), .int (iI (tn 2))])), ((ia 2), aI gi 10 (gs 2)), (sq, .inl (gc, 20, .inl s2))]) [1, 2, 3, 4, 5, 6, 7, 8, 9, 10] (by decide) rfl
              have hFc := va_free (wc := [(w, .inr (1, [.ref rw, .ref bq, .ref sq, .int (iI mp)])), (rw, .inl (gr, 3, .inr (.inr (.inr (.inr (rF ra)))))), (bq, aI gi 121 u_r_3), ((ra 0), .inr (3, [.ref (ia 0), .int (iI (tn 0))])), ((ia 0), aI gi 10 (gs 0)), ((ra 1), .inr (3, [.ref (ia 1), .int (iI (tn 1))])), ((ia 1), aI gi 10 (gs 1)), ((ra 2), .inr (3, [.ref (ia 2), .int (iI (tn 2))])), ((ia 2), aI gi 10 (gs 2)), (sq, .inl (gc, 20, .inl s2))]) hD hS hA [1, 2, 3, 4, 5, 6, 7, 8, 9, 10] rfl
              refine va_calli (va_runV C (As := [.int (iI i), .int (iI j)]) (rest := [.long (((de * 31) + (iI (EF (gs i.toNat) (tn i.toNat) (gs j.toNat) (tn j.toNat) 0 0)).toInt64) * 31)]) (c_X2_layOut l D gi gc gr H.size w rw bq sq mp u_r_3 ra ia tn gs s2 i j (by first | omega | assumption) (by first | omega | assumption) (by first | omega | assumption) (by first | omega | assumption)) (cwV 2 hts gX6_withPrints_X2_layOut rfl rfl rfl (by decide +kernel) ⟨Nat.le_of_ble_eq_true rfl, Nat.le_of_ble_eq_true rfl⟩) (zt_preVw hK hPc hDc [.int (iI i), .int (iI j)] 0 rfl rfl) rfl rfl hl.1 rfl (lv_room (Nat.le_of_ble_eq_true rfl)) dX6_withPrints_64 ⟨Nat.le_of_ble_eq_true rfl, Nat.le_of_ble_eq_true rfl⟩) hS (fun q _ h => hFc q h) hFc (fun r_4 u_r_4 T9 H1 locs hT9 hvm hw hB hz1 hk1 hS => ?_)
              obtain ⟨b_4, sf_4⟩ := u_r_4
              try dsimp only at hw
              subst hw
              obtain ⟨hP1, hD1⟩ := hB
              rw [hT9] at hP1
              obtain ⟨hP, hD⟩ := zt_back (w1 := [(w, .inr (1, [.ref rw, .ref bq, .ref sq, .int (iI mp)])), (rw, .inl (gr, 3, .inr (.inr (.inr (.inr (rF ra)))))), (bq, aI gi 121 b_4), ((ra 0), .inr (3, [.ref (ia 0), .int (iI (tn 0))])), ((ia 0), aI gi 10 (gs 0)), ((ra 1), .inr (3, [.ref (ia 1), .int (iI (tn 1))])), ((ia 1), aI gi 10 (gs 1)), ((ra 2), .inr (3, [.ref (ia 2), .int (iI (tn 2))])), ((ia 2), aI gi 10 (gs 2)), (sq, .inl (gc, 20, .inl sf_4))]) (wr := [(h, .inr (5, [.ref k1, .ref d, .ref o, .ref w, .ref bu, .int (iI chg), .int (iI rfd)]))]) (wn := [(h, .inr (5, [.ref k1, .ref d, .ref o, .ref w, .ref bu, .int (iI chg), .int (iI rfd)])), (w, .inr (1, [.ref rw, .ref bq, .ref sq, .int (iI mp)])), (rw, .inl (gr, 3, .inr (.inr (.inr (.inr (rF ra)))))), (bq, aI gi 121 b_4), ((ra 0), .inr (3, [.ref (ia 0), .int (iI (tn 0))])), ((ia 0), aI gi 10 (gs 0)), ((ra 1), .inr (3, [.ref (ia 1), .int (iI (tn 1))])), ((ia 1), aI gi 10 (gs 1)), ((ra 2), .inr (3, [.ref (ia 2), .int (iI (tn 2))])), ((ia 2), aI gi 10 (gs 2)), (sq, .inl (gc, 20, .inl sf_4))]) hP hD [1, 2, 3, 4, 5, 6, 7, 8, 9, 10] [0] [0, 1, 2, 3, 4, 5, 6, 7, 8, 9, 10] rfl rfl (by decide) (by decide) hk1 hFc hP1 hD1 rfl (by decide)
              generalize H1 = H at hP hS ⊢
              refine lv_i2l hx hb dX6_withPrints_67 rfl ?_
              refine lv_ladd hx hb dX6_withPrints_68 ?_
              refine lv_lstore_n (lv' := [(3, .long ((((de * 31) + (iI (EF (gs i.toNat) (tn i.toNat) (gs j.toNat) (tn j.toNat) 0 0)).toInt64) * 31) + (iI (layL (sgF (EF (gs i.toNat) (tn i.toNat) (gs j.toNat) (tn j.toNat)) (fun x y => tog (gs i.toNat x.toNat) (gs j.toNat y.toNat)) (tn i.toNat) (tn j.toNat)) (tn i.toNat) (tn j.toNat) 20 0 0 0)).toInt64)), (0, .ref h), (1, .long dg), (5, .int (iI i)), (6, .int (iI j))]) hx hb dX6_withPrints_69 rfl hl (by decide) rfl (fun ls hl => ?_)
              refine lv_iinc (v := iI (j + 1)) (lv' := [(6, .int (iI (j + 1))), (3, .long ((((de * 31) + (iI (EF (gs i.toNat) (tn i.toNat) (gs j.toNat) (tn j.toNat) 0 0)).toInt64) * 31) + (iI (layL (sgF (EF (gs i.toNat) (tn i.toNat) (gs j.toNat) (tn j.toNat)) (fun x y => tog (gs i.toNat x.toNat) (gs j.toNat y.toNat)) (tn i.toNat) (tn j.toNat)) (tn i.toNat) (tn j.toNat) 20 0 0 0)).toInt64)), (0, .ref h), (1, .long dg), (5, .int (iI i))]) hx hb dX6_withPrints_70 hl (k := 4) rfl (iI_add _ _) (by decide) rfl (fun ls hl => ?_)
              refine lv_goto (tgt := 20) hx hb dX6_withPrints_73 (by decide) ?_
              exact ih_20 ((((de * 31) + (iI (EF (gs i.toNat) (tn i.toNat) (gs j.toNat) (tn j.toNat) 0 0)).toInt64) * 31) + (iI (layL (sgF (EF (gs i.toNat) (tn i.toNat) (gs j.toNat) (tn j.toNat)) (fun x y => tog (gs i.toNat x.toNat) (gs j.toNat y.toNat)) (tn i.toNat) (tn j.toNat)) (tn i.toNat) (tn j.toNat) 20 0 0 0)).toInt64) (j + 1) b_4 sf_4 (by omega) (by rw [hfi, show (mp - j).toNat = (mp - (j + 1)).toNat + 1 by omega, wpI_s]; rfl) (by omega) H locs hP hD hS ls (lv_sub hl [2, 3, 1, 4, 0] rfl)
        exact loop_20 ((mp - 0 : Int).toNat + 1) dd 0 p1 s1 (by omega) (by rw [show mp - 0 = mp by omega]) (by omega) H locs hP hD hS ls (lv_sub hl [1, 2, 3, 4, 0] rfl)
  exact loop_5 ((mp - 0 : Int).toNat + 1) dg 0 pb sf (by omega) (by rw [show mp - 0 = mp by omega]) (by omega) s.heap [] hP hD hS ls (lv_sub hl [2, 3, 1, 0] rfl)
set_option maxHeartbeats 16000000 in
set_option maxRecDepth 100000 in
theorem c_X6_pairIsSound (l : Launch) (D : va_G) (gi gc gr : ClassId) (sz : Nat) (h : Nat) (k1 : Nat) (d : Nat) (o : Nat) (w : Nat) (bu : Nat) (chg : Int) (rfd : Int) (rw : Nat) (bq : Nat) (sq : Nat) (mp : Int) (pb : Nat → Int) (ra : Nat → Nat) (ia : Nat → Nat) (tn : Nat → Int) (gs : Nat → Nat → Int) (x1 : Int) (x2 : Int) (htn : ∀ k : Nat, k < 3 → 0 ≤ tn k ∧ tn k ≤ 10) (hgs : ∀ k : Nat, k < 3 → ∀ j : Nat, (j : Int) < tn k → 0 ≤ gs k j ∧ gs k j ≤ 99) (hmp : 0 ≤ mp ∧ mp ≤ 3) (hx1 : 0 ≤ x1 ∧ x1 < mp) (hx2 : 0 ≤ x2 ∧ x2 < mp) : Met l yX6_pairIsSound wsX6_pairIsSound { frames := 4, cells := 0, slots := 0, locals := 94 } (zPw D gi gc gr [(h, .inr (5, [.ref k1, .ref d, .ref o, .ref w, .ref bu, .int (iI chg), .int (iI rfd)])), (w, .inr (1, [.ref rw, .ref bq, .ref sq, .int (iI mp)])), (rw, .inl (gr, 3, .inr (.inr (.inr (.inr (rF ra)))))), (bq, aI gi 121 pb), ((ra 0), .inr (3, [.ref (ia 0), .int (iI (tn 0))])), ((ia 0), aI gi 10 (gs 0)), ((ra 1), .inr (3, [.ref (ia 1), .int (iI (tn 1))])), ((ia 1), aI gi 10 (gs 1)), ((ra 2), .inr (3, [.ref (ia 2), .int (iI (tn 2))])), ((ia 2), aI gi 10 (gs 2))] sz [.ref h, .int (iI x1), .int (iI x2)]) (va_Qi (S := Nat → Int) (fun v _ => v = iI 1) (zB D (va_A [(h, .inr (5, [.ref k1, .ref d, .ref o, .ref w, .ref bu, .int (iI chg), .int (iI rfd)])), (w, .inr (1, [.ref rw, .ref bq, .ref sq, .int (iI mp)])), (rw, .inl (gr, 3, .inr (.inr (.inr (.inr (rF ra)))))), (bq, aI gi 121 pb), ((ra 0), .inr (3, [.ref (ia 0), .int (iI (tn 0))])), ((ia 0), aI gi 10 (gs 0)), ((ra 1), .inr (3, [.ref (ia 1), .int (iI (tn 1))])), ((ia 1), aI gi 10 (gs 1)), ((ra 2), .inr (3, [.ref (ia 2), .int (iI (tn 2))])), ((ia 2), aI gi 10 (gs 2))] sz) (fun u => [(h, .inr (5, [.ref k1, .ref d, .ref o, .ref w, .ref bu, .int (iI chg), .int (iI rfd)])), (w, .inr (1, [.ref rw, .ref bq, .ref sq, .int (iI mp)])), (rw, .inl (gr, 3, .inr (.inr (.inr (.inr (rF ra)))))), (bq, aI gi 121 u), (ra 0, .inr (3, [.ref (ia 0), .int (iI (tn 0))])), (ia 0, aI gi 10 (gs 0)), (ra 1, .inr (3, [.ref (ia 1), .int (iI (tn 1))])), (ia 1, aI gi 10 (gs 1)), (ra 2, .inr (3, [.ref (ia 2), .int (iI (tn 2))])), (ia 2, aI gi 10 (gs 2))])) (va_A [(h, .inr (5, [.ref k1, .ref d, .ref o, .ref w, .ref bu, .int (iI chg), .int (iI rfd)])), (w, .inr (1, [.ref rw, .ref bq, .ref sq, .int (iI mp)])), (rw, .inl (gr, 3, .inr (.inr (.inr (.inr (rF ra)))))), (bq, aI gi 121 pb), ((ra 0), .inr (3, [.ref (ia 0), .int (iI (tn 0))])), ((ia 0), aI gi 10 (gs 0)), ((ra 1), .inr (3, [.ref (ia 1), .int (iI (tn 1))])), ((ia 1), aI gi 10 (gs 1)), ((ra 2), .inr (3, [.ref (ia 2), .int (iI (tn 2))])), ((ia 2), aI gi 10 (gs 2))] sz)) 0 0 (va_A [(h, .inr (5, [.ref k1, .ref d, .ref o, .ref w, .ref bu, .int (iI chg), .int (iI rfd)])), (w, .inr (1, [.ref rw, .ref bq, .ref sq, .int (iI mp)])), (rw, .inl (gr, 3, .inr (.inr (.inr (.inr (rF ra)))))), (bq, aI gi 121 pb), ((ra 0), .inr (3, [.ref (ia 0), .int (iI (tn 0))])), ((ia 0), aI gi 10 (gs 0)), ((ra 1), .inr (3, [.ref (ia 1), .int (iI (tn 1))])), ((ia 1), aI gi 10 (gs 1)), ((ra 2), .inr (3, [.ref (ia 2), .int (iI (tn 2))])), ((ia 2), aI gi 10 (gs 2))] sz) := by
  refine zt_metWz (own := RX6) (cc := cX6_pairIsSound) (maxL := 5) (by decide) rfl rfl (Nat.le_of_ble_eq_true rfl) ?_
  intro p e s m args below meth c Q A C hK hP hD hS hA _ hQ ls hl
  have hx := C.1
  have hb := C.2.1
  have hml := C.2.2.1
  have hown := C.2.2.2.1
  have hts := C.2.2.2.2
  have i2 : ∀ w ∈ u_ws RX2 TX2 4, w ∈ wsX6_pairIsSound := by decide +kernel
  have i6 : ∀ w ∈ u_ws RX6 TX6 7, w ∈ wsX6_pairIsSound := by decide +kernel
  have f35 := hts (.fieldLink RX6 35 "Threetwo" "prints" "LThreetwo$Prints;") (by decide +kernel)
  have hl : lv_has ls 5 [(0, .ref h), (1, .int (iI x1)), (2, .int (iI x2))] := hl
  have hb12 := DD_b (gs := gs) htn (x := x1) (y := x2) (by omega) (by omega)
  have hb21 := DD_b (gs := gs) htn (x := x2) (y := x1) (by omega) (by omega)
  have hsy := EF_sy (gs x1.toNat) (gs x2.toNat) (tn x1.toNat) (tn x2.toNat)
  refine lv_aload_n hx hb dX6_pairIsSound_0 rfl (lv_at hl 0 rfl) ?_
  refine va_get (D := D) (ci := 5) (v := .ref w) (C := RX6) (T := TX6) (N := 7) hx hb hts i6 hown hK.1 hP 0 rfl rfl 3 (by decide) f35 (fun _ h9 => h9) rfl dX6_pairIsSound_1 ?_
  refine lv_iload_n hx hb dX6_pairIsSound_4 rfl (lv_at hl 1 rfl) ?_
  refine lv_iload_n hx hb dX6_pairIsSound_5 rfl (lv_at hl 2 rfl) ?_
  have hPc := hP.sub (ws' := [(w, .inr (1, [.ref rw, .ref bq, .ref sq, .int (iI mp)])), (rw, .inl (gr, 3, .inr (.inr (.inr (.inr (rF ra)))))), (bq, aI gi 121 pb), ((ra 0), .inr (3, [.ref (ia 0), .int (iI (tn 0))])), ((ia 0), aI gi 10 (gs 0)), ((ra 1), .inr (3, [.ref (ia 1), .int (iI (tn 1))])), ((ia 1), aI gi 10 (gs 1)), ((ra 2), .inr (3, [.ref (ia 2), .int (iI (tn 2))])), ((ia 2), aI gi 10 (gs 2))]) [1, 2, 3, 4, 5, 6, 7, 8, 9] rfl
  have hDc := hD.sub (ws' := [(w, .inr (1, [.ref rw, .ref bq, .ref sq, .int (iI mp)])), (rw, .inl (gr, 3, .inr (.inr (.inr (.inr (rF ra)))))), (bq, aI gi 121 pb), ((ra 0), .inr (3, [.ref (ia 0), .int (iI (tn 0))])), ((ia 0), aI gi 10 (gs 0)), ((ra 1), .inr (3, [.ref (ia 1), .int (iI (tn 1))])), ((ia 1), aI gi 10 (gs 1)), ((ra 2), .inr (3, [.ref (ia 2), .int (iI (tn 2))])), ((ia 2), aI gi 10 (gs 2))]) [1, 2, 3, 4, 5, 6, 7, 8, 9] (by decide) rfl
  have hFc := va_free (wc := [(w, .inr (1, [.ref rw, .ref bq, .ref sq, .int (iI mp)])), (rw, .inl (gr, 3, .inr (.inr (.inr (.inr (rF ra)))))), (bq, aI gi 121 pb), ((ra 0), .inr (3, [.ref (ia 0), .int (iI (tn 0))])), ((ia 0), aI gi 10 (gs 0)), ((ra 1), .inr (3, [.ref (ia 1), .int (iI (tn 1))])), ((ia 1), aI gi 10 (gs 1)), ((ra 2), .inr (3, [.ref (ia 2), .int (iI (tn 2))])), ((ia 2), aI gi 10 (gs 2))]) hD hS hA [1, 2, 3, 4, 5, 6, 7, 8, 9] rfl
  refine va_calli (va_runV C (As := [.int (iI x1), .int (iI x2)]) (rest := []) (c_X2_distance l D gi gc gr s.heap.size w rw bq sq mp pb ra ia tn gs x1 x2 (by first | omega | assumption) (by first | omega | assumption) (by first | omega | assumption) (by first | omega | assumption)) (cwV 2 hts gX6_pairIsSound_X2_distance rfl rfl rfl (by decide +kernel) ⟨Nat.le_of_ble_eq_true rfl, Nat.le_of_ble_eq_true rfl⟩) (zt_preVw hK hPc hDc [.int (iI x1), .int (iI x2)] 0 rfl rfl) rfl rfl hl.1 rfl (lv_room (Nat.le_of_ble_eq_true rfl)) dX6_pairIsSound_6 ⟨Nat.le_of_ble_eq_true rfl, Nat.le_of_ble_eq_true rfl⟩) hS (fun q _ h => hFc q h) hFc (fun r_1 u_r_1 T9 H1 locs hT9 hvm hw hB hz1 hk1 hS => ?_)
  obtain ⟨hv_1, hT⟩ := hw
  try dsimp only at hT
  subst hv_1
  obtain ⟨hP1, hD1⟩ := hB
  rw [hT9] at hP1
  obtain ⟨hP, hD⟩ := zt_back (w1 := [(w, .inr (1, [.ref rw, .ref bq, .ref sq, .int (iI mp)])), (rw, .inl (gr, 3, .inr (.inr (.inr (.inr (rF ra)))))), (bq, aI gi 121 u_r_1), ((ra 0), .inr (3, [.ref (ia 0), .int (iI (tn 0))])), ((ia 0), aI gi 10 (gs 0)), ((ra 1), .inr (3, [.ref (ia 1), .int (iI (tn 1))])), ((ia 1), aI gi 10 (gs 1)), ((ra 2), .inr (3, [.ref (ia 2), .int (iI (tn 2))])), ((ia 2), aI gi 10 (gs 2))]) (wr := [(h, .inr (5, [.ref k1, .ref d, .ref o, .ref w, .ref bu, .int (iI chg), .int (iI rfd)]))]) (wn := [(h, .inr (5, [.ref k1, .ref d, .ref o, .ref w, .ref bu, .int (iI chg), .int (iI rfd)])), (w, .inr (1, [.ref rw, .ref bq, .ref sq, .int (iI mp)])), (rw, .inl (gr, 3, .inr (.inr (.inr (.inr (rF ra)))))), (bq, aI gi 121 u_r_1), ((ra 0), .inr (3, [.ref (ia 0), .int (iI (tn 0))])), ((ia 0), aI gi 10 (gs 0)), ((ra 1), .inr (3, [.ref (ia 1), .int (iI (tn 1))])), ((ia 1), aI gi 10 (gs 1)), ((ra 2), .inr (3, [.ref (ia 2), .int (iI (tn 2))])), ((ia 2), aI gi 10 (gs 2))]) hP hD [1, 2, 3, 4, 5, 6, 7, 8, 9] [0] [0, 1, 2, 3, 4, 5, 6, 7, 8, 9] rfl rfl (by decide) (by decide) hk1 hFc hP1 hD1 rfl (by decide)
  generalize H1 = H at hP hS ⊢
  refine lv_istore_n (lv' := [(3, .int (iI (EF (gs x1.toNat) (tn x1.toNat) (gs x2.toNat) (tn x2.toNat) 0 0))), (0, .ref h), (1, .int (iI x1)), (2, .int (iI x2))]) hx hb dX6_pairIsSound_9 rfl hl (by decide) rfl (fun ls hl => ?_)
  refine lv_iload_n hx hb dX6_pairIsSound_10 rfl (lv_at hl 2 rfl) ?_
  refine lv_iload_n hx hb dX6_pairIsSound_11 rfl (lv_at hl 3 rfl) ?_
  refine zt_icmp_ne (tgt := 25) hx hb dX6_pairIsSound_12 (by decide) (by omega) (fun c_2 => ?_) (fun c_2 => ?_)
  · refine lv_iload_n hx hb dX6_pairIsSound_25 rfl (lv_at hl 0 rfl) ?_
    refine lv_aload_n hx hb dX6_pairIsSound_26 rfl (lv_at hl 1 rfl) ?_
    refine va_get (D := D) (ci := 5) (v := .ref w) (C := RX6) (T := TX6) (N := 7) hx hb hts i6 hown hK.1 hP 0 rfl rfl 3 (by decide) f35 (fun _ h9 => h9) rfl dX6_pairIsSound_27 ?_
    refine lv_iload_n hx hb dX6_pairIsSound_30 rfl (lv_at hl 3 rfl) ?_
    refine lv_iload_n hx hb dX6_pairIsSound_31 rfl (lv_at hl 2 rfl) ?_
    have hPc := hP.sub (ws' := [(w, .inr (1, [.ref rw, .ref bq, .ref sq, .int (iI mp)])), (rw, .inl (gr, 3, .inr (.inr (.inr (.inr (rF ra)))))), (bq, aI gi 121 u_r_1), ((ra 0), .inr (3, [.ref (ia 0), .int (iI (tn 0))])), ((ia 0), aI gi 10 (gs 0)), ((ra 1), .inr (3, [.ref (ia 1), .int (iI (tn 1))])), ((ia 1), aI gi 10 (gs 1)), ((ra 2), .inr (3, [.ref (ia 2), .int (iI (tn 2))])), ((ia 2), aI gi 10 (gs 2))]) [1, 2, 3, 4, 5, 6, 7, 8, 9] rfl
    have hDc := hD.sub (ws' := [(w, .inr (1, [.ref rw, .ref bq, .ref sq, .int (iI mp)])), (rw, .inl (gr, 3, .inr (.inr (.inr (.inr (rF ra)))))), (bq, aI gi 121 u_r_1), ((ra 0), .inr (3, [.ref (ia 0), .int (iI (tn 0))])), ((ia 0), aI gi 10 (gs 0)), ((ra 1), .inr (3, [.ref (ia 1), .int (iI (tn 1))])), ((ia 1), aI gi 10 (gs 1)), ((ra 2), .inr (3, [.ref (ia 2), .int (iI (tn 2))])), ((ia 2), aI gi 10 (gs 2))]) [1, 2, 3, 4, 5, 6, 7, 8, 9] (by decide) rfl
    have hFc := va_free (wc := [(w, .inr (1, [.ref rw, .ref bq, .ref sq, .int (iI mp)])), (rw, .inl (gr, 3, .inr (.inr (.inr (.inr (rF ra)))))), (bq, aI gi 121 u_r_1), ((ra 0), .inr (3, [.ref (ia 0), .int (iI (tn 0))])), ((ia 0), aI gi 10 (gs 0)), ((ra 1), .inr (3, [.ref (ia 1), .int (iI (tn 1))])), ((ia 1), aI gi 10 (gs 1)), ((ra 2), .inr (3, [.ref (ia 2), .int (iI (tn 2))])), ((ia 2), aI gi 10 (gs 2))]) hD hS hA [1, 2, 3, 4, 5, 6, 7, 8, 9] rfl
    refine va_calli (va_runV C (As := [.int (iI x2), .int (iI x1)]) (rest := [.int (iI (EF (gs x1.toNat) (tn x1.toNat) (gs x2.toNat) (tn x2.toNat) 0 0))]) (c_X2_distance l D gi gc gr H.size w rw bq sq mp u_r_1 ra ia tn gs x2 x1 (by first | omega | assumption) (by first | omega | assumption) (by first | omega | assumption) (by first | omega | assumption)) (cwV 2 hts gX6_pairIsSound_X2_distance rfl rfl rfl (by decide +kernel) ⟨Nat.le_of_ble_eq_true rfl, Nat.le_of_ble_eq_true rfl⟩) (zt_preVw hK hPc hDc [.int (iI x2), .int (iI x1)] 0 rfl rfl) rfl rfl hl.1 rfl (lv_room (Nat.le_of_ble_eq_true rfl)) dX6_pairIsSound_32 ⟨Nat.le_of_ble_eq_true rfl, Nat.le_of_ble_eq_true rfl⟩) hS (fun q _ h => hFc q h) hFc (fun r_3 u_r_3 T9 H1 locs hT9 hvm hw hB hz1 hk1 hS => ?_)
    obtain ⟨hv_3, hT⟩ := hw
    try dsimp only at hT
    subst hv_3
    obtain ⟨hP1, hD1⟩ := hB
    rw [hT9] at hP1
    obtain ⟨hP, hD⟩ := zt_back (w1 := [(w, .inr (1, [.ref rw, .ref bq, .ref sq, .int (iI mp)])), (rw, .inl (gr, 3, .inr (.inr (.inr (.inr (rF ra)))))), (bq, aI gi 121 u_r_3), ((ra 0), .inr (3, [.ref (ia 0), .int (iI (tn 0))])), ((ia 0), aI gi 10 (gs 0)), ((ra 1), .inr (3, [.ref (ia 1), .int (iI (tn 1))])), ((ia 1), aI gi 10 (gs 1)), ((ra 2), .inr (3, [.ref (ia 2), .int (iI (tn 2))])), ((ia 2), aI gi 10 (gs 2))]) (wr := [(h, .inr (5, [.ref k1, .ref d, .ref o, .ref w, .ref bu, .int (iI chg), .int (iI rfd)]))]) (wn := [(h, .inr (5, [.ref k1, .ref d, .ref o, .ref w, .ref bu, .int (iI chg), .int (iI rfd)])), (w, .inr (1, [.ref rw, .ref bq, .ref sq, .int (iI mp)])), (rw, .inl (gr, 3, .inr (.inr (.inr (.inr (rF ra)))))), (bq, aI gi 121 u_r_3), ((ra 0), .inr (3, [.ref (ia 0), .int (iI (tn 0))])), ((ia 0), aI gi 10 (gs 0)), ((ra 1), .inr (3, [.ref (ia 1), .int (iI (tn 1))])), ((ia 1), aI gi 10 (gs 1)), ((ra 2), .inr (3, [.ref (ia 2), .int (iI (tn 2))])), ((ia 2), aI gi 10 (gs 2))]) hP hD [1, 2, 3, 4, 5, 6, 7, 8, 9] [0] [0, 1, 2, 3, 4, 5, 6, 7, 8, 9] rfl rfl (by decide) (by decide) hk1 hFc hP1 hD1 rfl (by decide)
    generalize H1 = H at hP hS ⊢
    refine zt_icmp_eq (tgt := 40) hx hb dX6_pairIsSound_35 (by decide) (by omega) (fun c_4 => ?_) (fun c_4 => absurd c_4 (by omega))
    refine lv_iconst (v := iI (0)) hx hb dX6_pairIsSound_40 (by decide +kernel) ?_
    refine lv_istore (lv' := [(4, .int (iI 0)), (3, .int (iI (EF (gs x1.toNat) (tn x1.toNat) (gs x2.toNat) (tn x2.toNat) 0 0))), (0, .ref h), (1, .int (iI x1)), (2, .int (iI x2))]) hx hb dX6_pairIsSound_41 hl (by decide) rfl (fun ls hl => ?_)
    have loop_43 : ∀ (n_43 : Nat) (j : Int) (p1 : Nat → Int) (hj : 0 ≤ j ∧ j ≤ mp) (hm_43 : mp - j < (n_43 : Int)) (H : Heap) (locs : List Loc) (hP : va_P D vwCl [(h, .inr (5, [.ref k1, .ref d, .ref o, .ref w, .ref bu, .int (iI chg), .int (iI rfd)])), (w, .inr (1, [.ref rw, .ref bq, .ref sq, .int (iI mp)])), (rw, .inl (gr, 3, .inr (.inr (.inr (.inr (rF ra)))))), (bq, aI gi 121 p1), ((ra 0), .inr (3, [.ref (ia 0), .int (iI (tn 0))])), ((ia 0), aI gi 10 (gs 0)), ((ra 1), .inr (3, [.ref (ia 1), .int (iI (tn 1))])), ((ia 1), aI gi 10 (gs 1)), ((ra 2), .inr (3, [.ref (ia 2), .int (iI (tn 2))])), ((ia 2), aI gi 10 (gs 2))] H) (hD : va_D A [(h, .inr (5, [.ref k1, .ref d, .ref o, .ref w, .ref bu, .int (iI chg), .int (iI rfd)])), (w, .inr (1, [.ref rw, .ref bq, .ref sq, .int (iI mp)])), (rw, .inl (gr, 3, .inr (.inr (.inr (.inr (rF ra)))))), (bq, aI gi 121 p1), ((ra 0), .inr (3, [.ref (ia 0), .int (iI (tn 0))])), ((ia 0), aI gi 10 (gs 0)), ((ra 1), .inr (3, [.ref (ia 1), .int (iI (tn 1))])), ((ia 1), aI gi 10 (gs 1)), ((ra 2), .inr (3, [.ref (ia 2), .int (iI (tn 2))])), ((ia 2), aI gi 10 (gs 2))]) (hS : va_S A s.heap H locs) (ls : Array Slot) (hl : lv_has ls 5 [(0, .ref h), (1, .int (iI x1)), (2, .int (iI x2)), (3, .int (iI (EF (gs x1.toNat) (tn x1.toNat) (gs x2.toNat) (tn x2.toNat) 0 0))), (4, .int (iI j))]), W p l e { frames := 4, cells := 0, slots := 0, locals := 94 } s m args below meth c H locs 0 0 Q (F0 m 43 ls []) := by
      intro n_43
      induction n_43 with
      | zero => intro j p1 hj hm_43 H locs hP hD hS ls hl; exact absurd hm_43 (by omega)
      | succ n_43 ih_43 =>
        intro j p1 hj hm_43 H locs hP hD hS ls hl
        refine lv_iload hx hb dX6_pairIsSound_43 (lv_at hl 4 rfl) ?_
        refine lv_aload_n hx hb dX6_pairIsSound_45 rfl (lv_at hl 0 rfl) ?_
        refine va_get (D := D) (ci := 5) (v := .ref w) (C := RX6) (T := TX6) (N := 7) hx hb hts i6 hown hK.1 hP 0 rfl rfl 3 (by decide) f35 (fun _ h9 => h9) rfl dX6_pairIsSound_46 ?_
        refine va_getN (D := D) (ci := 1) (v := .int (iI mp)) (C := RX2) (T := TX2) (N := 4) hx hb hts i2 hown hK.1 hP 1 rfl rfl 3 (by decide) (zK.n190 hK _) (fun _ h9 => h9) rfl dX6_pairIsSound_49 ?_
        refine zt_icmp_ge (tgt := 100) hx hb dX6_pairIsSound_52 (by decide) (by omega) (fun c_5 => ?_) (fun c_5 => ?_)
        · refine lv_iconst (v := iI (1)) hx hb dX6_pairIsSound_100 (by decide +kernel) ?_
          exact hQ p1 _ _ _ _ _ (by first | rfl | decide +kernel) (rfl) hP hD hS dX6_pairIsSound_101
        · refine lv_iload hx hb dX6_pairIsSound_55 (lv_at hl 4 rfl) ?_
          refine lv_iload_n hx hb dX6_pairIsSound_57 rfl (lv_at hl 1 rfl) ?_
          refine zt_icmp_eq (tgt := 94) hx hb dX6_pairIsSound_58 (by decide) (by omega) (fun c_6 => ?_) (fun c_6 => ?_)
          · refine lv_iinc (v := iI (j + 1)) (lv' := [(4, .int (iI (j + 1))), (0, .ref h), (1, .int (iI x1)), (2, .int (iI x2)), (3, .int (iI (EF (gs x1.toNat) (tn x1.toNat) (gs x2.toNat) (tn x2.toNat) 0 0)))]) hx hb dX6_pairIsSound_94 hl (k := 4) rfl (iI_add _ _) (by decide) rfl (fun ls hl => ?_)
            refine lv_goto (tgt := 43) hx hb dX6_pairIsSound_97 (by decide) ?_
            exact ih_43 (j + 1) p1 (by omega) (by omega) H locs hP hD hS ls (lv_sub hl [1, 2, 3, 4, 0] rfl)
          · refine lv_iload hx hb dX6_pairIsSound_61 (lv_at hl 4 rfl) ?_
            refine lv_iload_n hx hb dX6_pairIsSound_63 rfl (lv_at hl 2 rfl) ?_
            refine zt_icmp_eq (tgt := 94) hx hb dX6_pairIsSound_64 (by decide) (by omega) (fun c_7 => ?_) (fun c_7 => ?_)
            · refine lv_iinc (v := iI (j + 1)) (lv' := [(4, .int (iI (j + 1))), (0, .ref h), (1, .int (iI x1)), (2, .int (iI x2)), (3, .int (iI (EF (gs x1.toNat) (tn x1.toNat) (gs x2.toNat) (tn x2.toNat) 0 0)))]) hx hb dX6_pairIsSound_94 hl (k := 4) rfl (iI_add _ _) (by decide) rfl (fun ls hl => ?_)
              refine lv_goto (tgt := 43) hx hb dX6_pairIsSound_97 (by decide) ?_
              exact ih_43 (j + 1) p1 (by omega) (by omega) H locs hP hD hS ls (lv_sub hl [1, 2, 3, 4, 0] rfl)
            · have hb1j := DD_b (gs := gs) htn (x := x1) (y := j) (by omega) (by omega)
              have hbj2 := DD_b (gs := gs) htn (x := j) (y := x2) (by omega) (by omega)
              have htr := EF_t (gs x1.toNat) (gs j.toNat) (gs x2.toNat) (tn x1.toNat) (tn j.toNat) (tn x2.toNat)
              refine lv_iload_n hx hb dX6_pairIsSound_67 rfl (lv_at hl 3 rfl) ?_
              refine lv_aload_n hx hb dX6_pairIsSound_68 rfl (lv_at hl 0 rfl) ?_
              refine va_get (D := D) (ci := 5) (v := .ref w) (C := RX6) (T := TX6) (N := 7) hx hb hts i6 hown hK.1 hP 0 rfl rfl 3 (by decide) f35 (fun _ h9 => h9) rfl dX6_pairIsSound_69 ?_
              refine lv_iload_n hx hb dX6_pairIsSound_72 rfl (lv_at hl 1 rfl) ?_
              refine lv_iload hx hb dX6_pairIsSound_73 (lv_at hl 4 rfl) ?_
              have hPc := hP.sub (ws' := [(w, .inr (1, [.ref rw, .ref bq, .ref sq, .int (iI mp)])), (rw, .inl (gr, 3, .inr (.inr (.inr (.inr (rF ra)))))), (bq, aI gi 121 p1), ((ra 0), .inr (3, [.ref (ia 0), .int (iI (tn 0))])), ((ia 0), aI gi 10 (gs 0)), ((ra 1), .inr (3, [.ref (ia 1), .int (iI (tn 1))])), ((ia 1), aI gi 10 (gs 1)), ((ra 2), .inr (3, [.ref (ia 2), .int (iI (tn 2))])), ((ia 2), aI gi 10 (gs 2))]) [1, 2, 3, 4, 5, 6, 7, 8, 9] rfl
              have hDc := hD.sub (ws' := [(w, .inr (1, [.ref rw, .ref bq, .ref sq, .int (iI mp)])), (rw, .inl (gr, 3, .inr (.inr (.inr (.inr (rF ra)))))), (bq, aI gi 121 p1), ((ra 0), .inr (3, [.ref (ia 0), .int (iI (tn 0))])), ((ia 0), aI gi 10 (gs 0)), ((ra 1), .inr (3, [.ref (ia 1), .int (iI (tn 1))])), ((ia 1), aI gi 10 (gs 1)), ((ra 2), .inr (3, [.ref (ia 2), .int (iI (tn 2))])), ((ia 2), aI gi 10 (gs 2))]) [1, 2, 3, 4, 5, 6, 7, 8, 9] (by decide) rfl
              have hFc := va_free (wc := [(w, .inr (1, [.ref rw, .ref bq, .ref sq, .int (iI mp)])), (rw, .inl (gr, 3, .inr (.inr (.inr (.inr (rF ra)))))), (bq, aI gi 121 p1), ((ra 0), .inr (3, [.ref (ia 0), .int (iI (tn 0))])), ((ia 0), aI gi 10 (gs 0)), ((ra 1), .inr (3, [.ref (ia 1), .int (iI (tn 1))])), ((ia 1), aI gi 10 (gs 1)), ((ra 2), .inr (3, [.ref (ia 2), .int (iI (tn 2))])), ((ia 2), aI gi 10 (gs 2))]) hD hS hA [1, 2, 3, 4, 5, 6, 7, 8, 9] rfl
              refine va_calli (va_runV C (As := [.int (iI x1), .int (iI j)]) (rest := [.int (iI (EF (gs x1.toNat) (tn x1.toNat) (gs x2.toNat) (tn x2.toNat) 0 0))]) (c_X2_distance l D gi gc gr H.size w rw bq sq mp p1 ra ia tn gs x1 j (by first | omega | assumption) (by first | omega | assumption) (by first | omega | assumption) (by first | omega | assumption)) (cwV 2 hts gX6_pairIsSound_X2_distance rfl rfl rfl (by decide +kernel) ⟨Nat.le_of_ble_eq_true rfl, Nat.le_of_ble_eq_true rfl⟩) (zt_preVw hK hPc hDc [.int (iI x1), .int (iI j)] 0 rfl rfl) rfl rfl hl.1 rfl (lv_room (Nat.le_of_ble_eq_true rfl)) dX6_pairIsSound_75 ⟨Nat.le_of_ble_eq_true rfl, Nat.le_of_ble_eq_true rfl⟩) hS (fun q _ h => hFc q h) hFc (fun r_8 u_r_8 T9 H1 locs hT9 hvm hw hB hz1 hk1 hS => ?_)
              obtain ⟨hv_8, hT⟩ := hw
              try dsimp only at hT
              subst hv_8
              obtain ⟨hP1, hD1⟩ := hB
              rw [hT9] at hP1
              obtain ⟨hP, hD⟩ := zt_back (w1 := [(w, .inr (1, [.ref rw, .ref bq, .ref sq, .int (iI mp)])), (rw, .inl (gr, 3, .inr (.inr (.inr (.inr (rF ra)))))), (bq, aI gi 121 u_r_8), ((ra 0), .inr (3, [.ref (ia 0), .int (iI (tn 0))])), ((ia 0), aI gi 10 (gs 0)), ((ra 1), .inr (3, [.ref (ia 1), .int (iI (tn 1))])), ((ia 1), aI gi 10 (gs 1)), ((ra 2), .inr (3, [.ref (ia 2), .int (iI (tn 2))])), ((ia 2), aI gi 10 (gs 2))]) (wr := [(h, .inr (5, [.ref k1, .ref d, .ref o, .ref w, .ref bu, .int (iI chg), .int (iI rfd)]))]) (wn := [(h, .inr (5, [.ref k1, .ref d, .ref o, .ref w, .ref bu, .int (iI chg), .int (iI rfd)])), (w, .inr (1, [.ref rw, .ref bq, .ref sq, .int (iI mp)])), (rw, .inl (gr, 3, .inr (.inr (.inr (.inr (rF ra)))))), (bq, aI gi 121 u_r_8), ((ra 0), .inr (3, [.ref (ia 0), .int (iI (tn 0))])), ((ia 0), aI gi 10 (gs 0)), ((ra 1), .inr (3, [.ref (ia 1), .int (iI (tn 1))])), ((ia 1), aI gi 10 (gs 1)), ((ra 2), .inr (3, [.ref (ia 2), .int (iI (tn 2))])), ((ia 2), aI gi 10 (gs 2))]) hP hD [1, 2, 3, 4, 5, 6, 7, 8, 9] [0] [0, 1, 2, 3, 4, 5, 6, 7, 8, 9] rfl rfl (by decide) (by decide) hk1 hFc hP1 hD1 rfl (by decide)
              generalize H1 = H at hP hS ⊢
              refine lv_aload_n hx hb dX6_pairIsSound_78 rfl (lv_at hl 0 rfl) ?_
              refine va_get (D := D) (ci := 5) (v := .ref w) (C := RX6) (T := TX6) (N := 7) hx hb hts i6 hown hK.1 hP 0 rfl rfl 3 (by decide) f35 (fun _ h9 => h9) rfl dX6_pairIsSound_79 ?_
              refine lv_iload hx hb dX6_pairIsSound_82 (lv_at hl 4 rfl) ?_
              refine lv_iload_n hx hb dX6_pairIsSound_84 rfl (lv_at hl 2 rfl) ?_
              have hPc := hP.sub (ws' := [(w, .inr (1, [.ref rw, .ref bq, .ref sq, .int (iI mp)])), (rw, .inl (gr, 3, .inr (.inr (.inr (.inr (rF ra)))))), (bq, aI gi 121 u_r_8), ((ra 0), .inr (3, [.ref (ia 0), .int (iI (tn 0))])), ((ia 0), aI gi 10 (gs 0)), ((ra 1), .inr (3, [.ref (ia 1), .int (iI (tn 1))])), ((ia 1), aI gi 10 (gs 1)), ((ra 2), .inr (3, [.ref (ia 2), .int (iI (tn 2))])), ((ia 2), aI gi 10 (gs 2))]) [1, 2, 3, 4, 5, 6, 7, 8, 9] rfl
              have hDc := hD.sub (ws' := [(w, .inr (1, [.ref rw, .ref bq, .ref sq, .int (iI mp)])), (rw, .inl (gr, 3, .inr (.inr (.inr (.inr (rF ra)))))), (bq, aI gi 121 u_r_8), ((ra 0), .inr (3, [.ref (ia 0), .int (iI (tn 0))])), ((ia 0), aI gi 10 (gs 0)), ((ra 1), .inr (3, [.ref (ia 1), .int (iI (tn 1))])), ((ia 1), aI gi 10 (gs 1)), ((ra 2), .inr (3, [.ref (ia 2), .int (iI (tn 2))])), ((ia 2), aI gi 10 (gs 2))]) [1, 2, 3, 4, 5, 6, 7, 8, 9] (by decide) rfl
              have hFc := va_free (wc := [(w, .inr (1, [.ref rw, .ref bq, .ref sq, .int (iI mp)])), (rw, .inl (gr, 3, .inr (.inr (.inr (.inr (rF ra)))))), (bq, aI gi 121 u_r_8), ((ra 0), .inr (3, [.ref (ia 0), .int (iI (tn 0))])), ((ia 0), aI gi 10 (gs 0)), ((ra 1), .inr (3, [.ref (ia 1), .int (iI (tn 1))])), ((ia 1), aI gi 10 (gs 1)), ((ra 2), .inr (3, [.ref (ia 2), .int (iI (tn 2))])), ((ia 2), aI gi 10 (gs 2))]) hD hS hA [1, 2, 3, 4, 5, 6, 7, 8, 9] rfl
              refine va_calli (va_runV C (As := [.int (iI j), .int (iI x2)]) (rest := [.int (iI (EF (gs x1.toNat) (tn x1.toNat) (gs j.toNat) (tn j.toNat) 0 0)), .int (iI (EF (gs x1.toNat) (tn x1.toNat) (gs x2.toNat) (tn x2.toNat) 0 0))]) (c_X2_distance l D gi gc gr H.size w rw bq sq mp u_r_8 ra ia tn gs j x2 (by first | omega | assumption) (by first | omega | assumption) (by first | omega | assumption) (by first | omega | assumption)) (cwV 2 hts gX6_pairIsSound_X2_distance rfl rfl rfl (by decide +kernel) ⟨Nat.le_of_ble_eq_true rfl, Nat.le_of_ble_eq_true rfl⟩) (zt_preVw hK hPc hDc [.int (iI j), .int (iI x2)] 0 rfl rfl) rfl rfl hl.1 rfl (lv_room (Nat.le_of_ble_eq_true rfl)) dX6_pairIsSound_85 ⟨Nat.le_of_ble_eq_true rfl, Nat.le_of_ble_eq_true rfl⟩) hS (fun q _ h => hFc q h) hFc (fun r_9 u_r_9 T9 H1 locs hT9 hvm hw hB hz1 hk1 hS => ?_)
              obtain ⟨hv_9, hT⟩ := hw
              try dsimp only at hT
              subst hv_9
              obtain ⟨hP1, hD1⟩ := hB
              rw [hT9] at hP1
              obtain ⟨hP, hD⟩ := zt_back (w1 := [(w, .inr (1, [.ref rw, .ref bq, .ref sq, .int (iI mp)])), (rw, .inl (gr, 3, .inr (.inr (.inr (.inr (rF ra)))))), (bq, aI gi 121 u_r_9), ((ra 0), .inr (3, [.ref (ia 0), .int (iI (tn 0))])), ((ia 0), aI gi 10 (gs 0)), ((ra 1), .inr (3, [.ref (ia 1), .int (iI (tn 1))])), ((ia 1), aI gi 10 (gs 1)), ((ra 2), .inr (3, [.ref (ia 2), .int (iI (tn 2))])), ((ia 2), aI gi 10 (gs 2))]) (wr := [(h, .inr (5, [.ref k1, .ref d, .ref o, .ref w, .ref bu, .int (iI chg), .int (iI rfd)]))]) (wn := [(h, .inr (5, [.ref k1, .ref d, .ref o, .ref w, .ref bu, .int (iI chg), .int (iI rfd)])), (w, .inr (1, [.ref rw, .ref bq, .ref sq, .int (iI mp)])), (rw, .inl (gr, 3, .inr (.inr (.inr (.inr (rF ra)))))), (bq, aI gi 121 u_r_9), ((ra 0), .inr (3, [.ref (ia 0), .int (iI (tn 0))])), ((ia 0), aI gi 10 (gs 0)), ((ra 1), .inr (3, [.ref (ia 1), .int (iI (tn 1))])), ((ia 1), aI gi 10 (gs 1)), ((ra 2), .inr (3, [.ref (ia 2), .int (iI (tn 2))])), ((ia 2), aI gi 10 (gs 2))]) hP hD [1, 2, 3, 4, 5, 6, 7, 8, 9] [0] [0, 1, 2, 3, 4, 5, 6, 7, 8, 9] rfl rfl (by decide) (by decide) hk1 hFc hP1 hD1 rfl (by decide)
              generalize H1 = H at hP hS ⊢
              refine zt_iadd hx hb dX6_pairIsSound_88 ?_
              refine zt_icmp_le (tgt := 94) hx hb dX6_pairIsSound_89 (by decide) (by omega) (fun c_10 => ?_) (fun c_10 => absurd c_10 (by omega))
              refine lv_iinc (v := iI (j + 1)) (lv' := [(4, .int (iI (j + 1))), (0, .ref h), (1, .int (iI x1)), (2, .int (iI x2)), (3, .int (iI (EF (gs x1.toNat) (tn x1.toNat) (gs x2.toNat) (tn x2.toNat) 0 0)))]) hx hb dX6_pairIsSound_94 hl (k := 4) rfl (iI_add _ _) (by decide) rfl (fun ls hl => ?_)
              refine lv_goto (tgt := 43) hx hb dX6_pairIsSound_97 (by decide) ?_
              exact ih_43 (j + 1) u_r_9 (by omega) (by omega) H locs hP hD hS ls (lv_sub hl [1, 2, 3, 4, 0] rfl)
    exact loop_43 ((mp - 0 : Int).toNat + 1) 0 u_r_3 (by omega) (by omega) H locs hP hD hS ls (lv_sub hl [2, 3, 4, 1, 0] rfl)
  · have hz0 : EF (gs x1.toNat) (tn x1.toNat) (gs x2.toNat) (tn x2.toNat) 0 0 = 0 := by rw [show x1 = x2 by omega]; exact EF_00 _ _
    refine lv_iload_n hx hb dX6_pairIsSound_15 rfl (lv_at hl 0 rfl) ?_
    refine zt_if_ne (tgt := 23) hx hb dX6_pairIsSound_16 (by decide) (by omega) (fun c_11 => absurd c_11 (by omega)) (fun c_11 => ?_)
    refine lv_iconst (v := iI (1)) hx hb dX6_pairIsSound_19 (by decide +kernel) ?_
    refine lv_goto (tgt := 24) hx hb dX6_pairIsSound_20 (by decide) ?_
    exact hQ u_r_1 _ _ _ _ _ (by first | rfl | decide +kernel) (rfl) hP hD hS dX6_pairIsSound_24
set_option maxHeartbeats 16000000 in
set_option maxRecDepth 100000 in
theorem c_X6_printsAreSound (l : Launch) (D : va_G) (gi gc gr : ClassId) (sz : Nat) (h : Nat) (k1 : Nat) (d : Nat) (o : Nat) (w : Nat) (bu : Nat) (chg : Int) (rfd : Int) (rw : Nat) (bq : Nat) (sq : Nat) (mp : Int) (pb : Nat → Int) (ra : Nat → Nat) (ia : Nat → Nat) (tn : Nat → Int) (gs : Nat → Nat → Int) (htn : ∀ k : Nat, k < 3 → 0 ≤ tn k ∧ tn k ≤ 10) (hgs : ∀ k : Nat, k < 3 → ∀ j : Nat, (j : Int) < tn k → 0 ≤ gs k j ∧ gs k j ≤ 99) (hmp : 0 ≤ mp ∧ mp ≤ 3) : Met l yX6_printsAreSound wsX6_printsAreSound { frames := 5, cells := 0, slots := 0, locals := 118 } (zPw D gi gc gr [(h, .inr (5, [.ref k1, .ref d, .ref o, .ref w, .ref bu, .int (iI chg), .int (iI rfd)])), (w, .inr (1, [.ref rw, .ref bq, .ref sq, .int (iI mp)])), (rw, .inl (gr, 3, .inr (.inr (.inr (.inr (rF ra)))))), (bq, aI gi 121 pb), ((ra 0), .inr (3, [.ref (ia 0), .int (iI (tn 0))])), ((ia 0), aI gi 10 (gs 0)), ((ra 1), .inr (3, [.ref (ia 1), .int (iI (tn 1))])), ((ia 1), aI gi 10 (gs 1)), ((ra 2), .inr (3, [.ref (ia 2), .int (iI (tn 2))])), ((ia 2), aI gi 10 (gs 2))] sz [.ref h]) (va_Qi (S := Nat → Int) (fun v _ => v = iI 1) (zB D (va_A [(h, .inr (5, [.ref k1, .ref d, .ref o, .ref w, .ref bu, .int (iI chg), .int (iI rfd)])), (w, .inr (1, [.ref rw, .ref bq, .ref sq, .int (iI mp)])), (rw, .inl (gr, 3, .inr (.inr (.inr (.inr (rF ra)))))), (bq, aI gi 121 pb), ((ra 0), .inr (3, [.ref (ia 0), .int (iI (tn 0))])), ((ia 0), aI gi 10 (gs 0)), ((ra 1), .inr (3, [.ref (ia 1), .int (iI (tn 1))])), ((ia 1), aI gi 10 (gs 1)), ((ra 2), .inr (3, [.ref (ia 2), .int (iI (tn 2))])), ((ia 2), aI gi 10 (gs 2))] sz) (fun u => [(h, .inr (5, [.ref k1, .ref d, .ref o, .ref w, .ref bu, .int (iI chg), .int (iI rfd)])), (w, .inr (1, [.ref rw, .ref bq, .ref sq, .int (iI mp)])), (rw, .inl (gr, 3, .inr (.inr (.inr (.inr (rF ra)))))), (bq, aI gi 121 u), (ra 0, .inr (3, [.ref (ia 0), .int (iI (tn 0))])), (ia 0, aI gi 10 (gs 0)), (ra 1, .inr (3, [.ref (ia 1), .int (iI (tn 1))])), (ia 1, aI gi 10 (gs 1)), (ra 2, .inr (3, [.ref (ia 2), .int (iI (tn 2))])), (ia 2, aI gi 10 (gs 2))])) (va_A [(h, .inr (5, [.ref k1, .ref d, .ref o, .ref w, .ref bu, .int (iI chg), .int (iI rfd)])), (w, .inr (1, [.ref rw, .ref bq, .ref sq, .int (iI mp)])), (rw, .inl (gr, 3, .inr (.inr (.inr (.inr (rF ra)))))), (bq, aI gi 121 pb), ((ra 0), .inr (3, [.ref (ia 0), .int (iI (tn 0))])), ((ia 0), aI gi 10 (gs 0)), ((ra 1), .inr (3, [.ref (ia 1), .int (iI (tn 1))])), ((ia 1), aI gi 10 (gs 1)), ((ra 2), .inr (3, [.ref (ia 2), .int (iI (tn 2))])), ((ia 2), aI gi 10 (gs 2))] sz)) 0 0 (va_A [(h, .inr (5, [.ref k1, .ref d, .ref o, .ref w, .ref bu, .int (iI chg), .int (iI rfd)])), (w, .inr (1, [.ref rw, .ref bq, .ref sq, .int (iI mp)])), (rw, .inl (gr, 3, .inr (.inr (.inr (.inr (rF ra)))))), (bq, aI gi 121 pb), ((ra 0), .inr (3, [.ref (ia 0), .int (iI (tn 0))])), ((ia 0), aI gi 10 (gs 0)), ((ra 1), .inr (3, [.ref (ia 1), .int (iI (tn 1))])), ((ia 1), aI gi 10 (gs 1)), ((ra 2), .inr (3, [.ref (ia 2), .int (iI (tn 2))])), ((ia 2), aI gi 10 (gs 2))] sz) := by
  refine zt_metWz (own := RX6) (cc := cX6_printsAreSound) (maxL := 3) (by decide) rfl rfl (Nat.le_of_ble_eq_true rfl) ?_
  intro p e s m args below meth c Q A C hK hP hD hS hA _ hQ ls hl
  have hx := C.1
  have hb := C.2.1
  have hml := C.2.2.1
  have hown := C.2.2.2.1
  have hts := C.2.2.2.2
  have i2 : ∀ w ∈ u_ws RX2 TX2 4, w ∈ wsX6_printsAreSound := by decide +kernel
  have i6 : ∀ w ∈ u_ws RX6 TX6 7, w ∈ wsX6_printsAreSound := by decide +kernel
  have f35 := hts (.fieldLink RX6 35 "Threetwo" "prints" "LThreetwo$Prints;") (by decide +kernel)
  have hl : lv_has ls 3 [(0, .ref h)] := hl
  refine lv_iconst (v := iI (0)) hx hb dX6_printsAreSound_0 (by decide +kernel) ?_
  refine lv_istore_n (lv' := [(1, .int (iI 0)), (0, .ref h)]) hx hb dX6_printsAreSound_1 rfl hl (by decide) rfl (fun ls hl => ?_)
  have loop_2 : ∀ (n_2 : Nat) (i : Int) (p1 : Nat → Int) (hi : 0 ≤ i ∧ i ≤ mp) (hm_2 : mp - i < (n_2 : Int)) (H : Heap) (locs : List Loc) (hP : va_P D vwCl [(h, .inr (5, [.ref k1, .ref d, .ref o, .ref w, .ref bu, .int (iI chg), .int (iI rfd)])), (w, .inr (1, [.ref rw, .ref bq, .ref sq, .int (iI mp)])), (rw, .inl (gr, 3, .inr (.inr (.inr (.inr (rF ra)))))), (bq, aI gi 121 p1), ((ra 0), .inr (3, [.ref (ia 0), .int (iI (tn 0))])), ((ia 0), aI gi 10 (gs 0)), ((ra 1), .inr (3, [.ref (ia 1), .int (iI (tn 1))])), ((ia 1), aI gi 10 (gs 1)), ((ra 2), .inr (3, [.ref (ia 2), .int (iI (tn 2))])), ((ia 2), aI gi 10 (gs 2))] H) (hD : va_D A [(h, .inr (5, [.ref k1, .ref d, .ref o, .ref w, .ref bu, .int (iI chg), .int (iI rfd)])), (w, .inr (1, [.ref rw, .ref bq, .ref sq, .int (iI mp)])), (rw, .inl (gr, 3, .inr (.inr (.inr (.inr (rF ra)))))), (bq, aI gi 121 p1), ((ra 0), .inr (3, [.ref (ia 0), .int (iI (tn 0))])), ((ia 0), aI gi 10 (gs 0)), ((ra 1), .inr (3, [.ref (ia 1), .int (iI (tn 1))])), ((ia 1), aI gi 10 (gs 1)), ((ra 2), .inr (3, [.ref (ia 2), .int (iI (tn 2))])), ((ia 2), aI gi 10 (gs 2))]) (hS : va_S A s.heap H locs) (ls : Array Slot) (hl : lv_has ls 3 [(0, .ref h), (1, .int (iI i))]), W p l e { frames := 5, cells := 0, slots := 0, locals := 118 } s m args below meth c H locs 0 0 Q (F0 m 2 ls []) := by
    intro n_2
    induction n_2 with
    | zero => intro i p1 hi hm_2 H locs hP hD hS ls hl; exact absurd hm_2 (by omega)
    | succ n_2 ih_2 =>
      intro i p1 hi hm_2 H locs hP hD hS ls hl
      refine lv_iload_n hx hb dX6_printsAreSound_2 rfl (lv_at hl 1 rfl) ?_
      refine lv_aload_n hx hb dX6_printsAreSound_3 rfl (lv_at hl 0 rfl) ?_
      refine va_get (D := D) (ci := 5) (v := .ref w) (C := RX6) (T := TX6) (N := 7) hx hb hts i6 hown hK.1 hP 0 rfl rfl 3 (by decide) f35 (fun _ h9 => h9) rfl dX6_printsAreSound_4 ?_
      refine va_getN (D := D) (ci := 1) (v := .int (iI mp)) (C := RX2) (T := TX2) (N := 4) hx hb hts i2 hown hK.1 hP 1 rfl rfl 3 (by decide) (zK.n190 hK _) (fun _ h9 => h9) rfl dX6_printsAreSound_7 ?_
      refine zt_icmp_ge (tgt := 49) hx hb dX6_printsAreSound_10 (by decide) (by omega) (fun c_1 => ?_) (fun c_1 => ?_)
      · refine lv_iconst (v := iI (1)) hx hb dX6_printsAreSound_49 (by decide +kernel) ?_
        exact hQ p1 _ _ _ _ _ (by first | rfl | decide +kernel) (rfl) hP hD hS dX6_printsAreSound_50
      · refine lv_iconst (v := iI (0)) hx hb dX6_printsAreSound_13 (by decide +kernel) ?_
        refine lv_istore_n (lv' := [(2, .int (iI 0)), (0, .ref h), (1, .int (iI i))]) hx hb dX6_printsAreSound_14 rfl hl (by decide) rfl (fun ls hl => ?_)
        have loop_15 : ∀ (n_15 : Nat) (j : Int) (p2 : Nat → Int) (hj : 0 ≤ j ∧ j ≤ mp) (hm_15 : mp - j < (n_15 : Int)) (H : Heap) (locs : List Loc) (hP : va_P D vwCl [(h, .inr (5, [.ref k1, .ref d, .ref o, .ref w, .ref bu, .int (iI chg), .int (iI rfd)])), (w, .inr (1, [.ref rw, .ref bq, .ref sq, .int (iI mp)])), (rw, .inl (gr, 3, .inr (.inr (.inr (.inr (rF ra)))))), (bq, aI gi 121 p2), ((ra 0), .inr (3, [.ref (ia 0), .int (iI (tn 0))])), ((ia 0), aI gi 10 (gs 0)), ((ra 1), .inr (3, [.ref (ia 1), .int (iI (tn 1))])), ((ia 1), aI gi 10 (gs 1)), ((ra 2), .inr (3, [.ref (ia 2), .int (iI (tn 2))])), ((ia 2), aI gi 10 (gs 2))] H) (hD : va_D A [(h, .inr (5, [.ref k1, .ref d, .ref o, .ref w, .ref bu, .int (iI chg), .int (iI rfd)])), (w, .inr (1, [.ref rw, .ref bq, .ref sq, .int (iI mp)])), (rw, .inl (gr, 3, .inr (.inr (.inr (.inr (rF ra)))))), (bq, aI gi 121 p2), ((ra 0), .inr (3, [.ref (ia 0), .int (iI (tn 0))])), ((ia 0), aI gi 10 (gs 0)), ((ra 1), .inr (3, [.ref (ia 1), .int (iI (tn 1))])), ((ia 1), aI gi 10 (gs 1)), ((ra 2), .inr (3, [.ref (ia 2), .int (iI (tn 2))])), ((ia 2), aI gi 10 (gs 2))]) (hS : va_S A s.heap H locs) (ls : Array Slot) (hl : lv_has ls 3 [(0, .ref h), (1, .int (iI i)), (2, .int (iI j))]), W p l e { frames := 5, cells := 0, slots := 0, locals := 118 } s m args below meth c H locs 0 0 Q (F0 m 15 ls []) := by
          intro n_15
          induction n_15 with
          | zero => intro j p2 hj hm_15 H locs hP hD hS ls hl; exact absurd hm_15 (by omega)
          | succ n_15 ih_15 =>
            intro j p2 hj hm_15 H locs hP hD hS ls hl
            refine lv_iload_n hx hb dX6_printsAreSound_15 rfl (lv_at hl 2 rfl) ?_
            refine lv_aload_n hx hb dX6_printsAreSound_16 rfl (lv_at hl 0 rfl) ?_
            refine va_get (D := D) (ci := 5) (v := .ref w) (C := RX6) (T := TX6) (N := 7) hx hb hts i6 hown hK.1 hP 0 rfl rfl 3 (by decide) f35 (fun _ h9 => h9) rfl dX6_printsAreSound_17 ?_
            refine va_getN (D := D) (ci := 1) (v := .int (iI mp)) (C := RX2) (T := TX2) (N := 4) hx hb hts i2 hown hK.1 hP 1 rfl rfl 3 (by decide) (zK.n190 hK _) (fun _ h9 => h9) rfl dX6_printsAreSound_20 ?_
            refine zt_icmp_ge (tgt := 43) hx hb dX6_printsAreSound_23 (by decide) (by omega) (fun c_2 => ?_) (fun c_2 => ?_)
            · refine lv_iinc (v := iI (i + 1)) (lv' := [(1, .int (iI (i + 1))), (0, .ref h), (2, .int (iI j))]) hx hb dX6_printsAreSound_43 hl (k := 1) rfl (iI_add _ _) (by decide) rfl (fun ls hl => ?_)
              refine lv_goto (tgt := 2) hx hb dX6_printsAreSound_46 (by decide) ?_
              exact ih_2 (i + 1) p2 (by omega) (by omega) H locs hP hD hS ls (lv_sub hl [1, 0] rfl)
            · refine lv_aload_n hx hb dX6_printsAreSound_26 rfl (lv_at hl 0 rfl) ?_
              refine lv_iload_n hx hb dX6_printsAreSound_27 rfl (lv_at hl 1 rfl) ?_
              refine lv_iload_n hx hb dX6_printsAreSound_28 rfl (lv_at hl 2 rfl) ?_
              have hPc := hP.sub (ws' := [(h, .inr (5, [.ref k1, .ref d, .ref o, .ref w, .ref bu, .int (iI chg), .int (iI rfd)])), (w, .inr (1, [.ref rw, .ref bq, .ref sq, .int (iI mp)])), (rw, .inl (gr, 3, .inr (.inr (.inr (.inr (rF ra)))))), (bq, aI gi 121 p2), ((ra 0), .inr (3, [.ref (ia 0), .int (iI (tn 0))])), ((ia 0), aI gi 10 (gs 0)), ((ra 1), .inr (3, [.ref (ia 1), .int (iI (tn 1))])), ((ia 1), aI gi 10 (gs 1)), ((ra 2), .inr (3, [.ref (ia 2), .int (iI (tn 2))])), ((ia 2), aI gi 10 (gs 2))]) [0, 1, 2, 3, 4, 5, 6, 7, 8, 9] rfl
              have hDc := hD.sub (ws' := [(h, .inr (5, [.ref k1, .ref d, .ref o, .ref w, .ref bu, .int (iI chg), .int (iI rfd)])), (w, .inr (1, [.ref rw, .ref bq, .ref sq, .int (iI mp)])), (rw, .inl (gr, 3, .inr (.inr (.inr (.inr (rF ra)))))), (bq, aI gi 121 p2), ((ra 0), .inr (3, [.ref (ia 0), .int (iI (tn 0))])), ((ia 0), aI gi 10 (gs 0)), ((ra 1), .inr (3, [.ref (ia 1), .int (iI (tn 1))])), ((ia 1), aI gi 10 (gs 1)), ((ra 2), .inr (3, [.ref (ia 2), .int (iI (tn 2))])), ((ia 2), aI gi 10 (gs 2))]) [0, 1, 2, 3, 4, 5, 6, 7, 8, 9] (by decide) rfl
              have hFc := va_free (wc := [(h, .inr (5, [.ref k1, .ref d, .ref o, .ref w, .ref bu, .int (iI chg), .int (iI rfd)])), (w, .inr (1, [.ref rw, .ref bq, .ref sq, .int (iI mp)])), (rw, .inl (gr, 3, .inr (.inr (.inr (.inr (rF ra)))))), (bq, aI gi 121 p2), ((ra 0), .inr (3, [.ref (ia 0), .int (iI (tn 0))])), ((ia 0), aI gi 10 (gs 0)), ((ra 1), .inr (3, [.ref (ia 1), .int (iI (tn 1))])), ((ia 1), aI gi 10 (gs 1)), ((ra 2), .inr (3, [.ref (ia 2), .int (iI (tn 2))])), ((ia 2), aI gi 10 (gs 2))]) hD hS hA [0, 1, 2, 3, 4, 5, 6, 7, 8, 9] rfl
              refine va_calli (va_runV C (As := [.int (iI i), .int (iI j)]) (rest := []) (c_X6_pairIsSound l D gi gc gr H.size h k1 d o w bu chg rfd rw bq sq mp p2 ra ia tn gs i j (by first | omega | assumption) (by first | omega | assumption) (by first | omega | assumption) (by first | omega | assumption) (by first | omega | assumption)) (cwV 2 hts gX6_printsAreSound_X6_pairIsSound rfl rfl rfl (by decide +kernel) ⟨Nat.le_of_ble_eq_true rfl, Nat.le_of_ble_eq_true rfl⟩) (zt_preVw hK hPc hDc [.int (iI i), .int (iI j)] 0 rfl rfl) rfl rfl hl.1 rfl (lv_room (Nat.le_of_ble_eq_true rfl)) dX6_printsAreSound_29 ⟨Nat.le_of_ble_eq_true rfl, Nat.le_of_ble_eq_true rfl⟩) hS (fun q _ h => hFc q h) hFc (fun r_3 u_r_3 T9 H1 locs hT9 hvm hw hB hz1 hk1 hS => ?_)
              subst hw
              obtain ⟨hP1, hD1⟩ := hB
              rw [hT9] at hP1
              obtain ⟨hP, hD⟩ := zt_back (w1 := [(h, .inr (5, [.ref k1, .ref d, .ref o, .ref w, .ref bu, .int (iI chg), .int (iI rfd)])), (w, .inr (1, [.ref rw, .ref bq, .ref sq, .int (iI mp)])), (rw, .inl (gr, 3, .inr (.inr (.inr (.inr (rF ra)))))), (bq, aI gi 121 u_r_3), ((ra 0), .inr (3, [.ref (ia 0), .int (iI (tn 0))])), ((ia 0), aI gi 10 (gs 0)), ((ra 1), .inr (3, [.ref (ia 1), .int (iI (tn 1))])), ((ia 1), aI gi 10 (gs 1)), ((ra 2), .inr (3, [.ref (ia 2), .int (iI (tn 2))])), ((ia 2), aI gi 10 (gs 2))]) (wr := []) (wn := [(h, .inr (5, [.ref k1, .ref d, .ref o, .ref w, .ref bu, .int (iI chg), .int (iI rfd)])), (w, .inr (1, [.ref rw, .ref bq, .ref sq, .int (iI mp)])), (rw, .inl (gr, 3, .inr (.inr (.inr (.inr (rF ra)))))), (bq, aI gi 121 u_r_3), ((ra 0), .inr (3, [.ref (ia 0), .int (iI (tn 0))])), ((ia 0), aI gi 10 (gs 0)), ((ra 1), .inr (3, [.ref (ia 1), .int (iI (tn 1))])), ((ia 1), aI gi 10 (gs 1)), ((ra 2), .inr (3, [.ref (ia 2), .int (iI (tn 2))])), ((ia 2), aI gi 10 (gs 2))]) hP hD [0, 1, 2, 3, 4, 5, 6, 7, 8, 9] [] [0, 1, 2, 3, 4, 5, 6, 7, 8, 9] rfl rfl (by decide) (by decide) hk1 hFc hP1 hD1 rfl (by decide)
              generalize H1 = H at hP hS ⊢
              refine zt_if_ne (tgt := 37) hx hb dX6_printsAreSound_32 (by decide) (by omega) (fun c_4 => ?_) (fun c_4 => absurd c_4 (by omega))
              refine lv_iinc (v := iI (j + 1)) (lv' := [(2, .int (iI (j + 1))), (0, .ref h), (1, .int (iI i))]) hx hb dX6_printsAreSound_37 hl (k := 2) rfl (iI_add _ _) (by decide) rfl (fun ls hl => ?_)
              refine lv_goto (tgt := 15) hx hb dX6_printsAreSound_40 (by decide) ?_
              exact ih_15 (j + 1) u_r_3 (by omega) (by omega) H locs hP hD hS ls (lv_sub hl [1, 2, 0] rfl)
        exact loop_15 ((mp - 0 : Int).toNat + 1) 0 p1 (by omega) (by omega) H locs hP hD hS ls (lv_sub hl [1, 2, 0] rfl)
  exact loop_2 ((mp - 0 : Int).toNat + 1) 0 pb (by omega) (by omega) s.heap [] hP hD hS ls (lv_sub hl [1, 0] rfl)
set_option maxHeartbeats 4000000 in
set_option maxRecDepth 100000 in
theorem c_X6_bufferIsSound (l : Launch) (D : va_G) (gi gc gr : ClassId) (h : Nat) (k1 : Nat) (d : Nat) (o : Nat) (w : Nat) (bu : Nat) (chg : Int) (rfd : Int) (br : Nat) (ba : Nat) (rate : Int) (bt : Int) (bg : Nat → Int) (hr : 1 ≤ rate ∧ rate ≤ 50) (hbt : 0 ≤ bt ∧ bt ≤ 20) (hbg : ∀ j : Nat, (j : Int) < bt → 0 ≤ bg j ∧ bg j ≤ 99) : Met l yX6_bufferIsSound wsX6_bufferIsSound { frames := 3, cells := 0, slots := 0, locals := 67 } (zPr D gi gc gr [(h, .inr (5, [.ref k1, .ref d, .ref o, .ref w, .ref bu, .int (iI chg), .int (iI rfd)])), (bu, .inr (0, [.ref br, .int (iI rate)])), (br, .inr (3, [.ref ba, .int (iI bt)])), (ba, aI gi 20 bg)] [.ref h]) (vp_Si (fun v => v = iI 1)) 0 0 (fun _ => False) := by
  refine zt_metRz (own := RX6) (cc := cX6_bufferIsSound) (maxL := 2) (by decide) rfl rfl (Nat.le_of_ble_eq_true rfl) ?_
  intro p e s m args below meth c Q C hK hP hQ ls hl
  have hx := C.1
  have hb := C.2.1
  have hml := C.2.2.1
  have hown := C.2.2.2.1
  have hts := C.2.2.2.2
  have i6 : ∀ w ∈ u_ws RX6 TX6 7, w ∈ wsX6_bufferIsSound := by decide +kernel
  have f42 := hts (.fieldLink RX6 42 "Threetwo" "buffer" "LThreetwo$Buffer;") (by decide +kernel)
  have hl : lv_has ls 2 [(0, .ref h)] := hl
  have hdl := dry_least hr hbt hbg
  have hll := leastL_i hr hbg (j := bt) (by omega)
  refine lv_aload_n hx hb dX6_bufferIsSound_0 rfl (lv_at hl 0 rfl) ?_
  refine va_get (D := D) (ci := 5) (v := .ref bu) (C := RX6) (T := TX6) (N := 7) hx hb hts i6 hown hK.1 hP 0 rfl rfl 4 (by decide) f42 (fun _ h9 => h9) rfl dX6_bufferIsSound_1 ?_
  refine zt_callV C (As := []) (rest := []) (c_X0_leastDelay l D gi gc gr bu br ba rate bt bg (by first | omega | assumption) (by first | omega | assumption) (by first | omega | assumption)) (cwV 0 hts gX6_bufferIsSound_X0_leastDelay rfl rfl rfl (by decide +kernel) ⟨Nat.le_of_ble_eq_true rfl, Nat.le_of_ble_eq_true rfl⟩) (zt_preV hK (hP.sub (ws' := [(bu, .inr (0, [.ref br, .int (iI rate)])), (br, .inr (3, [.ref ba, .int (iI bt)])), (ba, aI gi 20 bg)]) [1, 2, 3] rfl) [] 0 rfl rfl) rfl hl.1 rfl (Nat.le_of_ble_eq_true rfl) dX6_bufferIsSound_4 ⟨Nat.le_of_ble_eq_true rfl, Nat.le_of_ble_eq_true rfl⟩ (fun r_1 hr_1 => ?_)
  obtain rfl := hr_1
  refine lv_istore_n (lv' := [(1, .int (iI (leastL rate bg bt.toNat))), (0, .ref h)]) hx hb dX6_bufferIsSound_7 rfl hl (by decide) rfl (fun ls hl => ?_)
  refine lv_aload_n hx hb dX6_bufferIsSound_8 rfl (lv_at hl 1 rfl) ?_
  refine va_get (D := D) (ci := 5) (v := .ref bu) (C := RX6) (T := TX6) (N := 7) hx hb hts i6 hown hK.1 hP 0 rfl rfl 4 (by decide) f42 (fun _ h9 => h9) rfl dX6_bufferIsSound_9 ?_
  refine lv_iload_n hx hb dX6_bufferIsSound_12 rfl (lv_at hl 0 rfl) ?_
  refine zt_callV C (As := [.int (iI (leastL rate bg bt.toNat))]) (rest := []) (c_X0_firstDry l D gi gc gr bu br ba rate bt bg (leastL rate bg bt.toNat) (by first | omega | assumption) (by first | omega | assumption) (by first | omega | assumption) (by first | omega | assumption)) (cwV 1 hts gX6_bufferIsSound_X0_firstDry rfl rfl rfl (by decide +kernel) ⟨Nat.le_of_ble_eq_true rfl, Nat.le_of_ble_eq_true rfl⟩) (zt_preV hK (hP.sub (ws' := [(bu, .inr (0, [.ref br, .int (iI rate)])), (br, .inr (3, [.ref ba, .int (iI bt)])), (ba, aI gi 20 bg)]) [1, 2, 3] rfl) [.int (iI (leastL rate bg bt.toNat))] 0 rfl rfl) rfl hl.1 rfl (Nat.le_of_ble_eq_true rfl) dX6_bufferIsSound_13 ⟨Nat.le_of_ble_eq_true rfl, Nat.le_of_ble_eq_true rfl⟩ (fun r_2 hr_2 => ?_)
  obtain rfl := hr_2
  refine lv_iconst (v := iI (-1)) hx hb dX6_bufferIsSound_16 (by decide +kernel) ?_
  refine zt_icmp_ne (tgt := 42) hx hb dX6_bufferIsSound_17 (by decide) (by omega) (fun c_3 => absurd c_3 (by omega)) (fun c_3 => ?_)
  refine lv_iload_n hx hb dX6_bufferIsSound_20 rfl (lv_at hl 0 rfl) ?_
  refine zt_if_eq (tgt := 38) hx hb dX6_bufferIsSound_21 (by decide) (by omega) (fun c_4 => ?_) (fun c_4 => ?_)
  · refine lv_iconst (v := iI (1)) hx hb dX6_bufferIsSound_38 (by decide +kernel) ?_
    refine lv_goto (tgt := 43) hx hb dX6_bufferIsSound_39 (by decide) ?_
    exact hQ _ _ _ (by first | rfl | decide +kernel) (rfl) dX6_bufferIsSound_43
  · have hne := dry_less hr hbt hbg (by omega)
    have hbd : -1 ≤ dryF rate (leastL rate bg bt.toNat - 1) (sumF bg bt.toNat) bg bt.toNat 0 0 ∧ dryF rate (leastL rate bg bt.toNat - 1) (sumF bg bt.toNat) bg bt.toNat 0 0 ≤ 20 := dryF_bd (N := bt.toNat) (by omega) bt.toNat 0 0 (by omega)
    refine lv_aload_n hx hb dX6_bufferIsSound_24 rfl (lv_at hl 1 rfl) ?_
    refine va_get (D := D) (ci := 5) (v := .ref bu) (C := RX6) (T := TX6) (N := 7) hx hb hts i6 hown hK.1 hP 0 rfl rfl 4 (by decide) f42 (fun _ h9 => h9) rfl dX6_bufferIsSound_25 ?_
    refine lv_iload_n hx hb dX6_bufferIsSound_28 rfl (lv_at hl 0 rfl) ?_
    refine lv_iconst (v := iI (1)) hx hb dX6_bufferIsSound_29 (by decide +kernel) ?_
    refine zt_isub hx hb dX6_bufferIsSound_30 ?_
    refine zt_callV C (As := [.int (iI ((leastL rate bg bt.toNat) - 1))]) (rest := []) (c_X0_firstDry l D gi gc gr bu br ba rate bt bg ((leastL rate bg bt.toNat) - 1) (by first | omega | assumption) (by first | omega | assumption) (by first | omega | assumption) (by first | omega | assumption)) (cwV 1 hts gX6_bufferIsSound_X0_firstDry rfl rfl rfl (by decide +kernel) ⟨Nat.le_of_ble_eq_true rfl, Nat.le_of_ble_eq_true rfl⟩) (zt_preV hK (hP.sub (ws' := [(bu, .inr (0, [.ref br, .int (iI rate)])), (br, .inr (3, [.ref ba, .int (iI bt)])), (ba, aI gi 20 bg)]) [1, 2, 3] rfl) [.int (iI ((leastL rate bg bt.toNat) - 1))] 0 rfl rfl) rfl hl.1 rfl (Nat.le_of_ble_eq_true rfl) dX6_bufferIsSound_31 ⟨Nat.le_of_ble_eq_true rfl, Nat.le_of_ble_eq_true rfl⟩ (fun r_5 hr_5 => ?_)
    obtain rfl := hr_5
    refine lv_iconst (v := iI (-1)) hx hb dX6_bufferIsSound_34 (by decide +kernel) ?_
    refine zt_icmp_eq (tgt := 42) hx hb dX6_bufferIsSound_35 (by decide) (by omega) (fun c_6 => absurd c_6 (by omega)) (fun c_6 => ?_)
    refine lv_iconst (v := iI (1)) hx hb dX6_bufferIsSound_38 (by decide +kernel) ?_
    refine lv_goto (tgt := 43) hx hb dX6_bufferIsSound_39 (by decide) ?_
    exact hQ _ _ _ (by first | rfl | decide +kernel) (rfl) dX6_bufferIsSound_43
set_option maxHeartbeats 4000000 in
set_option maxRecDepth 100000 in
theorem c_X6_framesAreSound (l : Launch) (D : va_G) (gi gc gr : ClassId) (h : Nat) (k1 : Nat) (d : Nat) (o : Nat) (w : Nat) (bu : Nat) (chg : Int) (rfd : Int) (r2 : Nat) (n1 : Nat) (n2 : Nat) (sg : Nat) (nn : Int) (r : Nat) (a : Nat) (t : Int) (q1 : Nat) (q2 : Nat) (q3 : Nat) (q4 : Nat) (q5 : Nat) (q6 : Nat) (cst : Int) (F : Int) (fi : Nat → Int) (le : Nat → Int) (ht : 0 ≤ t ∧ t ≤ 60) (hcov : Cov F t fi le) : Met l yX6_framesAreSound wsX6_framesAreSound { frames := 1, cells := 0, slots := 0, locals := 23 } (zPr D gi gc gr [(h, .inr (5, [.ref k1, .ref d, .ref o, .ref w, .ref bu, .int (iI chg), .int (iI rfd)])), (d, .inr (4, [.ref r, .ref r2, .ref n1, .ref n2, .ref sg, .int (iI nn)])), (r, .inr (3, [.ref a, .int (iI t)])), (o, .inr (2, [.ref q1, .ref q2, .ref q3, .ref q4, .ref q5, .ref q6, .int (iI cst), .int (iI F), .int (iI 1)])), (q4, aI gi 60 fi), (q5, aI gi 60 le)] [.ref h]) (vp_Si (fun v => v = iI 1)) 0 0 (fun _ => False) := by
  refine zt_metRz (own := RX6) (cc := cX6_framesAreSound) (maxL := 3) (by decide) rfl rfl (Nat.le_of_ble_eq_true rfl) ?_
  intro p e s m args below meth c Q C hK hP hQ ls hl
  have hx := C.1
  have hb := C.2.1
  have hml := C.2.2.1
  have hown := C.2.2.2.1
  have hts := C.2.2.2.2
  have i3 : ∀ w ∈ u_ws RX3 TX3 9, w ∈ wsX6_framesAreSound := by decide +kernel
  have i5 : ∀ w ∈ u_ws RX5 TX5 6, w ∈ wsX6_framesAreSound := by decide +kernel
  have i6 : ∀ w ∈ u_ws RX6 TX6 7, w ∈ wsX6_framesAreSound := by decide +kernel
  have f21 := hts (.fieldLink RX6 21 "Threetwo" "strip" "LThreetwo$Strip;") (by decide +kernel)
  have f28 := hts (.fieldLink RX6 28 "Threetwo" "rhythm" "LThreetwo$Rhythm;") (by decide +kernel)
  have f46 := hts (.fieldLink RX6 46 "Threetwo" "changeNow" "I") (by decide +kernel)
  have hl : lv_has ls 3 [(0, .ref h)] := hl
  have hc1 := hcov.1
  refine lv_aload_n hx hb dX6_framesAreSound_0 rfl (lv_at hl 0 rfl) ?_
  refine va_get (D := D) (ci := 5) (v := .ref o) (C := RX6) (T := TX6) (N := 7) hx hb hts i6 hown hK.1 hP 0 rfl rfl 2 (by decide) f28 (fun _ h9 => h9) rfl dX6_framesAreSound_1 ?_
  refine lv_aload_n hx hb dX6_framesAreSound_4 rfl (lv_at hl 0 rfl) ?_
  refine va_get (D := D) (ci := 5) (v := .ref d) (C := RX6) (T := TX6) (N := 7) hx hb hts i6 hown hK.1 hP 0 rfl rfl 1 (by decide) f21 (fun _ h9 => h9) rfl dX6_framesAreSound_5 ?_
  refine va_getN (D := D) (ci := 4) (v := .ref r) (C := RX5) (T := TX5) (N := 6) hx hb hts i5 hown hK.1 hP 1 rfl rfl 0 (by decide) (zK.n79 hK _) (fun _ h9 => h9) rfl dX6_framesAreSound_8 ?_
  refine lv_aload_n hx hb dX6_framesAreSound_11 rfl (lv_at hl 0 rfl) ?_
  refine va_get (D := D) (ci := 5) (v := .int (iI chg)) (C := RX6) (T := TX6) (N := 7) hx hb hts i6 hown hK.1 hP 0 rfl rfl 5 (by decide) f46 (fun _ h9 => h9) rfl dX6_framesAreSound_12 ?_
  refine zt_callVv C (As := [.ref r, .int (iI chg)]) (rest := []) (c_X3_find1 l D gi gc gr o q1 q2 q3 q4 q5 q6 cst F r chg) (cwV 2 hts gX6_framesAreSound_X3_find rfl rfl rfl (by decide +kernel) ⟨Nat.le_of_ble_eq_true rfl, Nat.le_of_ble_eq_true rfl⟩) (zt_preV hK (hP.sub (ws' := [(o, .inr (2, [.ref q1, .ref q2, .ref q3, .ref q4, .ref q5, .ref q6, .int (iI cst), .int (iI F), .int (iI 1)]))]) [3] rfl) [.ref r, .int (iI chg)] 0 rfl rfl) rfl hl.1 rfl (Nat.le_of_ble_eq_true rfl) dX6_framesAreSound_15 ⟨Nat.le_of_ble_eq_true rfl, Nat.le_of_ble_eq_true rfl⟩ (fun hr_1 => ?_)
  refine lv_iconst (v := iI (0)) hx hb dX6_framesAreSound_18 (by decide +kernel) ?_
  refine lv_istore_n (lv' := [(1, .int (iI 0)), (0, .ref h)]) hx hb dX6_framesAreSound_19 rfl hl (by decide) rfl (fun ls hl => ?_)
  refine lv_iconst (v := iI (0)) hx hb dX6_framesAreSound_20 (by decide +kernel) ?_
  refine lv_istore_n (lv' := [(2, .int (iI 0)), (1, .int (iI 0)), (0, .ref h)]) hx hb dX6_framesAreSound_21 rfl hl (by decide) rfl (fun ls hl => ?_)
  have loop_22 : ∀ (n_22 : Nat) (y : Int) (j : Int) (hj : 0 ≤ j ∧ j ≤ F) (hy1 : j < F → y = fi j.toNat) (hy2 : j = F → y = t) (hm_22 : F - j < (n_22 : Int)) (ls : Array Slot) (hl : lv_has ls 3 [(0, .ref h), (1, .int (iI y)), (2, .int (iI j))]), W p l e { frames := 1, cells := 0, slots := 0, locals := 23 } s m args below meth c s.heap [] 0 0 Q (F0 m 22 ls []) := by
    intro n_22
    induction n_22 with
    | zero => intro y j hj hy1 hy2 hm_22 ls hl; exact absurd hm_22 (by omega)
    | succ n_22 ih_22 =>
      intro y j hj hy1 hy2 hm_22 ls hl
      refine lv_iload_n hx hb dX6_framesAreSound_22 rfl (lv_at hl 2 rfl) ?_
      refine lv_aload_n hx hb dX6_framesAreSound_23 rfl (lv_at hl 0 rfl) ?_
      refine va_get (D := D) (ci := 5) (v := .ref o) (C := RX6) (T := TX6) (N := 7) hx hb hts i6 hown hK.1 hP 0 rfl rfl 2 (by decide) f28 (fun _ h9 => h9) rfl dX6_framesAreSound_24 ?_
      refine va_getN (D := D) (ci := 2) (v := .int (iI F)) (C := RX3) (T := TX3) (N := 9) hx hb hts i3 hown hK.1 hP 3 rfl rfl 7 (by decide) (zK.n148 hK _) (fun _ h9 => h9) rfl dX6_framesAreSound_27 ?_
      refine zt_icmp_ge (tgt := 66) hx hb dX6_framesAreSound_30 (by decide) (by omega) (fun c_2 => ?_) (fun c_2 => ?_)
      · refine lv_iload_n hx hb dX6_framesAreSound_66 rfl (lv_at hl 1 rfl) ?_
        refine lv_aload_n hx hb dX6_framesAreSound_67 rfl (lv_at hl 0 rfl) ?_
        refine va_get (D := D) (ci := 5) (v := .ref d) (C := RX6) (T := TX6) (N := 7) hx hb hts i6 hown hK.1 hP 0 rfl rfl 1 (by decide) f21 (fun _ h9 => h9) rfl dX6_framesAreSound_68 ?_
        refine va_getN (D := D) (ci := 4) (v := .ref r) (C := RX5) (T := TX5) (N := 6) hx hb hts i5 hown hK.1 hP 1 rfl rfl 0 (by decide) (zK.n79 hK _) (fun _ h9 => h9) rfl dX6_framesAreSound_71 ?_
        refine zt_callV C (As := []) (rest := [.int (iI y)]) (c_X4_many l D gi gc gr r a t) (cwV 0 hts gX6_framesAreSound_X4_many rfl rfl rfl (by decide +kernel) ⟨Nat.le_of_ble_eq_true rfl, Nat.le_of_ble_eq_true rfl⟩) (zt_preV hK (hP.sub (ws' := [(r, .inr (3, [.ref a, .int (iI t)]))]) [2] rfl) [] 0 rfl rfl) rfl hl.1 rfl (Nat.le_of_ble_eq_true rfl) dX6_framesAreSound_74 ⟨Nat.le_of_ble_eq_true rfl, Nat.le_of_ble_eq_true rfl⟩ (fun r_3 hr_3 => ?_)
        obtain rfl := hr_3
        refine zt_icmp_ne (tgt := 84) hx hb dX6_framesAreSound_77 (by decide) (by omega) (fun c_4 => absurd c_4 (by omega)) (fun c_4 => ?_)
        refine lv_iconst (v := iI (1)) hx hb dX6_framesAreSound_80 (by decide +kernel) ?_
        refine lv_goto (tgt := 85) hx hb dX6_framesAreSound_81 (by decide) ?_
        exact hQ _ _ _ (by first | rfl | decide +kernel) (rfl) dX6_framesAreSound_85
      · have hcj := hcov.2.2 j.toNat (by omega)
        have hyj := hy1 (by omega)
        refine lv_aload_n hx hb dX6_framesAreSound_33 rfl (lv_at hl 0 rfl) ?_
        refine va_get (D := D) (ci := 5) (v := .ref o) (C := RX6) (T := TX6) (N := 7) hx hb hts i6 hown hK.1 hP 0 rfl rfl 2 (by decide) f28 (fun _ h9 => h9) rfl dX6_framesAreSound_34 ?_
        refine va_getN (D := D) (ci := 2) (v := .ref q4) (C := RX3) (T := TX3) (N := 9) hx hb hts i3 hown hK.1 hP 3 rfl rfl 3 (by decide) (zK.n159 hK _) (fun _ h9 => h9) rfl dX6_framesAreSound_37 ?_
        refine lv_iload_n hx hb dX6_framesAreSound_40 rfl (lv_at hl 2 rfl) ?_
        refine zt_iald hx hb hK.1 hP 4 0 rfl rfl (by omega) (by omega) dX6_framesAreSound_41 ?_
        refine lv_iload_n hx hb dX6_framesAreSound_42 rfl (lv_at hl 1 rfl) ?_
        refine zt_icmp_eq (tgt := 48) hx hb dX6_framesAreSound_43 (by decide) (by omega) (fun c_5 => ?_) (fun c_5 => absurd c_5 (by omega))
        refine lv_iload_n hx hb dX6_framesAreSound_48 rfl (lv_at hl 1 rfl) ?_
        refine lv_aload_n hx hb dX6_framesAreSound_49 rfl (lv_at hl 0 rfl) ?_
        refine va_get (D := D) (ci := 5) (v := .ref o) (C := RX6) (T := TX6) (N := 7) hx hb hts i6 hown hK.1 hP 0 rfl rfl 2 (by decide) f28 (fun _ h9 => h9) rfl dX6_framesAreSound_50 ?_
        refine va_getN (D := D) (ci := 2) (v := .ref q5) (C := RX3) (T := TX3) (N := 9) hx hb hts i3 hown hK.1 hP 3 rfl rfl 4 (by decide) (zK.n162 hK _) (fun _ h9 => h9) rfl dX6_framesAreSound_53 ?_
        refine lv_iload_n hx hb dX6_framesAreSound_56 rfl (lv_at hl 2 rfl) ?_
        refine zt_iald hx hb hK.1 hP 5 0 rfl rfl (by omega) (by omega) dX6_framesAreSound_57 ?_
        refine zt_iadd hx hb dX6_framesAreSound_58 ?_
        refine lv_istore_n (lv' := [(1, .int (iI (y + (le j.toNat)))), (0, .ref h), (2, .int (iI j))]) hx hb dX6_framesAreSound_59 rfl hl (by decide) rfl (fun ls hl => ?_)
        refine lv_iinc (v := iI (j + 1)) (lv' := [(2, .int (iI (j + 1))), (1, .int (iI (y + (le j.toNat)))), (0, .ref h)]) hx hb dX6_framesAreSound_60 hl (k := 2) rfl (iI_add _ _) (by decide) rfl (fun ls hl => ?_)
        refine lv_goto (tgt := 22) hx hb dX6_framesAreSound_63 (by decide) ?_
        exact ih_22 (y + (le j.toNat)) (j + 1) (by omega) (by intro q; rw [show (j + 1).toNat = j.toNat + 1 by omega]; have h9 := hcov.2.1 j.toNat (by omega); omega) (by intro q; have h9 := hcov.1; rw [show (F - 1).toNat = j.toNat by omega] at h9; omega) (by omega) ls (lv_sub hl [2, 1, 0] rfl)
  exact loop_22 ((F - 0 : Int).toNat + 1) 0 0 (by omega) (by intro q; show (0 : Int) = fi 0; omega) (by intro q; omega) (by omega) ls (lv_sub hl [2, 1, 0] rfl)
set_option maxHeartbeats 4000000 in
set_option maxRecDepth 100000 in
theorem c_X6_labelsAreSound (l : Launch) (D : va_G) (gi gc gr : ClassId) : Met l yX6_labelsAreSound wsX6_labelsAreSound { frames := 3, cells := 0, slots := 0, locals := 66 } (zPr D gi gc gr [] []) (vp_Si (fun v => v = iI 1)) 0 0 (fun _ => False) := by
  refine zt_metRz (own := RX6) (cc := cX6_labelsAreSound) (maxL := 0) (by decide) rfl rfl (Nat.le_of_ble_eq_true rfl) ?_
  intro p e s m args below meth c Q C hK hP hQ ls hl
  have hx := C.1
  have hb := C.2.1
  have hml := C.2.2.1
  have hown := C.2.2.2.1
  have hts := C.2.2.2.2
  have hl : lv_has ls 0 [] := hl
  refine lv_sipush (v := iI (1799)) hx hb dX6_labelsAreSound_0 (by decide +kernel) ?_
  refine zt_callS C (As := [.int (iI 1799)]) (rest := []) (c_X1_goesBack l D gi gc gr 1799 (by first | omega | assumption)) (va_cwS 1 hts gX6_labelsAreSound_X1_goesBack rfl rfl rfl (by decide +kernel) ⟨Nat.le_of_ble_eq_true rfl, Nat.le_of_ble_eq_true rfl⟩) (zt_preS hK (hP.sub (ws' := []) [] rfl) [.int (iI 1799)]) rfl hl.1 rfl (Nat.le_of_ble_eq_true rfl) dX6_labelsAreSound_3 ⟨Nat.le_of_ble_eq_true rfl, Nat.le_of_ble_eq_true rfl⟩ (fun r_1 hr_1 => ?_)
  obtain rfl := hr_1
  refine zt_if_eq (tgt := 49) hx hb dX6_labelsAreSound_6 (by decide) (by omega) (fun c_2 => absurd c_2 (by omega)) (fun c_2 => ?_)
  refine lv_sipush (v := iI (1800)) hx hb dX6_labelsAreSound_9 (by decide +kernel) ?_
  refine zt_callS C (As := [.int (iI 1800)]) (rest := []) (c_X1_goesBack l D gi gc gr 1800 (by first | omega | assumption)) (va_cwS 1 hts gX6_labelsAreSound_X1_goesBack rfl rfl rfl (by decide +kernel) ⟨Nat.le_of_ble_eq_true rfl, Nat.le_of_ble_eq_true rfl⟩) (zt_preS hK (hP.sub (ws' := []) [] rfl) [.int (iI 1800)]) rfl hl.1 rfl (Nat.le_of_ble_eq_true rfl) dX6_labelsAreSound_12 ⟨Nat.le_of_ble_eq_true rfl, Nat.le_of_ble_eq_true rfl⟩ (fun r_3 hr_3 => ?_)
  obtain rfl := hr_3
  refine zt_if_eq (tgt := 49) hx hb dX6_labelsAreSound_15 (by decide) (by omega) (fun c_4 => absurd c_4 (by omega)) (fun c_4 => ?_)
  refine lv_sipush (v := iI (17981)) hx hb dX6_labelsAreSound_18 (by decide +kernel) ?_
  refine zt_callS C (As := [.int (iI 17981)]) (rest := []) (c_X1_goesBack l D gi gc gr 17981 (by first | omega | assumption)) (va_cwS 1 hts gX6_labelsAreSound_X1_goesBack rfl rfl rfl (by decide +kernel) ⟨Nat.le_of_ble_eq_true rfl, Nat.le_of_ble_eq_true rfl⟩) (zt_preS hK (hP.sub (ws' := []) [] rfl) [.int (iI 17981)]) rfl hl.1 rfl (Nat.le_of_ble_eq_true rfl) dX6_labelsAreSound_21 ⟨Nat.le_of_ble_eq_true rfl, Nat.le_of_ble_eq_true rfl⟩ (fun r_5 hr_5 => ?_)
  obtain rfl := hr_5
  refine zt_if_eq (tgt := 49) hx hb dX6_labelsAreSound_24 (by decide) (by omega) (fun c_6 => absurd c_6 (by omega)) (fun c_6 => ?_)
  refine lv_sipush (v := iI (17982)) hx hb dX6_labelsAreSound_27 (by decide +kernel) ?_
  refine zt_callS C (As := [.int (iI 17982)]) (rest := []) (c_X1_goesBack l D gi gc gr 17982 (by first | omega | assumption)) (va_cwS 1 hts gX6_labelsAreSound_X1_goesBack rfl rfl rfl (by decide +kernel) ⟨Nat.le_of_ble_eq_true rfl, Nat.le_of_ble_eq_true rfl⟩) (zt_preS hK (hP.sub (ws' := []) [] rfl) [.int (iI 17982)]) rfl hl.1 rfl (Nat.le_of_ble_eq_true rfl) dX6_labelsAreSound_30 ⟨Nat.le_of_ble_eq_true rfl, Nat.le_of_ble_eq_true rfl⟩ (fun r_7 hr_7 => ?_)
  obtain rfl := hr_7
  refine zt_if_eq (tgt := 49) hx hb dX6_labelsAreSound_33 (by decide) (by omega) (fun c_8 => absurd c_8 (by omega)) (fun c_8 => ?_)
  refine lv_ldcw (v := iI (107891)) hx hb hown (hts (.constant RX6 294 (107891)) (by decide +kernel)) dX6_labelsAreSound_36 ?_
  refine zt_callS C (As := [.int (iI 107891)]) (rest := []) (c_X1_goesBack l D gi gc gr 107891 (by first | omega | assumption)) (va_cwS 1 hts gX6_labelsAreSound_X1_goesBack rfl rfl rfl (by decide +kernel) ⟨Nat.le_of_ble_eq_true rfl, Nat.le_of_ble_eq_true rfl⟩) (zt_preS hK (hP.sub (ws' := []) [] rfl) [.int (iI 107891)]) rfl hl.1 rfl (Nat.le_of_ble_eq_true rfl) dX6_labelsAreSound_39 ⟨Nat.le_of_ble_eq_true rfl, Nat.le_of_ble_eq_true rfl⟩ (fun r_9 hr_9 => ?_)
  obtain rfl := hr_9
  refine zt_if_eq (tgt := 49) hx hb dX6_labelsAreSound_42 (by decide) (by omega) (fun c_10 => absurd c_10 (by omega)) (fun c_10 => ?_)
  refine lv_iconst (v := iI (1)) hx hb dX6_labelsAreSound_45 (by decide +kernel) ?_
  refine lv_goto (tgt := 50) hx hb dX6_labelsAreSound_46 (by decide) ?_
  exact hQ _ _ _ (by first | rfl | decide +kernel) (rfl) dX6_labelsAreSound_50
