set_option maxHeartbeats 4000000 in
set_option maxRecDepth 100000 in
theorem c_X2_begin (l : Launch) (D : va_G) (gi gc gr : ClassId) (sz : Nat) (w : Nat) (rw : Nat) (bq : Nat) (sq : Nat) (mp : Int) (hmp : 0 ≤ mp ∧ mp ≤ 3) : Met l yX2_begin wsX2_begin { frames := 0, cells := 0, slots := 0, locals := 0 } (zPw D gi gc gr [(w, .inr (1, [.ref rw, .ref bq, .ref sq, .int (iI mp)]))] sz [.ref w]) (va_Qi (S := Int) (fun v u => ∃ z : Int, v = iI z ∧ (-1 ≤ z ∧ z ≤ 3) ∧ mp ≤ u ∧ u ≤ 3) (zB D (va_A [(w, .inr (1, [.ref rw, .ref bq, .ref sq, .int (iI mp)]))] sz) (fun u => [(w, .inr (1, [.ref rw, .ref bq, .ref sq, .int (iI u)]))])) (va_A [(w, .inr (1, [.ref rw, .ref bq, .ref sq, .int (iI mp)]))] sz)) 0 0 (va_A [(w, .inr (1, [.ref rw, .ref bq, .ref sq, .int (iI mp)]))] sz) := by
  refine zt_metWi (own := RX2) (cc := cX2_begin) (maxL := 1) (by decide) rfl rfl (Nat.le_of_ble_eq_true rfl) ?_
  intro p e s m args below meth c Q A C hK hP hD hS hA _ hQ ls hl
  have hx := C.1
  have hb := C.2.1
  have hml := C.2.2.1
  have hown := C.2.2.2.1
  have hts := C.2.2.2.2
  have i2 : ∀ w ∈ u_ws RX2 TX2 4, w ∈ wsX2_begin := by decide +kernel
  have f28 := hts (.fieldLink RX2 28 "Threetwo$Prints" "many" "I") (by decide +kernel)
  have hl : lv_has ls 1 [(0, .ref w)] := hl
  refine lv_aload_n hx hb dX2_begin_0 rfl (lv_at hl 0 rfl) ?_
  refine va_get (D := D) (ci := 1) (v := .int (iI mp)) (C := RX2) (T := TX2) (N := 4) hx hb hts i2 hown hK.1 hP 0 rfl rfl 3 (by decide) f28 (fun _ h9 => h9) rfl dX2_begin_1 ?_
  refine lv_iconst (v := iI (3)) hx hb dX2_begin_4 (by decide +kernel) ?_
  refine zt_icmp_lt (tgt := 10) hx hb dX2_begin_5 (by decide) (by omega) (fun c_1 => ?_) (fun c_1 => ?_)
  · refine lv_aload_n hx hb dX2_begin_10 rfl (lv_at hl 0 rfl) ?_
    refine lv_dup hx hb dX2_begin_11 rfl ?_
    refine va_get (D := D) (ci := 1) (v := .int (iI mp)) (C := RX2) (T := TX2) (N := 4) hx hb hts i2 hown hK.1 hP 0 rfl rfl 3 (by decide) f28 (fun _ h9 => h9) rfl dX2_begin_12 ?_
    refine lv_iconst (v := iI (1)) hx hb dX2_begin_15 (by decide +kernel) ?_
    refine zt_iadd hx hb dX2_begin_16 ?_
    refine va_put (D := D) (ci := 1) (v := .int (iI (mp + 1))) (ty := .int) (C := RX2) (T := TX2) (N := 4) hx hb hts i2 tyX2 tyX2_ok nmX2 hown hK.1 hP hD hS 0 rfl rfl 3 (by decide) f28 (fun _ h9 => h9) rfl (by decide +kernel) rfl rfl (Nat.le_of_ble_eq_true rfl) dX2_begin_17 (fun H locs hP hD hS => ?_)
    have hP : va_P D vwCl [(w, .inr (1, [.ref rw, .ref bq, .ref sq, .int (iI (mp + 1))]))] H := hP
    have hD : va_D A [(w, .inr (1, [.ref rw, .ref bq, .ref sq, .int (iI (mp + 1))]))] := hD
    refine lv_aload_n hx hb dX2_begin_20 rfl (lv_at hl 0 rfl) ?_
    refine va_get (D := D) (ci := 1) (v := .int (iI (mp + 1))) (C := RX2) (T := TX2) (N := 4) hx hb hts i2 hown hK.1 hP 0 rfl rfl 3 (by decide) f28 (fun _ h9 => h9) rfl dX2_begin_21 ?_
    refine lv_iconst (v := iI (1)) hx hb dX2_begin_24 (by decide +kernel) ?_
    refine zt_isub hx hb dX2_begin_25 ?_
    exact hQ (mp + 1) _ _ _ _ _ (⟨_, rfl, by omega⟩) hP hD hS dX2_begin_26
  · refine lv_iconst (v := iI (-1)) hx hb dX2_begin_8 (by decide +kernel) ?_
    exact hQ mp _ _ _ _ _ (⟨_, rfl, by omega⟩) hP hD hS dX2_begin_9
set_option maxHeartbeats 4000000 in
set_option maxRecDepth 100000 in
theorem c_X2_has (l : Launch) (D : va_G) (gi gc gr : ClassId) (w : Nat) (rw : Nat) (bq : Nat) (sq : Nat) (mp : Int) (i : Int) (hmp : 0 ≤ mp ∧ mp ≤ 3) (hi : -2147483648 ≤ i ∧ i < 2147483648) : Met l yX2_has wsX2_has { frames := 0, cells := 0, slots := 0, locals := 0 } (zPr D gi gc gr [(w, .inr (1, [.ref rw, .ref bq, .ref sq, .int (iI mp)]))] [.ref w, .int (iI i)]) (vp_Si (fun v => ∃ z : Int, v = iI z ∧ ((z = 1 ∧ 0 ≤ i ∧ i < mp) ∨ (z = 0 ∧ (i < 0 ∨ mp ≤ i))))) 0 0 (fun _ => False) := by
  refine zt_metRz (own := RX2) (cc := cX2_has) (maxL := 2) (by decide) rfl rfl (Nat.le_of_ble_eq_true rfl) ?_
  intro p e s m args below meth c Q C hK hP hQ ls hl
  have hx := C.1
  have hb := C.2.1
  have hml := C.2.2.1
  have hown := C.2.2.2.1
  have hts := C.2.2.2.2
  have i2 : ∀ w ∈ u_ws RX2 TX2 4, w ∈ wsX2_has := by decide +kernel
  have f28 := hts (.fieldLink RX2 28 "Threetwo$Prints" "many" "I") (by decide +kernel)
  have hl : lv_has ls 2 [(0, .ref w), (1, .int (iI i))] := hl
  refine lv_iload_n hx hb dX2_has_0 rfl (lv_at hl 1 rfl) ?_
  refine zt_if_lt (tgt := 16) hx hb dX2_has_1 (by decide) (by omega) (fun c_1 => ?_) (fun c_1 => ?_)
  · refine lv_iconst (v := iI (0)) hx hb dX2_has_16 (by decide +kernel) ?_
    exact hQ _ _ _ (by first | rfl | decide +kernel) (⟨_, rfl, by omega⟩) dX2_has_17
  · refine lv_iload_n hx hb dX2_has_4 rfl (lv_at hl 1 rfl) ?_
    refine lv_aload_n hx hb dX2_has_5 rfl (lv_at hl 0 rfl) ?_
    refine va_get (D := D) (ci := 1) (v := .int (iI mp)) (C := RX2) (T := TX2) (N := 4) hx hb hts i2 hown hK.1 hP 0 rfl rfl 3 (by decide) f28 (fun _ h9 => h9) rfl dX2_has_6 ?_
    refine zt_icmp_ge (tgt := 16) hx hb dX2_has_9 (by decide) (by omega) (fun c_2 => ?_) (fun c_2 => ?_)
    · refine lv_iconst (v := iI (0)) hx hb dX2_has_16 (by decide +kernel) ?_
      exact hQ _ _ _ (by first | rfl | decide +kernel) (⟨_, rfl, by omega⟩) dX2_has_17
    · refine lv_iconst (v := iI (1)) hx hb dX2_has_12 (by decide +kernel) ?_
      refine lv_goto (tgt := 17) hx hb dX2_has_13 (by decide) ?_
      exact hQ _ _ _ (by first | rfl | decide +kernel) (⟨_, rfl, by omega⟩) dX2_has_17
set_option maxHeartbeats 4000000 in
set_option maxRecDepth 100000 in
theorem c_X2_together (l : Launch) (D : va_G) (gi gc gr : ClassId) (x1 : Int) (x2 : Int) (h1 : (0 ≤ x1 ∧ x1 ≤ 99) ∧ (0 ≤ x2 ∧ x2 ≤ 99)) : Met l yX2_together wsX2_together { frames := 1, cells := 0, slots := 0, locals := 21 } (zPr D gi gc gr [] [.int (iI x1), .int (iI x2)]) (vp_Si (fun v => v = iI (tog x1 x2))) 0 0 (fun _ => False) := by
  refine zt_metRi (own := RX2) (cc := cX2_together) (maxL := 2) (by decide) rfl rfl (Nat.le_of_ble_eq_true rfl) ?_
  intro p e s m args below meth c Q C hK hP hQ ls hl
  have hx := C.1
  have hb := C.2.1
  have hml := C.2.2.1
  have hown := C.2.2.2.1
  have hts := C.2.2.2.2
  have hl : lv_has ls 2 [(0, .int (iI x1)), (1, .int (iI x2))] := hl
  refine lv_iload_n hx hb dX2_together_0 rfl (lv_at hl 0 rfl) ?_
  refine lv_iload_n hx hb dX2_together_1 rfl (lv_at hl 1 rfl) ?_
  refine zt_isub hx hb dX2_together_2 ?_
  refine zt_mabs hx hb (hml.trans hl.1.symm) hown (hts (.methodLink RX2 63 Lib.Math.abs.name) (by decide +kernel)) (hts (.static Lib.Math.abs.name) (by decide +kernel)) (hts (.initialized "java/lang/Math") (by decide +kernel)) (hts (.code Lib.Math.abs.name Lib.Math.abs.code 1 (some .int)) (by decide +kernel)) (Nat.le_of_ble_eq_true rfl) (Nat.le_of_ble_eq_true rfl) (Nat.le_of_ble_eq_true rfl) (Nat.le_of_ble_eq_true rfl) (by omega) dX2_together_3 (fun m_1 em_1 => ?_)
  have ha1 := zabs_of em_1
  refine lv_iconst (v := iI (4)) hx hb dX2_together_6 (by decide +kernel) ?_
  refine zt_mmin hx hb (hml.trans hl.1.symm) hown (hts (.methodLink RX2 51 Lib.Math.min.name) (by decide +kernel)) (hts (.static Lib.Math.min.name) (by decide +kernel)) (hts (.initialized "java/lang/Math") (by decide +kernel)) (hts (.code Lib.Math.min.name Lib.Math.min.code 2 (some .int)) (by decide +kernel)) (Nat.le_of_ble_eq_true rfl) (Nat.le_of_ble_eq_true rfl) (Nat.le_of_ble_eq_true rfl) (Nat.le_of_ble_eq_true rfl) (by omega) dX2_together_7 (fun m_2 em_2 => ?_)
  exact hQ _ _ _ (congrArg iI (by rw [zmin_of em_2]; unfold tog; split <;> omega)) dX2_together_10
set_option maxHeartbeats 4000000 in
set_option maxRecDepth 100000 in
theorem c_X2_leastFrom (l : Launch) (D : va_G) (gi gc gr : ClassId) (w : Nat) (rw : Nat) (bq : Nat) (sq : Nat) (mp : Int) (b : Nat → Int) (r1 : Nat) (a1 : Nat) (t1 : Int) (g1 : Nat → Int) (r3 : Nat) (a3 : Nat) (t2 : Int) (g2 : Nat → Int) (i : Int) (j : Int) (hd : (0 ≤ t1 ∧ t1 ≤ 10) ∧ (0 ≤ t2 ∧ t2 ≤ 10)) (hg1 : ∀ j : Nat, (j : Int) < t1 → 0 ≤ g1 j ∧ g1 j ≤ 99) (hg2 : ∀ j : Nat, (j : Int) < t2 → 0 ≤ g2 j ∧ g2 j ≤ 99) (hi : 0 ≤ i ∧ i ≤ t1) (hj : 0 ≤ j ∧ j ≤ t2) (hT : TB b t1 t2 (EF g1 t1 g2 t2) i j) : Met l yX2_leastFrom wsX2_leastFrom { frames := 2, cells := 0, slots := 0, locals := 42 } (zPr D gi gc gr [(w, .inr (1, [.ref rw, .ref bq, .ref sq, .int (iI mp)])), (bq, aI gi 121 b), (r1, .inr (3, [.ref a1, .int (iI t1)])), (a1, aI gi 10 g1), (r3, .inr (3, [.ref a3, .int (iI t2)])), (a3, aI gi 10 g2)] [.ref w, .ref r1, .ref r3, .int (iI i), .int (iI j)]) (vp_Si (fun v => v = iI (EF g1 t1 g2 t2 i j))) 0 0 (fun _ => False) := by
  refine zt_metRi (own := RX2) (cc := cX2_leastFrom) (maxL := 7) (by decide) rfl rfl (Nat.le_of_ble_eq_true rfl) ?_
  intro p e s m args below meth c Q C hK hP hQ ls hl
  have hx := C.1
  have hb := C.2.1
  have hml := C.2.2.1
  have hown := C.2.2.2.1
  have hts := C.2.2.2.2
  have i2 : ∀ w ∈ u_ws RX2 TX2 4, w ∈ wsX2_leastFrom := by decide +kernel
  have f20 := hts (.fieldLink RX2 20 "Threetwo$Prints" "behind" "[I") (by decide +kernel)
  have hl : lv_has ls 7 [(0, .ref w), (1, .ref r1), (2, .ref r3), (3, .int (iI i)), (4, .int (iI j))] := hl
  refine lv_aload_n hx hb dX2_leastFrom_0 rfl (lv_at hl 1 rfl) ?_
  refine lv_iload_n hx hb dX2_leastFrom_1 rfl (lv_at hl 3 rfl) ?_
  refine zt_callV C (As := [.int (iI i)]) (rest := []) (c_X4_has l D gi gc gr r1 a1 t1 i (by first | omega | assumption) (by first | omega | assumption)) (cwV 1 hts gX2_leastFrom_X4_has rfl rfl rfl (by decide +kernel) ⟨Nat.le_of_ble_eq_true rfl, Nat.le_of_ble_eq_true rfl⟩) (zt_preV hK (hP.sub (ws' := [(r1, .inr (3, [.ref a1, .int (iI t1)]))]) [2] rfl) [.int (iI i)] 0 rfl rfl) rfl hl.1 rfl (Nat.le_of_ble_eq_true rfl) dX2_leastFrom_2 ⟨Nat.le_of_ble_eq_true rfl, Nat.le_of_ble_eq_true rfl⟩ (fun r_1 hr_1 => ?_)
  obtain ⟨z_2, rfl, hz_2⟩ := hr_1
  refine zt_if_ne (tgt := 18) hx hb dX2_leastFrom_5 (by decide) (by omega) (fun c_3 => ?_) (fun c_3 => ?_)
  · refine lv_aload_n hx hb dX2_leastFrom_18 rfl (lv_at hl 2 rfl) ?_
    refine lv_iload hx hb dX2_leastFrom_19 (lv_at hl 4 rfl) ?_
    refine zt_callV C (As := [.int (iI j)]) (rest := []) (c_X4_has l D gi gc gr r3 a3 t2 j (by first | omega | assumption) (by first | omega | assumption)) (cwV 1 hts gX2_leastFrom_X4_has rfl rfl rfl (by decide +kernel) ⟨Nat.le_of_ble_eq_true rfl, Nat.le_of_ble_eq_true rfl⟩) (zt_preV hK (hP.sub (ws' := [(r3, .inr (3, [.ref a3, .int (iI t2)]))]) [4] rfl) [.int (iI j)] 0 rfl rfl) rfl hl.1 rfl (Nat.le_of_ble_eq_true rfl) dX2_leastFrom_21 ⟨Nat.le_of_ble_eq_true rfl, Nat.le_of_ble_eq_true rfl⟩ (fun r_4 hr_4 => ?_)
    obtain ⟨z_5, rfl, hz_5⟩ := hr_4
    refine zt_if_ne (tgt := 36) hx hb dX2_leastFrom_24 (by decide) (by omega) (fun c_6 => ?_) (fun c_6 => ?_)
    · have e11 : b (((i * 11) + j) + 11).toNat = EF g1 t1 g2 t2 (i + 1) j := by rw [show ((i * 11) + j) + 11 = (i + 1) * 11 + j by omega]; exact hT _ _ (by omega) (by omega) (by omega) (by omega) (by omega)
      have e12 : b ((((i * 11) + j) + 11) + 1).toNat = EF g1 t1 g2 t2 (i + 1) (j + 1) := by rw [show (((i * 11) + j) + 11) + 1 = (i + 1) * 11 + (j + 1) by omega]; exact hT _ _ (by omega) (by omega) (by omega) (by omega) (by omega)
      have b11 := EF_b (g1 := g1) (g2 := g2) (i := i + 1) (j := j) hd.1.2 hd.2.2 (by omega) (by omega)
      have b12 := EF_b (g1 := g1) (g2 := g2) (i := i + 1) (j := j + 1) hd.1.2 hd.2.2 (by omega) (by omega)
      have e1 : b (((i * 11) + j) + 1).toNat = EF g1 t1 g2 t2 i (j + 1) := by rw [show ((i * 11) + j) + 1 = i * 11 + (j + 1) by omega]; exact hT _ _ (by omega) (by omega) (by omega) (by omega) (by omega)
      have b1 := EF_b (g1 := g1) (g2 := g2) (i := i) (j := j + 1) hd.1.2 hd.2.2 (by omega) (by omega)
      have hgi := hg1 i.toNat (by omega)
      have hgj := hg2 j.toNat (by omega)
      have hto := tog_b (g1 i.toNat) (g2 j.toNat)
      refine lv_iload_n hx hb dX2_leastFrom_36 rfl (lv_at hl 3 rfl) ?_
      refine lv_bipush (v := iI (11)) hx hb dX2_leastFrom_37 (by decide +kernel) ?_
      refine zt_imul hx hb dX2_leastFrom_39 ?_
      refine lv_iload hx hb dX2_leastFrom_40 (lv_at hl 4 rfl) ?_
      refine zt_iadd hx hb dX2_leastFrom_42 ?_
      refine lv_istore (lv' := [(5, .int (iI ((i * 11) + j))), (0, .ref w), (1, .ref r1), (2, .ref r3), (3, .int (iI i)), (4, .int (iI j))]) hx hb dX2_leastFrom_43 hl (by decide) rfl (fun ls hl => ?_)
      refine lv_iconst (v := iI (2)) hx hb dX2_leastFrom_45 (by decide +kernel) ?_
      refine lv_aload_n hx hb dX2_leastFrom_46 rfl (lv_at hl 1 rfl) ?_
      refine va_get (D := D) (ci := 1) (v := .ref bq) (C := RX2) (T := TX2) (N := 4) hx hb hts i2 hown hK.1 hP 0 rfl rfl 1 (by decide) f20 (fun _ h9 => h9) rfl dX2_leastFrom_47 ?_
      refine lv_iload hx hb dX2_leastFrom_50 (lv_at hl 0 rfl) ?_
      refine lv_bipush (v := iI (11)) hx hb dX2_leastFrom_52 (by decide +kernel) ?_
      refine zt_iadd hx hb dX2_leastFrom_54 ?_
      refine zt_iald hx hb hK.1 hP 1 0 rfl rfl (by omega) (by omega) dX2_leastFrom_55 ?_
      refine lv_aload_n hx hb dX2_leastFrom_56 rfl (lv_at hl 1 rfl) ?_
      refine va_get (D := D) (ci := 1) (v := .ref bq) (C := RX2) (T := TX2) (N := 4) hx hb hts i2 hown hK.1 hP 0 rfl rfl 1 (by decide) f20 (fun _ h9 => h9) rfl dX2_leastFrom_57 ?_
      refine lv_iload hx hb dX2_leastFrom_60 (lv_at hl 0 rfl) ?_
      refine lv_iconst (v := iI (1)) hx hb dX2_leastFrom_62 (by decide +kernel) ?_
      refine zt_iadd hx hb dX2_leastFrom_63 ?_
      refine zt_iald hx hb hK.1 hP 1 0 rfl rfl (by omega) (by omega) dX2_leastFrom_64 ?_
      refine zt_mmin hx hb (hml.trans hl.1.symm) hown (hts (.methodLink RX2 51 Lib.Math.min.name) (by decide +kernel)) (hts (.static Lib.Math.min.name) (by decide +kernel)) (hts (.initialized "java/lang/Math") (by decide +kernel)) (hts (.code Lib.Math.min.name Lib.Math.min.code 2 (some .int)) (by decide +kernel)) (Nat.le_of_ble_eq_true rfl) (Nat.le_of_ble_eq_true rfl) (Nat.le_of_ble_eq_true rfl) (Nat.le_of_ble_eq_true rfl) (by omega) dX2_leastFrom_65 (fun m_7 em_7 => ?_)
      have hmn1 := zmin_of em_7
      refine zt_iadd hx hb dX2_leastFrom_68 ?_
      refine lv_istore (lv' := [(6, .int (iI (2 + m_7))), (5, .int (iI ((i * 11) + j))), (0, .ref w), (1, .ref r1), (2, .ref r3), (3, .int (iI i)), (4, .int (iI j))]) hx hb dX2_leastFrom_69 hl (by decide) rfl (fun ls hl => ?_)
      refine lv_aload_n hx hb dX2_leastFrom_71 rfl (lv_at hl 3 rfl) ?_
      refine lv_iload_n hx hb dX2_leastFrom_72 rfl (lv_at hl 5 rfl) ?_
      refine zt_callV C (As := [.int (iI i)]) (rest := []) (c_X4_at l D gi gc gr r1 a1 10 t1 g1 i (by first | omega | assumption) (by first | omega | assumption) (by first | omega | assumption)) (cwV 1 hts gX2_leastFrom_X4_at rfl rfl rfl (by decide +kernel) ⟨Nat.le_of_ble_eq_true rfl, Nat.le_of_ble_eq_true rfl⟩) (zt_preV hK (hP.sub (ws' := [(r1, .inr (3, [.ref a1, .int (iI t1)])), (a1, aI gi 10 g1)]) [2, 3] rfl) [.int (iI i)] 0 rfl rfl) rfl hl.1 rfl (Nat.le_of_ble_eq_true rfl) dX2_leastFrom_73 ⟨Nat.le_of_ble_eq_true rfl, Nat.le_of_ble_eq_true rfl⟩ (fun r_8 hr_8 => ?_)
      obtain rfl := hr_8
      refine lv_aload_n hx hb dX2_leastFrom_76 rfl (lv_at hl 4 rfl) ?_
      refine lv_iload hx hb dX2_leastFrom_77 (lv_at hl 6 rfl) ?_
      refine zt_callV C (As := [.int (iI j)]) (rest := [.int (iI (g1 i.toNat))]) (c_X4_at l D gi gc gr r3 a3 10 t2 g2 j (by first | omega | assumption) (by first | omega | assumption) (by first | omega | assumption)) (cwV 1 hts gX2_leastFrom_X4_at rfl rfl rfl (by decide +kernel) ⟨Nat.le_of_ble_eq_true rfl, Nat.le_of_ble_eq_true rfl⟩) (zt_preV hK (hP.sub (ws' := [(r3, .inr (3, [.ref a3, .int (iI t2)])), (a3, aI gi 10 g2)]) [4, 5] rfl) [.int (iI j)] 0 rfl rfl) rfl hl.1 rfl (Nat.le_of_ble_eq_true rfl) dX2_leastFrom_79 ⟨Nat.le_of_ble_eq_true rfl, Nat.le_of_ble_eq_true rfl⟩ (fun r_9 hr_9 => ?_)
      obtain rfl := hr_9
      refine zt_callS C (As := [.int (iI (g1 i.toNat)), .int (iI (g2 j.toNat))]) (rest := []) (c_X2_together l D gi gc gr (g1 i.toNat) (g2 j.toNat) (by first | omega | assumption)) (va_cwS 2 hts gX2_leastFrom_X2_together rfl rfl rfl (by decide +kernel) ⟨Nat.le_of_ble_eq_true rfl, Nat.le_of_ble_eq_true rfl⟩) (zt_preS hK (hP.sub (ws' := []) [] rfl) [.int (iI (g1 i.toNat)), .int (iI (g2 j.toNat))]) rfl hl.1 rfl (Nat.le_of_ble_eq_true rfl) dX2_leastFrom_82 ⟨Nat.le_of_ble_eq_true rfl, Nat.le_of_ble_eq_true rfl⟩ (fun r_10 hr_10 => ?_)
      obtain rfl := hr_10
      refine lv_aload_n hx hb dX2_leastFrom_85 rfl (lv_at hl 2 rfl) ?_
      refine va_get (D := D) (ci := 1) (v := .ref bq) (C := RX2) (T := TX2) (N := 4) hx hb hts i2 hown hK.1 hP 0 rfl rfl 1 (by decide) f20 (fun _ h9 => h9) rfl dX2_leastFrom_86 ?_
      refine lv_iload hx hb dX2_leastFrom_89 (lv_at hl 1 rfl) ?_
      refine lv_bipush (v := iI (11)) hx hb dX2_leastFrom_91 (by decide +kernel) ?_
      refine zt_iadd hx hb dX2_leastFrom_93 ?_
      refine lv_iconst (v := iI (1)) hx hb dX2_leastFrom_94 (by decide +kernel) ?_
      refine zt_iadd hx hb dX2_leastFrom_95 ?_
      refine zt_iald hx hb hK.1 hP 1 0 rfl rfl (by omega) (by omega) dX2_leastFrom_96 ?_
      refine zt_iadd hx hb dX2_leastFrom_97 ?_
      refine lv_iload hx hb dX2_leastFrom_98 (lv_at hl 0 rfl) ?_
      refine zt_mmin hx hb (hml.trans hl.1.symm) hown (hts (.methodLink RX2 51 Lib.Math.min.name) (by decide +kernel)) (hts (.static Lib.Math.min.name) (by decide +kernel)) (hts (.initialized "java/lang/Math") (by decide +kernel)) (hts (.code Lib.Math.min.name Lib.Math.min.code 2 (some .int)) (by decide +kernel)) (Nat.le_of_ble_eq_true rfl) (Nat.le_of_ble_eq_true rfl) (Nat.le_of_ble_eq_true rfl) (Nat.le_of_ble_eq_true rfl) (by omega) dX2_leastFrom_100 (fun m_11 em_11 => ?_)
      have hmn2 := zmin_of em_11
      exact hQ _ _ _ (congrArg iI (by rw [EF_c (by omega) (by omega)]; omega)) dX2_leastFrom_103
    · refine lv_iconst (v := iI (2)) hx hb dX2_leastFrom_27 (by decide +kernel) ?_
      refine lv_aload_n hx hb dX2_leastFrom_28 rfl (lv_at hl 1 rfl) ?_
      refine zt_callV C (As := []) (rest := [.int (iI 2)]) (c_X4_many l D gi gc gr r1 a1 t1) (cwV 0 hts gX2_leastFrom_X4_many rfl rfl rfl (by decide +kernel) ⟨Nat.le_of_ble_eq_true rfl, Nat.le_of_ble_eq_true rfl⟩) (zt_preV hK (hP.sub (ws' := [(r1, .inr (3, [.ref a1, .int (iI t1)]))]) [2] rfl) [] 0 rfl rfl) rfl hl.1 rfl (Nat.le_of_ble_eq_true rfl) dX2_leastFrom_29 ⟨Nat.le_of_ble_eq_true rfl, Nat.le_of_ble_eq_true rfl⟩ (fun r_12 hr_12 => ?_)
      obtain rfl := hr_12
      refine lv_iload_n hx hb dX2_leastFrom_32 rfl (lv_at hl 3 rfl) ?_
      refine zt_isub hx hb dX2_leastFrom_33 ?_
      refine zt_imul hx hb dX2_leastFrom_34 ?_
      exact hQ _ _ _ (congrArg iI (by rw [EF_r (by omega) (by omega)])) dX2_leastFrom_35
  · refine lv_iconst (v := iI (2)) hx hb dX2_leastFrom_8 (by decide +kernel) ?_
    refine lv_aload_n hx hb dX2_leastFrom_9 rfl (lv_at hl 2 rfl) ?_
    refine zt_callV C (As := []) (rest := [.int (iI 2)]) (c_X4_many l D gi gc gr r3 a3 t2) (cwV 0 hts gX2_leastFrom_X4_many rfl rfl rfl (by decide +kernel) ⟨Nat.le_of_ble_eq_true rfl, Nat.le_of_ble_eq_true rfl⟩) (zt_preV hK (hP.sub (ws' := [(r3, .inr (3, [.ref a3, .int (iI t2)]))]) [4] rfl) [] 0 rfl rfl) rfl hl.1 rfl (Nat.le_of_ble_eq_true rfl) dX2_leastFrom_10 ⟨Nat.le_of_ble_eq_true rfl, Nat.le_of_ble_eq_true rfl⟩ (fun r_13 hr_13 => ?_)
    obtain rfl := hr_13
    refine lv_iload hx hb dX2_leastFrom_13 (lv_at hl 4 rfl) ?_
    refine zt_isub hx hb dX2_leastFrom_15 ?_
    refine zt_imul hx hb dX2_leastFrom_16 ?_
    exact hQ _ _ _ (congrArg iI (by rw [EF_l (by omega) (by omega)])) dX2_leastFrom_17
set_option maxHeartbeats 8000000 in
set_option maxRecDepth 100000 in
theorem c_X2_signAt (l : Launch) (D : va_G) (gi gc gr : ClassId) (w : Nat) (rw : Nat) (bq : Nat) (sq : Nat) (mp : Int) (b : Nat → Int) (r1 : Nat) (a1 : Nat) (t1 : Int) (g1 : Nat → Int) (r3 : Nat) (a3 : Nat) (t2 : Int) (g2 : Nat → Int) (i : Int) (j : Int) (hd : (0 ≤ t1 ∧ t1 ≤ 10) ∧ (0 ≤ t2 ∧ t2 ≤ 10)) (hg1 : ∀ j : Nat, (j : Int) < t1 → 0 ≤ g1 j ∧ g1 j ≤ 99) (hg2 : ∀ j : Nat, (j : Int) < t2 → 0 ≤ g2 j ∧ g2 j ≤ 99) (hi : 0 ≤ i ∧ i ≤ t1) (hj : 0 ≤ j ∧ j ≤ t2) (hij : i < t1 ∨ j < t2) (hT : ∀ x y : Int, 0 ≤ x → x ≤ t1 → 0 ≤ y → y ≤ t2 → b (x * 11 + y).toNat = EF g1 t1 g2 t2 x y) : Met l yX2_signAt wsX2_signAt { frames := 2, cells := 0, slots := 0, locals := 42 } (zPr D gi gc gr [(w, .inr (1, [.ref rw, .ref bq, .ref sq, .int (iI mp)])), (bq, aI gi 121 b), (r1, .inr (3, [.ref a1, .int (iI t1)])), (a1, aI gi 10 g1), (r3, .inr (3, [.ref a3, .int (iI t2)])), (a3, aI gi 10 g2)] [.ref w, .ref r1, .ref r3, .int (iI i), .int (iI j)]) (vp_Si (fun v => ∃ z : Int, v = iI z ∧ (((z = 61 ∨ z = 126) ∧ sgF (EF g1 t1 g2 t2) (fun x y => tog (g1 x.toNat) (g2 y.toNat)) t1 t2 i j = 0) ∨ (z = 49 ∧ sgF (EF g1 t1 g2 t2) (fun x y => tog (g1 x.toNat) (g2 y.toNat)) t1 t2 i j = 1) ∨ (z = 50 ∧ sgF (EF g1 t1 g2 t2) (fun x y => tog (g1 x.toNat) (g2 y.toNat)) t1 t2 i j = 2)))) 0 0 (fun _ => False) := by
  refine zt_metRz (own := RX2) (cc := cX2_signAt) (maxL := 6) (by decide) rfl rfl (Nat.le_of_ble_eq_true rfl) ?_
  intro p e s m args below meth c Q C hK hP hQ ls hl
  have hx := C.1
  have hb := C.2.1
  have hml := C.2.2.1
  have hown := C.2.2.2.1
  have hts := C.2.2.2.2
  have i2 : ∀ w ∈ u_ws RX2 TX2 4, w ∈ wsX2_signAt := by decide +kernel
  have f20 := hts (.fieldLink RX2 20 "Threetwo$Prints" "behind" "[I") (by decide +kernel)
  have hl : lv_has ls 6 [(0, .ref w), (1, .ref r1), (2, .ref r3), (3, .int (iI i)), (4, .int (iI j))] := hl
  have e0 : b ((i * 11) + j).toNat = EF g1 t1 g2 t2 i j := hT _ _ (by omega) (by omega) (by omega) (by omega)
  have b0 := EF_b (g1 := g1) (g2 := g2) (i := i) (j := j) hd.1.2 hd.2.2 (by omega) (by omega)
  refine lv_iload_n hx hb dX2_signAt_0 rfl (lv_at hl 3 rfl) ?_
  refine lv_bipush (v := iI (11)) hx hb dX2_signAt_1 (by decide +kernel) ?_
  refine zt_imul hx hb dX2_signAt_3 ?_
  refine lv_iload hx hb dX2_signAt_4 (lv_at hl 4 rfl) ?_
  refine zt_iadd hx hb dX2_signAt_6 ?_
  refine lv_istore (lv' := [(5, .int (iI ((i * 11) + j))), (0, .ref w), (1, .ref r1), (2, .ref r3), (3, .int (iI i)), (4, .int (iI j))]) hx hb dX2_signAt_7 hl (by decide) rfl (fun ls hl => ?_)
  refine lv_aload_n hx hb dX2_signAt_9 rfl (lv_at hl 2 rfl) ?_
  refine lv_iload_n hx hb dX2_signAt_10 rfl (lv_at hl 4 rfl) ?_
  refine zt_callV C (As := [.int (iI i)]) (rest := []) (c_X4_has l D gi gc gr r1 a1 t1 i (by first | omega | assumption) (by first | omega | assumption)) (cwV 1 hts gX2_signAt_X4_has rfl rfl rfl (by decide +kernel) ⟨Nat.le_of_ble_eq_true rfl, Nat.le_of_ble_eq_true rfl⟩) (zt_preV hK (hP.sub (ws' := [(r1, .inr (3, [.ref a1, .int (iI t1)]))]) [2] rfl) [.int (iI i)] 0 rfl rfl) rfl hl.1 rfl (Nat.le_of_ble_eq_true rfl) dX2_signAt_11 ⟨Nat.le_of_ble_eq_true rfl, Nat.le_of_ble_eq_true rfl⟩ (fun r_1 hr_1 => ?_)
  obtain ⟨z_2, rfl, hz_2⟩ := hr_1
  refine zt_if_eq (tgt := 85) hx hb dX2_signAt_14 (by decide) (by omega) (fun c_3 => ?_) (fun c_3 => ?_)
  · refine lv_aload_n hx hb dX2_signAt_85 rfl (lv_at hl 2 rfl) ?_
    refine lv_iload_n hx hb dX2_signAt_86 rfl (lv_at hl 4 rfl) ?_
    refine zt_callV C (As := [.int (iI i)]) (rest := []) (c_X4_has l D gi gc gr r1 a1 t1 i (by first | omega | assumption) (by first | omega | assumption)) (cwV 1 hts gX2_signAt_X4_has rfl rfl rfl (by decide +kernel) ⟨Nat.le_of_ble_eq_true rfl, Nat.le_of_ble_eq_true rfl⟩) (zt_preV hK (hP.sub (ws' := [(r1, .inr (3, [.ref a1, .int (iI t1)]))]) [2] rfl) [.int (iI i)] 0 rfl rfl) rfl hl.1 rfl (Nat.le_of_ble_eq_true rfl) dX2_signAt_87 ⟨Nat.le_of_ble_eq_true rfl, Nat.le_of_ble_eq_true rfl⟩ (fun r_4 hr_4 => ?_)
    obtain ⟨z_5, rfl, hz_5⟩ := hr_4
    refine zt_if_eq (tgt := 120) hx hb dX2_signAt_90 (by decide) (by omega) (fun c_6 => ?_) (fun c_6 => ?_)
    · refine lv_bipush (v := iI (50)) hx hb dX2_signAt_120 (by decide +kernel) ?_
      exact hQ _ _ _ (by first | rfl | decide +kernel) (⟨_, rfl, by unfold sgF; dsimp only; split <;> (try split) <;> omega⟩) dX2_signAt_122
    · have e11 : b (((i * 11) + j) + 11).toNat = EF g1 t1 g2 t2 (i + 1) j := by rw [show ((i * 11) + j) + 11 = (i + 1) * 11 + j by omega]; exact hT _ _ (by omega) (by omega) (by omega) (by omega)
      have b11 := EF_b (g1 := g1) (g2 := g2) (i := i + 1) (j := j) hd.1.2 hd.2.2 (by omega) (by omega)
      refine lv_aload_n hx hb dX2_signAt_93 rfl (lv_at hl 1 rfl) ?_
      refine va_get (D := D) (ci := 1) (v := .ref bq) (C := RX2) (T := TX2) (N := 4) hx hb hts i2 hown hK.1 hP 0 rfl rfl 1 (by decide) f20 (fun _ h9 => h9) rfl dX2_signAt_94 ?_
      refine lv_iload hx hb dX2_signAt_97 (lv_at hl 0 rfl) ?_
      refine zt_iald hx hb hK.1 hP 1 0 rfl rfl (by omega) (by omega) dX2_signAt_99 ?_
      refine lv_iconst (v := iI (2)) hx hb dX2_signAt_100 (by decide +kernel) ?_
      refine lv_aload_n hx hb dX2_signAt_101 rfl (lv_at hl 1 rfl) ?_
      refine va_get (D := D) (ci := 1) (v := .ref bq) (C := RX2) (T := TX2) (N := 4) hx hb hts i2 hown hK.1 hP 0 rfl rfl 1 (by decide) f20 (fun _ h9 => h9) rfl dX2_signAt_102 ?_
      refine lv_iload hx hb dX2_signAt_105 (lv_at hl 0 rfl) ?_
      refine lv_bipush (v := iI (11)) hx hb dX2_signAt_107 (by decide +kernel) ?_
      refine zt_iadd hx hb dX2_signAt_109 ?_
      refine zt_iald hx hb hK.1 hP 1 0 rfl rfl (by omega) (by omega) dX2_signAt_110 ?_
      refine zt_iadd hx hb dX2_signAt_111 ?_
      refine zt_icmp_ne (tgt := 120) hx hb dX2_signAt_112 (by decide) (by omega) (fun c_7 => ?_) (fun c_7 => ?_)
      · refine lv_bipush (v := iI (50)) hx hb dX2_signAt_120 (by decide +kernel) ?_
        exact hQ _ _ _ (by first | rfl | decide +kernel) (⟨_, rfl, by unfold sgF; dsimp only; split <;> (try split) <;> omega⟩) dX2_signAt_122
      · refine lv_bipush (v := iI (49)) hx hb dX2_signAt_115 (by decide +kernel) ?_
        refine lv_goto (tgt := 122) hx hb dX2_signAt_117 (by decide) ?_
        exact hQ _ _ _ (by first | rfl | decide +kernel) (⟨_, rfl, by unfold sgF; dsimp only; split <;> (try split) <;> omega⟩) dX2_signAt_122
  · refine lv_aload_n hx hb dX2_signAt_17 rfl (lv_at hl 3 rfl) ?_
    refine lv_iload hx hb dX2_signAt_18 (lv_at hl 5 rfl) ?_
    refine zt_callV C (As := [.int (iI j)]) (rest := []) (c_X4_has l D gi gc gr r3 a3 t2 j (by first | omega | assumption) (by first | omega | assumption)) (cwV 1 hts gX2_signAt_X4_has rfl rfl rfl (by decide +kernel) ⟨Nat.le_of_ble_eq_true rfl, Nat.le_of_ble_eq_true rfl⟩) (zt_preV hK (hP.sub (ws' := [(r3, .inr (3, [.ref a3, .int (iI t2)]))]) [4] rfl) [.int (iI j)] 0 rfl rfl) rfl hl.1 rfl (Nat.le_of_ble_eq_true rfl) dX2_signAt_20 ⟨Nat.le_of_ble_eq_true rfl, Nat.le_of_ble_eq_true rfl⟩ (fun r_8 hr_8 => ?_)
    obtain ⟨z_9, rfl, hz_9⟩ := hr_8
    refine zt_if_eq (tgt := 85) hx hb dX2_signAt_23 (by decide) (by omega) (fun c_10 => ?_) (fun c_10 => ?_)
    · refine lv_aload_n hx hb dX2_signAt_85 rfl (lv_at hl 2 rfl) ?_
      refine lv_iload_n hx hb dX2_signAt_86 rfl (lv_at hl 4 rfl) ?_
      refine zt_callV C (As := [.int (iI i)]) (rest := []) (c_X4_has l D gi gc gr r1 a1 t1 i (by first | omega | assumption) (by first | omega | assumption)) (cwV 1 hts gX2_signAt_X4_has rfl rfl rfl (by decide +kernel) ⟨Nat.le_of_ble_eq_true rfl, Nat.le_of_ble_eq_true rfl⟩) (zt_preV hK (hP.sub (ws' := [(r1, .inr (3, [.ref a1, .int (iI t1)]))]) [2] rfl) [.int (iI i)] 0 rfl rfl) rfl hl.1 rfl (Nat.le_of_ble_eq_true rfl) dX2_signAt_87 ⟨Nat.le_of_ble_eq_true rfl, Nat.le_of_ble_eq_true rfl⟩ (fun r_11 hr_11 => ?_)
      obtain ⟨z_12, rfl, hz_12⟩ := hr_11
      refine zt_if_eq (tgt := 120) hx hb dX2_signAt_90 (by decide) (by omega) (fun c_13 => ?_) (fun c_13 => ?_)
      · refine lv_bipush (v := iI (50)) hx hb dX2_signAt_120 (by decide +kernel) ?_
        exact hQ _ _ _ (by first | rfl | decide +kernel) (⟨_, rfl, by unfold sgF; dsimp only; split <;> (try split) <;> omega⟩) dX2_signAt_122
      · have e11 : b (((i * 11) + j) + 11).toNat = EF g1 t1 g2 t2 (i + 1) j := by rw [show ((i * 11) + j) + 11 = (i + 1) * 11 + j by omega]; exact hT _ _ (by omega) (by omega) (by omega) (by omega)
        have b11 := EF_b (g1 := g1) (g2 := g2) (i := i + 1) (j := j) hd.1.2 hd.2.2 (by omega) (by omega)
        refine lv_aload_n hx hb dX2_signAt_93 rfl (lv_at hl 1 rfl) ?_
        refine va_get (D := D) (ci := 1) (v := .ref bq) (C := RX2) (T := TX2) (N := 4) hx hb hts i2 hown hK.1 hP 0 rfl rfl 1 (by decide) f20 (fun _ h9 => h9) rfl dX2_signAt_94 ?_
        refine lv_iload hx hb dX2_signAt_97 (lv_at hl 0 rfl) ?_
        refine zt_iald hx hb hK.1 hP 1 0 rfl rfl (by omega) (by omega) dX2_signAt_99 ?_
        refine lv_iconst (v := iI (2)) hx hb dX2_signAt_100 (by decide +kernel) ?_
        refine lv_aload_n hx hb dX2_signAt_101 rfl (lv_at hl 1 rfl) ?_
        refine va_get (D := D) (ci := 1) (v := .ref bq) (C := RX2) (T := TX2) (N := 4) hx hb hts i2 hown hK.1 hP 0 rfl rfl 1 (by decide) f20 (fun _ h9 => h9) rfl dX2_signAt_102 ?_
        refine lv_iload hx hb dX2_signAt_105 (lv_at hl 0 rfl) ?_
        refine lv_bipush (v := iI (11)) hx hb dX2_signAt_107 (by decide +kernel) ?_
        refine zt_iadd hx hb dX2_signAt_109 ?_
        refine zt_iald hx hb hK.1 hP 1 0 rfl rfl (by omega) (by omega) dX2_signAt_110 ?_
        refine zt_iadd hx hb dX2_signAt_111 ?_
        refine zt_icmp_ne (tgt := 120) hx hb dX2_signAt_112 (by decide) (by omega) (fun c_14 => ?_) (fun c_14 => ?_)
        · refine lv_bipush (v := iI (50)) hx hb dX2_signAt_120 (by decide +kernel) ?_
          exact hQ _ _ _ (by first | rfl | decide +kernel) (⟨_, rfl, by unfold sgF; dsimp only; split <;> (try split) <;> omega⟩) dX2_signAt_122
        · refine lv_bipush (v := iI (49)) hx hb dX2_signAt_115 (by decide +kernel) ?_
          refine lv_goto (tgt := 122) hx hb dX2_signAt_117 (by decide) ?_
          exact hQ _ _ _ (by first | rfl | decide +kernel) (⟨_, rfl, by unfold sgF; dsimp only; split <;> (try split) <;> omega⟩) dX2_signAt_122
    · have e11 : b (((i * 11) + j) + 11).toNat = EF g1 t1 g2 t2 (i + 1) j := by rw [show ((i * 11) + j) + 11 = (i + 1) * 11 + j by omega]; exact hT _ _ (by omega) (by omega) (by omega) (by omega)
      have e12 : b ((((i * 11) + j) + 11) + 1).toNat = EF g1 t1 g2 t2 (i + 1) (j + 1) := by rw [show (((i * 11) + j) + 11) + 1 = (i + 1) * 11 + (j + 1) by omega]; exact hT _ _ (by omega) (by omega) (by omega) (by omega)
      have b11 := EF_b (g1 := g1) (g2 := g2) (i := i + 1) (j := j) hd.1.2 hd.2.2 (by omega) (by omega)
      have b12 := EF_b (g1 := g1) (g2 := g2) (i := i + 1) (j := j + 1) hd.1.2 hd.2.2 (by omega) (by omega)
      have hgi := hg1 i.toNat (by omega)
      have hgj := hg2 j.toNat (by omega)
      have hto := tog_b (g1 i.toNat) (g2 j.toNat)
      refine lv_aload_n hx hb dX2_signAt_26 rfl (lv_at hl 1 rfl) ?_
      refine va_get (D := D) (ci := 1) (v := .ref bq) (C := RX2) (T := TX2) (N := 4) hx hb hts i2 hown hK.1 hP 0 rfl rfl 1 (by decide) f20 (fun _ h9 => h9) rfl dX2_signAt_27 ?_
      refine lv_iload hx hb dX2_signAt_30 (lv_at hl 0 rfl) ?_
      refine zt_iald hx hb hK.1 hP 1 0 rfl rfl (by omega) (by omega) dX2_signAt_32 ?_
      refine lv_aload_n hx hb dX2_signAt_33 rfl (lv_at hl 2 rfl) ?_
      refine lv_iload_n hx hb dX2_signAt_34 rfl (lv_at hl 4 rfl) ?_
      refine zt_callV C (As := [.int (iI i)]) (rest := [.int (iI (b ((i * 11) + j).toNat))]) (c_X4_at l D gi gc gr r1 a1 10 t1 g1 i (by first | omega | assumption) (by first | omega | assumption) (by first | omega | assumption)) (cwV 1 hts gX2_signAt_X4_at rfl rfl rfl (by decide +kernel) ⟨Nat.le_of_ble_eq_true rfl, Nat.le_of_ble_eq_true rfl⟩) (zt_preV hK (hP.sub (ws' := [(r1, .inr (3, [.ref a1, .int (iI t1)])), (a1, aI gi 10 g1)]) [2, 3] rfl) [.int (iI i)] 0 rfl rfl) rfl hl.1 rfl (Nat.le_of_ble_eq_true rfl) dX2_signAt_35 ⟨Nat.le_of_ble_eq_true rfl, Nat.le_of_ble_eq_true rfl⟩ (fun r_15 hr_15 => ?_)
      obtain rfl := hr_15
      refine lv_aload_n hx hb dX2_signAt_38 rfl (lv_at hl 3 rfl) ?_
      refine lv_iload hx hb dX2_signAt_39 (lv_at hl 5 rfl) ?_
      refine zt_callV C (As := [.int (iI j)]) (rest := [.int (iI (g1 i.toNat)), .int (iI (b ((i * 11) + j).toNat))]) (c_X4_at l D gi gc gr r3 a3 10 t2 g2 j (by first | omega | assumption) (by first | omega | assumption) (by first | omega | assumption)) (cwV 1 hts gX2_signAt_X4_at rfl rfl rfl (by decide +kernel) ⟨Nat.le_of_ble_eq_true rfl, Nat.le_of_ble_eq_true rfl⟩) (zt_preV hK (hP.sub (ws' := [(r3, .inr (3, [.ref a3, .int (iI t2)])), (a3, aI gi 10 g2)]) [4, 5] rfl) [.int (iI j)] 0 rfl rfl) rfl hl.1 rfl (Nat.le_of_ble_eq_true rfl) dX2_signAt_41 ⟨Nat.le_of_ble_eq_true rfl, Nat.le_of_ble_eq_true rfl⟩ (fun r_16 hr_16 => ?_)
      obtain rfl := hr_16
      refine zt_callS C (As := [.int (iI (g1 i.toNat)), .int (iI (g2 j.toNat))]) (rest := [.int (iI (b ((i * 11) + j).toNat))]) (c_X2_together l D gi gc gr (g1 i.toNat) (g2 j.toNat) (by first | omega | assumption)) (va_cwS 2 hts gX2_signAt_X2_together rfl rfl rfl (by decide +kernel) ⟨Nat.le_of_ble_eq_true rfl, Nat.le_of_ble_eq_true rfl⟩) (zt_preS hK (hP.sub (ws' := []) [] rfl) [.int (iI (g1 i.toNat)), .int (iI (g2 j.toNat))]) rfl hl.1 rfl (Nat.le_of_ble_eq_true rfl) dX2_signAt_44 ⟨Nat.le_of_ble_eq_true rfl, Nat.le_of_ble_eq_true rfl⟩ (fun r_17 hr_17 => ?_)
      obtain rfl := hr_17
      refine lv_aload_n hx hb dX2_signAt_47 rfl (lv_at hl 1 rfl) ?_
      refine va_get (D := D) (ci := 1) (v := .ref bq) (C := RX2) (T := TX2) (N := 4) hx hb hts i2 hown hK.1 hP 0 rfl rfl 1 (by decide) f20 (fun _ h9 => h9) rfl dX2_signAt_48 ?_
      refine lv_iload hx hb dX2_signAt_51 (lv_at hl 0 rfl) ?_
      refine lv_bipush (v := iI (11)) hx hb dX2_signAt_53 (by decide +kernel) ?_
      refine zt_iadd hx hb dX2_signAt_55 ?_
      refine lv_iconst (v := iI (1)) hx hb dX2_signAt_56 (by decide +kernel) ?_
      refine zt_iadd hx hb dX2_signAt_57 ?_
      refine zt_iald hx hb hK.1 hP 1 0 rfl rfl (by omega) (by omega) dX2_signAt_58 ?_
      refine zt_iadd hx hb dX2_signAt_59 ?_
      refine zt_icmp_ne (tgt := 85) hx hb dX2_signAt_60 (by decide) (by omega) (fun c_18 => ?_) (fun c_18 => ?_)
      · refine lv_aload_n hx hb dX2_signAt_85 rfl (lv_at hl 2 rfl) ?_
        refine lv_iload_n hx hb dX2_signAt_86 rfl (lv_at hl 4 rfl) ?_
        refine zt_callV C (As := [.int (iI i)]) (rest := []) (c_X4_has l D gi gc gr r1 a1 t1 i (by first | omega | assumption) (by first | omega | assumption)) (cwV 1 hts gX2_signAt_X4_has rfl rfl rfl (by decide +kernel) ⟨Nat.le_of_ble_eq_true rfl, Nat.le_of_ble_eq_true rfl⟩) (zt_preV hK (hP.sub (ws' := [(r1, .inr (3, [.ref a1, .int (iI t1)]))]) [2] rfl) [.int (iI i)] 0 rfl rfl) rfl hl.1 rfl (Nat.le_of_ble_eq_true rfl) dX2_signAt_87 ⟨Nat.le_of_ble_eq_true rfl, Nat.le_of_ble_eq_true rfl⟩ (fun r_19 hr_19 => ?_)
        obtain ⟨z_20, rfl, hz_20⟩ := hr_19
        refine zt_if_eq (tgt := 120) hx hb dX2_signAt_90 (by decide) (by omega) (fun c_21 => ?_) (fun c_21 => ?_)
        · refine lv_bipush (v := iI (50)) hx hb dX2_signAt_120 (by decide +kernel) ?_
          exact hQ _ _ _ (by first | rfl | decide +kernel) (⟨_, rfl, by unfold sgF; dsimp only; split <;> (try split) <;> omega⟩) dX2_signAt_122
        · have e11 : b (((i * 11) + j) + 11).toNat = EF g1 t1 g2 t2 (i + 1) j := by rw [show ((i * 11) + j) + 11 = (i + 1) * 11 + j by omega]; exact hT _ _ (by omega) (by omega) (by omega) (by omega)
          have b11 := EF_b (g1 := g1) (g2 := g2) (i := i + 1) (j := j) hd.1.2 hd.2.2 (by omega) (by omega)
          refine lv_aload_n hx hb dX2_signAt_93 rfl (lv_at hl 1 rfl) ?_
          refine va_get (D := D) (ci := 1) (v := .ref bq) (C := RX2) (T := TX2) (N := 4) hx hb hts i2 hown hK.1 hP 0 rfl rfl 1 (by decide) f20 (fun _ h9 => h9) rfl dX2_signAt_94 ?_
          refine lv_iload hx hb dX2_signAt_97 (lv_at hl 0 rfl) ?_
          refine zt_iald hx hb hK.1 hP 1 0 rfl rfl (by omega) (by omega) dX2_signAt_99 ?_
          refine lv_iconst (v := iI (2)) hx hb dX2_signAt_100 (by decide +kernel) ?_
          refine lv_aload_n hx hb dX2_signAt_101 rfl (lv_at hl 1 rfl) ?_
          refine va_get (D := D) (ci := 1) (v := .ref bq) (C := RX2) (T := TX2) (N := 4) hx hb hts i2 hown hK.1 hP 0 rfl rfl 1 (by decide) f20 (fun _ h9 => h9) rfl dX2_signAt_102 ?_
          refine lv_iload hx hb dX2_signAt_105 (lv_at hl 0 rfl) ?_
          refine lv_bipush (v := iI (11)) hx hb dX2_signAt_107 (by decide +kernel) ?_
          refine zt_iadd hx hb dX2_signAt_109 ?_
          refine zt_iald hx hb hK.1 hP 1 0 rfl rfl (by omega) (by omega) dX2_signAt_110 ?_
          refine zt_iadd hx hb dX2_signAt_111 ?_
          refine zt_icmp_ne (tgt := 120) hx hb dX2_signAt_112 (by decide) (by omega) (fun c_22 => ?_) (fun c_22 => ?_)
          · refine lv_bipush (v := iI (50)) hx hb dX2_signAt_120 (by decide +kernel) ?_
            exact hQ _ _ _ (by first | rfl | decide +kernel) (⟨_, rfl, by unfold sgF; dsimp only; split <;> (try split) <;> omega⟩) dX2_signAt_122
          · refine lv_bipush (v := iI (49)) hx hb dX2_signAt_115 (by decide +kernel) ?_
            refine lv_goto (tgt := 122) hx hb dX2_signAt_117 (by decide) ?_
            exact hQ _ _ _ (by first | rfl | decide +kernel) (⟨_, rfl, by unfold sgF; dsimp only; split <;> (try split) <;> omega⟩) dX2_signAt_122
      · refine lv_aload_n hx hb dX2_signAt_63 rfl (lv_at hl 2 rfl) ?_
        refine lv_iload_n hx hb dX2_signAt_64 rfl (lv_at hl 4 rfl) ?_
        refine zt_callV C (As := [.int (iI i)]) (rest := []) (c_X4_at l D gi gc gr r1 a1 10 t1 g1 i (by first | omega | assumption) (by first | omega | assumption) (by first | omega | assumption)) (cwV 1 hts gX2_signAt_X4_at rfl rfl rfl (by decide +kernel) ⟨Nat.le_of_ble_eq_true rfl, Nat.le_of_ble_eq_true rfl⟩) (zt_preV hK (hP.sub (ws' := [(r1, .inr (3, [.ref a1, .int (iI t1)])), (a1, aI gi 10 g1)]) [2, 3] rfl) [.int (iI i)] 0 rfl rfl) rfl hl.1 rfl (Nat.le_of_ble_eq_true rfl) dX2_signAt_65 ⟨Nat.le_of_ble_eq_true rfl, Nat.le_of_ble_eq_true rfl⟩ (fun r_23 hr_23 => ?_)
        obtain rfl := hr_23
        refine lv_aload_n hx hb dX2_signAt_68 rfl (lv_at hl 3 rfl) ?_
        refine lv_iload hx hb dX2_signAt_69 (lv_at hl 5 rfl) ?_
        refine zt_callV C (As := [.int (iI j)]) (rest := [.int (iI (g1 i.toNat))]) (c_X4_at l D gi gc gr r3 a3 10 t2 g2 j (by first | omega | assumption) (by first | omega | assumption) (by first | omega | assumption)) (cwV 1 hts gX2_signAt_X4_at rfl rfl rfl (by decide +kernel) ⟨Nat.le_of_ble_eq_true rfl, Nat.le_of_ble_eq_true rfl⟩) (zt_preV hK (hP.sub (ws' := [(r3, .inr (3, [.ref a3, .int (iI t2)])), (a3, aI gi 10 g2)]) [4, 5] rfl) [.int (iI j)] 0 rfl rfl) rfl hl.1 rfl (Nat.le_of_ble_eq_true rfl) dX2_signAt_71 ⟨Nat.le_of_ble_eq_true rfl, Nat.le_of_ble_eq_true rfl⟩ (fun r_24 hr_24 => ?_)
        obtain rfl := hr_24
        refine zt_icmp_ne (tgt := 82) hx hb dX2_signAt_74 (by decide) (by omega) (fun c_25 => ?_) (fun c_25 => ?_)
        · refine lv_bipush (v := iI (126)) hx hb dX2_signAt_82 (by decide +kernel) ?_
          exact hQ _ _ _ (by first | rfl | decide +kernel) (⟨_, rfl, by unfold sgF; dsimp only; split <;> (try split) <;> omega⟩) dX2_signAt_84
        · refine lv_bipush (v := iI (61)) hx hb dX2_signAt_77 (by decide +kernel) ?_
          refine lv_goto (tgt := 84) hx hb dX2_signAt_79 (by decide) ?_
          exact hQ _ _ _ (by first | rfl | decide +kernel) (⟨_, rfl, by unfold sgF; dsimp only; split <;> (try split) <;> omega⟩) dX2_signAt_84
