set_option maxHeartbeats 4000000 in
set_option maxRecDepth 100000 in
theorem c_X4_many (l : Launch) (D : va_G) (gi gc gr : ClassId) (r : Nat) (a : Nat) (t : Int) : Met l yX4_many wsX4_many { frames := 0, cells := 0, slots := 0, locals := 0 } (zPr D gi gc gr [(r, .inr (3, [.ref a, .int (iI t)]))] [.ref r]) (vp_Si (fun v => v = iI t)) 0 0 (fun _ => False) := by
  refine zt_metRi (own := RX4) (cc := cX4_many) (maxL := 1) (by decide) rfl rfl (Nat.le_of_ble_eq_true rfl) ?_
  intro p e s m args below meth c Q C hK hP hQ ls hl
  have hx := C.1
  have hb := C.2.1
  have hml := C.2.2.1
  have hown := C.2.2.2.1
  have hts := C.2.2.2.2
  have i4 : ∀ w ∈ u_ws RX4 TX4 2, w ∈ wsX4_many := by decide +kernel
  have f21 := hts (.fieldLink RX4 21 "Threetwo$Row" "told" "I") (by decide +kernel)
  have hl : lv_has ls 1 [(0, .ref r)] := hl
  refine lv_aload_n hx hb dX4_many_0 rfl (lv_at hl 0 rfl) ?_
  refine va_get (D := D) (ci := 3) (v := .int (iI t)) (C := RX4) (T := TX4) (N := 2) hx hb hts i4 hown hK.1 hP 0 rfl rfl 1 (by decide) f21 (fun _ h9 => h9) rfl dX4_many_1 ?_
  exact hQ _ _ _ (rfl) dX4_many_4
set_option maxHeartbeats 4000000 in
set_option maxRecDepth 100000 in
theorem c_X4_has (l : Launch) (D : va_G) (gi gc gr : ClassId) (r : Nat) (a : Nat) (t : Int) (i : Int) (ht : -2147483648 ≤ t ∧ t < 2147483648) (hi : -2147483648 ≤ i ∧ i < 2147483648) : Met l yX4_has wsX4_has { frames := 0, cells := 0, slots := 0, locals := 0 } (zPr D gi gc gr [(r, .inr (3, [.ref a, .int (iI t)]))] [.ref r, .int (iI i)]) (vp_Si (fun v => ∃ z : Int, v = iI z ∧ ((z = 1 ∧ 0 ≤ i ∧ i < t) ∨ (z = 0 ∧ (i < 0 ∨ t ≤ i))))) 0 0 (fun _ => False) := by
  refine zt_metRz (own := RX4) (cc := cX4_has) (maxL := 2) (by decide) rfl rfl (Nat.le_of_ble_eq_true rfl) ?_
  intro p e s m args below meth c Q C hK hP hQ ls hl
  have hx := C.1
  have hb := C.2.1
  have hml := C.2.2.1
  have hown := C.2.2.2.1
  have hts := C.2.2.2.2
  have i4 : ∀ w ∈ u_ws RX4 TX4 2, w ∈ wsX4_has := by decide +kernel
  have f21 := hts (.fieldLink RX4 21 "Threetwo$Row" "told" "I") (by decide +kernel)
  have hl : lv_has ls 2 [(0, .ref r), (1, .int (iI i))] := hl
  refine lv_iload_n hx hb dX4_has_0 rfl (lv_at hl 1 rfl) ?_
  refine zt_if_lt (tgt := 16) hx hb dX4_has_1 (by decide) (by omega) (fun c_1 => ?_) (fun c_1 => ?_)
  · refine lv_iconst (v := iI (0)) hx hb dX4_has_16 (by decide +kernel) ?_
    exact hQ _ _ _ (by first | rfl | decide +kernel) (⟨_, rfl, by omega⟩) dX4_has_17
  · refine lv_iload_n hx hb dX4_has_4 rfl (lv_at hl 1 rfl) ?_
    refine lv_aload_n hx hb dX4_has_5 rfl (lv_at hl 0 rfl) ?_
    refine va_get (D := D) (ci := 3) (v := .int (iI t)) (C := RX4) (T := TX4) (N := 2) hx hb hts i4 hown hK.1 hP 0 rfl rfl 1 (by decide) f21 (fun _ h9 => h9) rfl dX4_has_6 ?_
    refine zt_icmp_ge (tgt := 16) hx hb dX4_has_9 (by decide) (by omega) (fun c_2 => ?_) (fun c_2 => ?_)
    · refine lv_iconst (v := iI (0)) hx hb dX4_has_16 (by decide +kernel) ?_
      exact hQ _ _ _ (by first | rfl | decide +kernel) (⟨_, rfl, by omega⟩) dX4_has_17
    · refine lv_iconst (v := iI (1)) hx hb dX4_has_12 (by decide +kernel) ?_
      refine lv_goto (tgt := 17) hx hb dX4_has_13 (by decide) ?_
      exact hQ _ _ _ (by first | rfl | decide +kernel) (⟨_, rfl, by omega⟩) dX4_has_17
set_option maxHeartbeats 4000000 in
set_option maxRecDepth 100000 in
theorem c_X4_at (l : Launch) (D : va_G) (gi gc gr : ClassId) (r : Nat) (a : Nat) (n : Nat) (t : Int) (g : Nat → Int) (i : Int) (hn : n < 100000) (ht : 0 ≤ t ∧ t ≤ (n : Int)) (hi : 0 ≤ i ∧ i < t) : Met l yX4_at wsX4_at { frames := 0, cells := 0, slots := 0, locals := 0 } (zPr D gi gc gr [(r, .inr (3, [.ref a, .int (iI t)])), (a, aI gi n g)] [.ref r, .int (iI i)]) (vp_Si (fun v => v = iI (g i.toNat))) 0 0 (fun _ => False) := by
  refine zt_metRi (own := RX4) (cc := cX4_at) (maxL := 2) (by decide) rfl rfl (Nat.le_of_ble_eq_true rfl) ?_
  intro p e s m args below meth c Q C hK hP hQ ls hl
  have hx := C.1
  have hb := C.2.1
  have hml := C.2.2.1
  have hown := C.2.2.2.1
  have hts := C.2.2.2.2
  have i4 : ∀ w ∈ u_ws RX4 TX4 2, w ∈ wsX4_at := by decide +kernel
  have f15 := hts (.fieldLink RX4 15 "Threetwo$Row" "items" "[I") (by decide +kernel)
  have f21 := hts (.fieldLink RX4 21 "Threetwo$Row" "told" "I") (by decide +kernel)
  have hl : lv_has ls 2 [(0, .ref r), (1, .int (iI i))] := hl
  refine lv_iload_n hx hb dX4_at_0 rfl (lv_at hl 1 rfl) ?_
  refine zt_if_lt (tgt := 21) hx hb dX4_at_1 (by decide) (by omega) (fun c_1 => absurd c_1 (by omega)) (fun c_1 => ?_)
  refine lv_iload_n hx hb dX4_at_4 rfl (lv_at hl 1 rfl) ?_
  refine lv_aload_n hx hb dX4_at_5 rfl (lv_at hl 0 rfl) ?_
  refine va_get (D := D) (ci := 3) (v := .int (iI t)) (C := RX4) (T := TX4) (N := 2) hx hb hts i4 hown hK.1 hP 0 rfl rfl 1 (by decide) f21 (fun _ h9 => h9) rfl dX4_at_6 ?_
  refine zt_icmp_ge (tgt := 21) hx hb dX4_at_9 (by decide) (by omega) (fun c_2 => absurd c_2 (by omega)) (fun c_2 => ?_)
  refine lv_aload_n hx hb dX4_at_12 rfl (lv_at hl 0 rfl) ?_
  refine va_get (D := D) (ci := 3) (v := .ref a) (C := RX4) (T := TX4) (N := 2) hx hb hts i4 hown hK.1 hP 0 rfl rfl 0 (by decide) f15 (fun _ h9 => h9) rfl dX4_at_13 ?_
  refine lv_iload_n hx hb dX4_at_16 rfl (lv_at hl 1 rfl) ?_
  refine zt_iald hx hb hK.1 hP 1 0 rfl rfl (by omega) (by omega) dX4_at_17 ?_
  refine lv_goto (tgt := 22) hx hb dX4_at_18 (by decide) ?_
  exact hQ _ _ _ (rfl) dX4_at_22
set_option maxHeartbeats 4000000 in
set_option maxRecDepth 100000 in
theorem c_X4_add (l : Launch) (D : va_G) (gi gc gr : ClassId) (sz : Nat) (r : Nat) (a : Nat) (n : Nat) (t : Int) (g : Nat → Int) (x : Int) (hn : n < 100000) (ht : 0 ≤ t ∧ t ≤ (n : Int)) : Met l yX4_add wsX4_add { frames := 0, cells := 0, slots := 0, locals := 0 } (zPw D gi gc gr [(r, .inr (3, [.ref a, .int (iI t)])), (a, aI gi n g)] sz [.ref r, .int (iI x)]) (va_Qi (S := Int × (Nat → Int)) (fun v u => ∃ z : Int, v = iI z ∧ ((t < (n : Int) ∧ z = t ∧ u.1 = t + 1 ∧ u.2 = uP g t.toNat x) ∨ ((n : Int) ≤ t ∧ z = -1 ∧ u.1 = t ∧ u.2 = g))) (zB D (va_A [(r, .inr (3, [.ref a, .int (iI t)])), (a, aI gi n g)] sz) (fun u => [(r, .inr (3, [.ref a, .int (iI u.1)])), (a, aI gi n u.2)])) (va_A [(r, .inr (3, [.ref a, .int (iI t)])), (a, aI gi n g)] sz)) 0 0 (va_A [(r, .inr (3, [.ref a, .int (iI t)])), (a, aI gi n g)] sz) := by
  refine zt_metWi (own := RX4) (cc := cX4_add) (maxL := 2) (by decide) rfl rfl (Nat.le_of_ble_eq_true rfl) ?_
  intro p e s m args below meth c Q A C hK hP hD hS hA _ hQ ls hl
  have hx := C.1
  have hb := C.2.1
  have hml := C.2.2.1
  have hown := C.2.2.2.1
  have hts := C.2.2.2.2
  have i4 : ∀ w ∈ u_ws RX4 TX4 2, w ∈ wsX4_add := by decide +kernel
  have f15 := hts (.fieldLink RX4 15 "Threetwo$Row" "items" "[I") (by decide +kernel)
  have f21 := hts (.fieldLink RX4 21 "Threetwo$Row" "told" "I") (by decide +kernel)
  have hl : lv_has ls 2 [(0, .ref r), (1, .int (iI x))] := hl
  refine lv_aload_n hx hb dX4_add_0 rfl (lv_at hl 0 rfl) ?_
  refine va_get (D := D) (ci := 3) (v := .int (iI t)) (C := RX4) (T := TX4) (N := 2) hx hb hts i4 hown hK.1 hP 0 rfl rfl 1 (by decide) f21 (fun _ h9 => h9) rfl dX4_add_1 ?_
  refine lv_aload_n hx hb dX4_add_4 rfl (lv_at hl 0 rfl) ?_
  refine va_get (D := D) (ci := 3) (v := .ref a) (C := RX4) (T := TX4) (N := 2) hx hb hts i4 hown hK.1 hP 0 rfl rfl 0 (by decide) f15 (fun _ h9 => h9) rfl dX4_add_5 ?_
  refine va_alen (v := iI n) hx hb hK.1 hP 1 0 rfl rfl (by first | rfl | exact (iI_ofN _)) dX4_add_8 ?_
  refine zt_icmp_lt (tgt := 14) hx hb dX4_add_9 (by decide) (by omega) (fun c_1 => ?_) (fun c_1 => ?_)
  · refine lv_aload_n hx hb dX4_add_14 rfl (lv_at hl 0 rfl) ?_
    refine va_get (D := D) (ci := 3) (v := .ref a) (C := RX4) (T := TX4) (N := 2) hx hb hts i4 hown hK.1 hP 0 rfl rfl 0 (by decide) f15 (fun _ h9 => h9) rfl dX4_add_15 ?_
    refine lv_aload_n hx hb dX4_add_18 rfl (lv_at hl 0 rfl) ?_
    refine va_get (D := D) (ci := 3) (v := .int (iI t)) (C := RX4) (T := TX4) (N := 2) hx hb hts i4 hown hK.1 hP 0 rfl rfl 1 (by decide) f21 (fun _ h9 => h9) rfl dX4_add_19 ?_
    refine lv_iload_n hx hb dX4_add_22 rfl (lv_at hl 1 rfl) ?_
    refine zt_iast (g := g) (x := x) hx hb hK.1 hP hD hS 1 0 rfl rfl (by omega) (by omega) dX4_add_23 (fun H locs hP hD hS => ?_)
    have hP : va_P D vwCl [(r, .inr (3, [.ref a, .int (iI t)])), (a, aI gi n (uP g t.toNat x))] H := hP
    have hD : va_D A [(r, .inr (3, [.ref a, .int (iI t)])), (a, aI gi n (uP g t.toNat x))] := hD
    refine lv_aload_n hx hb dX4_add_24 rfl (lv_at hl 0 rfl) ?_
    refine lv_dup hx hb dX4_add_25 rfl ?_
    refine va_get (D := D) (ci := 3) (v := .int (iI t)) (C := RX4) (T := TX4) (N := 2) hx hb hts i4 hown hK.1 hP 0 rfl rfl 1 (by decide) f21 (fun _ h9 => h9) rfl dX4_add_26 ?_
    refine lv_iconst (v := iI (1)) hx hb dX4_add_29 (by decide +kernel) ?_
    refine zt_iadd hx hb dX4_add_30 ?_
    refine va_put (D := D) (ci := 3) (v := .int (iI (t + 1))) (ty := .int) (C := RX4) (T := TX4) (N := 2) hx hb hts i4 tyX4 tyX4_ok nmX4 hown hK.1 hP hD hS 0 rfl rfl 1 (by decide) f21 (fun _ h9 => h9) rfl (by decide +kernel) rfl rfl (Nat.le_of_ble_eq_true rfl) dX4_add_31 (fun H locs hP hD hS => ?_)
    have hP : va_P D vwCl [(r, .inr (3, [.ref a, .int (iI (t + 1))])), (a, aI gi n (uP g t.toNat x))] H := hP
    have hD : va_D A [(r, .inr (3, [.ref a, .int (iI (t + 1))])), (a, aI gi n (uP g t.toNat x))] := hD
    refine lv_aload_n hx hb dX4_add_34 rfl (lv_at hl 0 rfl) ?_
    refine va_get (D := D) (ci := 3) (v := .int (iI (t + 1))) (C := RX4) (T := TX4) (N := 2) hx hb hts i4 hown hK.1 hP 0 rfl rfl 1 (by decide) f21 (fun _ h9 => h9) rfl dX4_add_35 ?_
    refine lv_iconst (v := iI (1)) hx hb dX4_add_38 (by decide +kernel) ?_
    refine zt_isub hx hb dX4_add_39 ?_
    exact hQ (t + 1, uP g t.toNat x) _ _ _ _ _ (⟨_, rfl, Or.inl ⟨by omega, by omega, rfl, rfl⟩⟩) hP hD hS dX4_add_40
  · refine lv_iconst (v := iI (-1)) hx hb dX4_add_12 (by decide +kernel) ?_
    exact hQ (t, g) _ _ _ _ _ (⟨_, rfl, Or.inr ⟨by omega, rfl, rfl, rfl⟩⟩) hP hD hS dX4_add_13
set_option maxHeartbeats 4000000 in
set_option maxRecDepth 100000 in
theorem c_X4_put (l : Launch) (D : va_G) (gi gc gr : ClassId) (sz : Nat) (r : Nat) (a : Nat) (n : Nat) (t : Int) (g : Nat → Int) (i : Int) (x : Int) (hn : n < 100000) (ht : 0 ≤ t ∧ t ≤ (n : Int)) (hi : -2147483648 ≤ i ∧ i < 2147483648) : Met l yX4_put wsX4_put { frames := 1, cells := 0, slots := 0, locals := 21 } (zPw D gi gc gr [(r, .inr (3, [.ref a, .int (iI t)])), (a, aI gi n g)] sz [.ref r, .int (iI i), .int (iI x)]) (va_Qv (S := Nat → Int) (fun _ => True) (zB D (va_A [(r, .inr (3, [.ref a, .int (iI t)])), (a, aI gi n g)] sz) (fun u => [(r, .inr (3, [.ref a, .int (iI t)])), (a, aI gi n u)])) (va_A [(r, .inr (3, [.ref a, .int (iI t)])), (a, aI gi n g)] sz)) 0 0 (va_A [(r, .inr (3, [.ref a, .int (iI t)])), (a, aI gi n g)] sz) := by
  refine zt_metWv (own := RX4) (cc := cX4_put) (maxL := 3) (by decide) rfl rfl (Nat.le_of_ble_eq_true rfl) ?_
  intro p e s m args below meth c Q A C hK hP hD hS hA _ hQ ls hl
  have hx := C.1
  have hb := C.2.1
  have hml := C.2.2.1
  have hown := C.2.2.2.1
  have hts := C.2.2.2.2
  have i4 : ∀ w ∈ u_ws RX4 TX4 2, w ∈ wsX4_put := by decide +kernel
  have f15 := hts (.fieldLink RX4 15 "Threetwo$Row" "items" "[I") (by decide +kernel)
  have hl : lv_has ls 3 [(0, .ref r), (1, .int (iI i)), (2, .int (iI x))] := hl
  refine lv_aload_n hx hb dX4_put_0 rfl (lv_at hl 0 rfl) ?_
  refine lv_iload_n hx hb dX4_put_1 rfl (lv_at hl 1 rfl) ?_
  refine zt_callV C (As := [.int (iI i)]) (rest := []) (c_X4_has l D gi gc gr r a t i (by first | omega | assumption) (by first | omega | assumption)) (cwV 1 hts gX4_put_X4_has rfl rfl rfl (by decide +kernel) ⟨Nat.le_of_ble_eq_true rfl, Nat.le_of_ble_eq_true rfl⟩) (zt_preV hK (hP.sub (ws' := [(r, .inr (3, [.ref a, .int (iI t)]))]) [0] rfl) [.int (iI i)] 0 rfl rfl) rfl hl.1 rfl (Nat.le_of_ble_eq_true rfl) dX4_put_2 ⟨Nat.le_of_ble_eq_true rfl, Nat.le_of_ble_eq_true rfl⟩ (fun r_1 hr_1 => ?_)
  obtain ⟨z_2, rfl, hz_2⟩ := hr_1
  refine zt_if_eq (tgt := 15) hx hb dX4_put_5 (by decide) (by omega) (fun c_3 => ?_) (fun c_3 => ?_)
  · exact hQ g _ _ _ _ (by trivial) hP hD hS dX4_put_15
  · refine lv_aload_n hx hb dX4_put_8 rfl (lv_at hl 0 rfl) ?_
    refine va_get (D := D) (ci := 3) (v := .ref a) (C := RX4) (T := TX4) (N := 2) hx hb hts i4 hown hK.1 hP 0 rfl rfl 0 (by decide) f15 (fun _ h9 => h9) rfl dX4_put_9 ?_
    refine lv_iload_n hx hb dX4_put_12 rfl (lv_at hl 1 rfl) ?_
    refine lv_iload_n hx hb dX4_put_13 rfl (lv_at hl 2 rfl) ?_
    refine zt_iast (g := g) (x := x) hx hb hK.1 hP hD hS 1 0 rfl rfl (by omega) (by omega) dX4_put_14 (fun H locs hP hD hS => ?_)
    have hP : va_P D vwCl [(r, .inr (3, [.ref a, .int (iI t)])), (a, aI gi n (uP g i.toNat x))] H := hP
    have hD : va_D A [(r, .inr (3, [.ref a, .int (iI t)])), (a, aI gi n (uP g i.toNat x))] := hD
    exact hQ (uP g i.toNat x) _ _ _ _ (by trivial) hP hD hS dX4_put_15
set_option maxHeartbeats 4000000 in
set_option maxRecDepth 100000 in
theorem c_X4_clear (l : Launch) (D : va_G) (gi gc gr : ClassId) (sz : Nat) (r : Nat) (a : Nat) (t : Int) : Met l yX4_clear wsX4_clear { frames := 0, cells := 0, slots := 0, locals := 0 } (zPw D gi gc gr [(r, .inr (3, [.ref a, .int (iI t)]))] sz [.ref r]) (va_Qv (S := Unit) (fun _ => True) (zB D (va_A [(r, .inr (3, [.ref a, .int (iI t)]))] sz) (fun _ => [(r, .inr (3, [.ref a, .int (iI 0)]))])) (va_A [(r, .inr (3, [.ref a, .int (iI t)]))] sz)) 0 0 (va_A [(r, .inr (3, [.ref a, .int (iI t)]))] sz) := by
  refine zt_metWv (own := RX4) (cc := cX4_clear) (maxL := 1) (by decide) rfl rfl (Nat.le_of_ble_eq_true rfl) ?_
  intro p e s m args below meth c Q A C hK hP hD hS hA _ hQ ls hl
  have hx := C.1
  have hb := C.2.1
  have hml := C.2.2.1
  have hown := C.2.2.2.1
  have hts := C.2.2.2.2
  have i4 : ∀ w ∈ u_ws RX4 TX4 2, w ∈ wsX4_clear := by decide +kernel
  have f21 := hts (.fieldLink RX4 21 "Threetwo$Row" "told" "I") (by decide +kernel)
  have hl : lv_has ls 1 [(0, .ref r)] := hl
  refine lv_aload_n hx hb dX4_clear_0 rfl (lv_at hl 0 rfl) ?_
  refine lv_iconst (v := iI (0)) hx hb dX4_clear_1 (by decide +kernel) ?_
  refine va_put (D := D) (ci := 3) (v := .int (iI 0)) (ty := .int) (C := RX4) (T := TX4) (N := 2) hx hb hts i4 tyX4 tyX4_ok nmX4 hown hK.1 hP hD hS 0 rfl rfl 1 (by decide) f21 (fun _ h9 => h9) rfl (by decide +kernel) rfl rfl (Nat.le_of_ble_eq_true rfl) dX4_clear_2 (fun H locs hP hD hS => ?_)
  have hP : va_P D vwCl [(r, .inr (3, [.ref a, .int (iI 0)]))] H := hP
  have hD : va_D A [(r, .inr (3, [.ref a, .int (iI 0)]))] := hD
  exact hQ () _ _ _ _ (by trivial) hP hD hS dX4_clear_5
set_option maxHeartbeats 4000000 in
set_option maxRecDepth 100000 in
theorem c_X4_remove (l : Launch) (D : va_G) (gi gc gr : ClassId) (sz : Nat) (r : Nat) (a : Nat) (n : Nat) (t : Int) (g : Nat → Int) (i : Int) (x : Int) (hn : n < 100000) (ht : 0 ≤ t ∧ t ≤ (n : Int)) (hi : -2147483648 ≤ i ∧ i < 2147483648) (hx0 : -2147483648 ≤ x ∧ x < 2147483648) : Met l yX4_remove wsX4_remove { frames := 1, cells := 0, slots := 0, locals := 21 } (zPw D gi gc gr [(r, .inr (3, [.ref a, .int (iI t)])), (a, aI gi n g)] sz [.ref r, .int (iI i), .int (iI x)]) (va_Qv (S := Int × (Nat → Int)) (fun u => 0 ≤ u.1 ∧ u.1 ≤ t) (zB D (va_A [(r, .inr (3, [.ref a, .int (iI t)])), (a, aI gi n g)] sz) (fun u => [(r, .inr (3, [.ref a, .int (iI u.1)])), (a, aI gi n u.2)])) (va_A [(r, .inr (3, [.ref a, .int (iI t)])), (a, aI gi n g)] sz)) 0 0 (va_A [(r, .inr (3, [.ref a, .int (iI t)])), (a, aI gi n g)] sz) := by
  refine zt_metWv (own := RX4) (cc := cX4_remove) (maxL := 4) (by decide) rfl rfl (Nat.le_of_ble_eq_true rfl) ?_
  intro p e s m args below meth c Q A C hK hP hD hS hA _ hQ ls hl
  have hx := C.1
  have hb := C.2.1
  have hml := C.2.2.1
  have hown := C.2.2.2.1
  have hts := C.2.2.2.2
  have i4 : ∀ w ∈ u_ws RX4 TX4 2, w ∈ wsX4_remove := by decide +kernel
  have f15 := hts (.fieldLink RX4 15 "Threetwo$Row" "items" "[I") (by decide +kernel)
  have f21 := hts (.fieldLink RX4 21 "Threetwo$Row" "told" "I") (by decide +kernel)
  have hl : lv_has ls 4 [(0, .ref r), (1, .int (iI i)), (2, .int (iI x))] := hl
  refine lv_aload_n hx hb dX4_remove_0 rfl (lv_at hl 0 rfl) ?_
  refine lv_iload_n hx hb dX4_remove_1 rfl (lv_at hl 1 rfl) ?_
  refine zt_callV C (As := [.int (iI i)]) (rest := []) (c_X4_has l D gi gc gr r a t i (by first | omega | assumption) (by first | omega | assumption)) (cwV 1 hts gX4_remove_X4_has rfl rfl rfl (by decide +kernel) ⟨Nat.le_of_ble_eq_true rfl, Nat.le_of_ble_eq_true rfl⟩) (zt_preV hK (hP.sub (ws' := [(r, .inr (3, [.ref a, .int (iI t)]))]) [0] rfl) [.int (iI i)] 0 rfl rfl) rfl hl.1 rfl (Nat.le_of_ble_eq_true rfl) dX4_remove_2 ⟨Nat.le_of_ble_eq_true rfl, Nat.le_of_ble_eq_true rfl⟩ (fun r_1 hr_1 => ?_)
  obtain ⟨z_2, rfl, hz_2⟩ := hr_1
  refine zt_if_eq (tgt := 22) hx hb dX4_remove_5 (by decide) (by omega) (fun c_3 => ?_) (fun c_3 => ?_)
  · exact hQ (t, g) _ _ _ _ (by constructor <;> dsimp only <;> omega) hP hD hS dX4_remove_22
  · refine lv_iload_n hx hb dX4_remove_8 rfl (lv_at hl 2 rfl) ?_
    refine zt_if_lt (tgt := 22) hx hb dX4_remove_9 (by decide) (by omega) (fun c_4 => ?_) (fun c_4 => ?_)
    · exact hQ (t, g) _ _ _ _ (by constructor <;> dsimp only <;> omega) hP hD hS dX4_remove_22
    · refine lv_iload_n hx hb dX4_remove_12 rfl (lv_at hl 2 rfl) ?_
      refine lv_aload_n hx hb dX4_remove_13 rfl (lv_at hl 0 rfl) ?_
      refine va_get (D := D) (ci := 3) (v := .int (iI t)) (C := RX4) (T := TX4) (N := 2) hx hb hts i4 hown hK.1 hP 0 rfl rfl 1 (by decide) f21 (fun _ h9 => h9) rfl dX4_remove_14 ?_
      refine lv_iload_n hx hb dX4_remove_17 rfl (lv_at hl 1 rfl) ?_
      refine zt_isub hx hb dX4_remove_18 ?_
      refine zt_icmp_le (tgt := 23) hx hb dX4_remove_19 (by decide) (by omega) (fun c_5 => ?_) (fun c_5 => ?_)
      · refine lv_iload_n hx hb dX4_remove_23 rfl (lv_at hl 1 rfl) ?_
        refine lv_iload_n hx hb dX4_remove_24 rfl (lv_at hl 2 rfl) ?_
        refine zt_iadd hx hb dX4_remove_25 ?_
        refine lv_istore_n (lv' := [(3, .int (iI (i + x))), (0, .ref r), (1, .int (iI i)), (2, .int (iI x))]) hx hb dX4_remove_26 rfl hl (by decide) rfl (fun ls hl => ?_)
        have loop_27 : ∀ (n_27 : Nat) (j : Int) (gl : Nat → Int) (hj : 0 ≤ i ∧ 0 ≤ x ∧ i + x ≤ j ∧ j ≤ t) (hm_27 : t - j < (n_27 : Int)) (H : Heap) (locs : List Loc) (hP : va_P D vwCl [(r, .inr (3, [.ref a, .int (iI t)])), (a, aI gi n gl)] H) (hD : va_D A [(r, .inr (3, [.ref a, .int (iI t)])), (a, aI gi n gl)]) (hS : va_S A s.heap H locs) (ls : Array Slot) (hl : lv_has ls 4 [(0, .ref r), (1, .int (iI i)), (2, .int (iI x)), (3, .int (iI j))]), W p l e { frames := 1, cells := 0, slots := 0, locals := 21 } s m args below meth c H locs 0 0 Q (F0 m 27 ls []) := by
          intro n_27
          induction n_27 with
          | zero => intro j gl hj hm_27 H locs hP hD hS ls hl; exact absurd hm_27 (by omega)
          | succ n_27 ih_27 =>
            intro j gl hj hm_27 H locs hP hD hS ls hl
            refine lv_iload_n hx hb dX4_remove_27 rfl (lv_at hl 3 rfl) ?_
            refine lv_aload_n hx hb dX4_remove_28 rfl (lv_at hl 0 rfl) ?_
            refine va_get (D := D) (ci := 3) (v := .int (iI t)) (C := RX4) (T := TX4) (N := 2) hx hb hts i4 hown hK.1 hP 0 rfl rfl 1 (by decide) f21 (fun _ h9 => h9) rfl dX4_remove_29 ?_
            refine zt_icmp_ge (tgt := 55) hx hb dX4_remove_32 (by decide) (by omega) (fun c_6 => ?_) (fun c_6 => ?_)
            · refine lv_aload_n hx hb dX4_remove_55 rfl (lv_at hl 0 rfl) ?_
              refine lv_dup hx hb dX4_remove_56 rfl ?_
              refine va_get (D := D) (ci := 3) (v := .int (iI t)) (C := RX4) (T := TX4) (N := 2) hx hb hts i4 hown hK.1 hP 0 rfl rfl 1 (by decide) f21 (fun _ h9 => h9) rfl dX4_remove_57 ?_
              refine lv_iload_n hx hb dX4_remove_60 rfl (lv_at hl 2 rfl) ?_
              refine zt_isub hx hb dX4_remove_61 ?_
              refine va_put (D := D) (ci := 3) (v := .int (iI (t - x))) (ty := .int) (C := RX4) (T := TX4) (N := 2) hx hb hts i4 tyX4 tyX4_ok nmX4 hown hK.1 hP hD hS 0 rfl rfl 1 (by decide) f21 (fun _ h9 => h9) rfl (by decide +kernel) rfl rfl (Nat.le_of_ble_eq_true rfl) dX4_remove_62 (fun H locs hP hD hS => ?_)
              have hP : va_P D vwCl [(r, .inr (3, [.ref a, .int (iI (t - x))])), (a, aI gi n gl)] H := hP
              have hD : va_D A [(r, .inr (3, [.ref a, .int (iI (t - x))])), (a, aI gi n gl)] := hD
              exact hQ (t - x, gl) _ _ _ _ (by constructor <;> dsimp only <;> omega) hP hD hS dX4_remove_65
            · refine lv_aload_n hx hb dX4_remove_35 rfl (lv_at hl 0 rfl) ?_
              refine va_get (D := D) (ci := 3) (v := .ref a) (C := RX4) (T := TX4) (N := 2) hx hb hts i4 hown hK.1 hP 0 rfl rfl 0 (by decide) f15 (fun _ h9 => h9) rfl dX4_remove_36 ?_
              refine lv_iload_n hx hb dX4_remove_39 rfl (lv_at hl 3 rfl) ?_
              refine lv_iload_n hx hb dX4_remove_40 rfl (lv_at hl 2 rfl) ?_
              refine zt_isub hx hb dX4_remove_41 ?_
              refine lv_aload_n hx hb dX4_remove_42 rfl (lv_at hl 0 rfl) ?_
              refine va_get (D := D) (ci := 3) (v := .ref a) (C := RX4) (T := TX4) (N := 2) hx hb hts i4 hown hK.1 hP 0 rfl rfl 0 (by decide) f15 (fun _ h9 => h9) rfl dX4_remove_43 ?_
              refine lv_iload_n hx hb dX4_remove_46 rfl (lv_at hl 3 rfl) ?_
              refine zt_iald hx hb hK.1 hP 1 0 rfl rfl (by omega) (by omega) dX4_remove_47 ?_
              refine zt_iast (g := gl) (x := gl j.toNat) hx hb hK.1 hP hD hS 1 0 rfl rfl (by omega) (by omega) dX4_remove_48 (fun H locs hP hD hS => ?_)
              have hP : va_P D vwCl [(r, .inr (3, [.ref a, .int (iI t)])), (a, aI gi n (uP gl (j - x).toNat (gl j.toNat)))] H := hP
              have hD : va_D A [(r, .inr (3, [.ref a, .int (iI t)])), (a, aI gi n (uP gl (j - x).toNat (gl j.toNat)))] := hD
              refine lv_iinc (v := iI (j + 1)) (lv' := [(3, .int (iI (j + 1))), (0, .ref r), (1, .int (iI i)), (2, .int (iI x))]) hx hb dX4_remove_49 hl (k := 3) rfl (iI_add _ _) (by decide) rfl (fun ls hl => ?_)
              refine lv_goto (tgt := 27) hx hb dX4_remove_52 (by decide) ?_
              exact ih_27 (j + 1) (uP gl (j - x).toNat (gl j.toNat)) (by omega) (by omega) H locs hP hD hS ls (lv_sub hl [1, 2, 3, 0] rfl)
        exact loop_27 ((t - (i + x)).toNat + 1) (i + x) g (by omega) (by omega) s.heap [] hP hD hS ls (lv_sub hl [1, 2, 3, 0] rfl)
      · exact hQ (t, g) _ _ _ _ (by constructor <;> dsimp only <;> omega) hP hD hS dX4_remove_22
