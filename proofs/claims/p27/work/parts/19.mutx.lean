set_option maxHeartbeats 4000000 in
set_option maxRecDepth 100000 in
theorem c_X6_requireFieldX (l : Launch) (hfl : l.stackTraces = false) (D : va_G) (gi gc gr : ClassId) (sz : Nat) (h : Nat) (k1 : Nat) (d : Nat) (o : Nat) (w : Nat) (bu : Nat) (chg : Int) (rfd : Int) (r2 : Nat) (n1 : Nat) (n2 : Nat) (sg : Nat) (nn : Int) (r : Nat) (a : Nat) (t : Int) (f : Int) (ht : 0 ≤ t ∧ t ≤ 60) (hf : -2147483648 ≤ f ∧ f < 2147483648) : vx_Met l yX6_requireField wsX6_requireField { frames := 6, cells := 1, slots := 6, locals := 95 } (zPx D gi gc gr [(h, .inr (5, [.ref k1, .ref d, .ref o, .ref w, .ref bu, .int (iI chg), .int (iI rfd)])), (d, .inr (4, [.ref r, .ref r2, .ref n1, .ref n2, .ref sg, .int (iI nn)])), (r, .inr (3, [.ref a, .int (iI t)]))] sz [.ref h, .int (iI f)]) (va_Qv (S := Unit) (fun _ => True) (zB D (va_A [(h, .inr (5, [.ref k1, .ref d, .ref o, .ref w, .ref bu, .int (iI chg), .int (iI rfd)])), (d, .inr (4, [.ref r, .ref r2, .ref n1, .ref n2, .ref sg, .int (iI nn)])), (r, .inr (3, [.ref a, .int (iI t)]))] sz) (fun _ => [(h, .inr (5, [.ref k1, .ref d, .ref o, .ref w, .ref bu, .int (iI chg), .int (iI rfd)])), (d, .inr (4, [.ref r, .ref r2, .ref n1, .ref n2, .ref sg, .int (iI nn)])), (r, .inr (3, [.ref a, .int (iI t)]))])) (va_A [(h, .inr (5, [.ref k1, .ref d, .ref o, .ref w, .ref bu, .int (iI chg), .int (iI rfd)])), (d, .inr (4, [.ref r, .ref r2, .ref n1, .ref n2, .ref sg, .int (iI nn)])), (r, .inr (3, [.ref a, .int (iI t)]))] sz)) (zQx (S := Unit) (fun _ => True) D (va_A [(h, .inr (5, [.ref k1, .ref d, .ref o, .ref w, .ref bu, .int (iI chg), .int (iI rfd)])), (d, .inr (4, [.ref r, .ref r2, .ref n1, .ref n2, .ref sg, .int (iI nn)])), (r, .inr (3, [.ref a, .int (iI t)]))] sz) (fun _ => [(h, .inr (5, [.ref k1, .ref d, .ref o, .ref w, .ref bu, .int (iI chg), .int (iI rfd)])), (d, .inr (4, [.ref r, .ref r2, .ref n1, .ref n2, .ref sg, .int (iI nn)])), (r, .inr (3, [.ref a, .int (iI t)]))])) 1 6 (va_A [(h, .inr (5, [.ref k1, .ref d, .ref o, .ref w, .ref bu, .int (iI chg), .int (iI rfd)])), (d, .inr (4, [.ref r, .ref r2, .ref n1, .ref n2, .ref sg, .int (iI nn)])), (r, .inr (3, [.ref a, .int (iI t)]))] sz) := by
  refine zt_metX (own := RX6) (cc := cX6_requireField) (maxL := 2) (by decide) rfl rfl (Nat.le_of_ble_eq_true rfl) ?_
  intro p e s m args below meth c A hAe C hr hlk htab hK hX hZ hP hD hS hA ls hl
  rw [← hAe]
  have hx := C.1
  have hb := C.2.1
  have hml := C.2.2.1
  have hown := C.2.2.2.1
  have hts := C.2.2.2.2
  have i5 : ∀ w ∈ u_ws RX5 TX5 6, w ∈ wsX6_requireField := by decide +kernel
  have i6 : ∀ w ∈ u_ws RX6 TX6 7, w ∈ wsX6_requireField := by decide +kernel
  have f21 := hts (.fieldLink RX6 21 "Threetwo" "strip" "LThreetwo$Strip;") (by decide +kernel)
  have hl : lv_has ls 2 [(0, .ref h), (1, .int (iI f))] := hl
  refine lv_aload_n hx hb dX6_requireField_0 rfl (lv_at hl 0 rfl) ?_
  refine va_get (D := D) (ci := 5) (v := .ref d) (C := RX6) (T := TX6) (N := 7) hx hb hts i6 hown hK.1 hP 0 rfl rfl 1 (by decide) f21 (fun _ h9 => h9) rfl dX6_requireField_1 ?_
  refine va_getN (D := D) (ci := 4) (v := .ref r) (C := RX5) (T := TX5) (N := 6) hx hb hts i5 hown hK.1 hP 1 rfl rfl 0 (by decide) (zK.n79 hK _) (fun _ h9 => h9) rfl dX6_requireField_4 ?_
  refine lv_iload_n hx hb dX6_requireField_7 rfl (lv_at hl 1 rfl) ?_
  refine zt_callV C (As := [.int (iI f)]) (rest := []) (c_X4_has l D gi gc gr r a t f (by first | omega | assumption) (by first | omega | assumption)) (cwV 1 hts gX6_requireField_X4_has rfl rfl rfl (by decide +kernel) ⟨Nat.le_of_ble_eq_true rfl, Nat.le_of_ble_eq_true rfl⟩) (zt_preV hK (hP.sub (ws' := [(r, .inr (3, [.ref a, .int (iI t)]))]) [2] rfl) [.int (iI f)] 0 rfl rfl) rfl hl.1 rfl (Nat.le_of_ble_eq_true rfl) dX6_requireField_8 ⟨Nat.le_of_ble_eq_true rfl, Nat.le_of_ble_eq_true rfl⟩ (fun r_1 hr_1 => ?_)
  obtain ⟨z_2, rfl, hz_2⟩ := hr_1
  refine zt_if_ne (tgt := 25) hx hb dX6_requireField_11 (by decide) (by omega) (fun c_3 => ?_) (fun c_3 => ?_)
  · exact zt_vretX hx hb hr hlk (Nat.le_of_ble_eq_true rfl) (Nat.le_of_ble_eq_true rfl) () (by trivial) hP hD hS dX6_requireField_25
  · exact zt_throwSW (cls := "java/lang/IndexOutOfBoundsException") (text := "no such FIELD") (ik := 151) (is := 271) (ic := 155) C hfl hlk htab hX hZ hS hl.1 (by first | exact Or.inl rfl | exact Or.inr (Or.inl rfl) | exact Or.inr (Or.inr rfl)) (by decide +kernel) (by decide +kernel) (by decide +kernel) (by decide +kernel) zx_ng155 zx_ok155 (by decide +kernel) dX6_requireField_14 dX6_requireField_17 dX6_requireField_18 dX6_requireField_21 dX6_requireField_24 ⟨Nat.le_of_ble_eq_true rfl, Nat.le_of_ble_eq_true rfl, Nat.le_of_ble_eq_true rfl, Nat.le_of_ble_eq_true rfl⟩ (Nat.le_of_ble_eq_true rfl) (Nat.le_of_ble_eq_true rfl) () (by trivial) hP hD
set_option maxHeartbeats 4000000 in
set_option maxRecDepth 100000 in
theorem c_X6_requirePrintX (l : Launch) (hfl : l.stackTraces = false) (D : va_G) (gi gc gr : ClassId) (sz : Nat) (h : Nat) (k1 : Nat) (d : Nat) (o : Nat) (w : Nat) (bu : Nat) (chg : Int) (rfd : Int) (rw : Nat) (bq : Nat) (sq : Nat) (mp : Int) (x : Int) (hmp : 0 ≤ mp ∧ mp ≤ 3) (hx0 : -2147483648 ≤ x ∧ x < 2147483648) : vx_Met l yX6_requirePrint wsX6_requirePrint { frames := 6, cells := 1, slots := 6, locals := 95 } (zPx D gi gc gr [(h, .inr (5, [.ref k1, .ref d, .ref o, .ref w, .ref bu, .int (iI chg), .int (iI rfd)])), (w, .inr (1, [.ref rw, .ref bq, .ref sq, .int (iI mp)]))] sz [.ref h, .int (iI x)]) (va_Qv (S := Unit) (fun _ => True) (zB D (va_A [(h, .inr (5, [.ref k1, .ref d, .ref o, .ref w, .ref bu, .int (iI chg), .int (iI rfd)])), (w, .inr (1, [.ref rw, .ref bq, .ref sq, .int (iI mp)]))] sz) (fun _ => [(h, .inr (5, [.ref k1, .ref d, .ref o, .ref w, .ref bu, .int (iI chg), .int (iI rfd)])), (w, .inr (1, [.ref rw, .ref bq, .ref sq, .int (iI mp)]))])) (va_A [(h, .inr (5, [.ref k1, .ref d, .ref o, .ref w, .ref bu, .int (iI chg), .int (iI rfd)])), (w, .inr (1, [.ref rw, .ref bq, .ref sq, .int (iI mp)]))] sz)) (zQx (S := Unit) (fun _ => True) D (va_A [(h, .inr (5, [.ref k1, .ref d, .ref o, .ref w, .ref bu, .int (iI chg), .int (iI rfd)])), (w, .inr (1, [.ref rw, .ref bq, .ref sq, .int (iI mp)]))] sz) (fun _ => [(h, .inr (5, [.ref k1, .ref d, .ref o, .ref w, .ref bu, .int (iI chg), .int (iI rfd)])), (w, .inr (1, [.ref rw, .ref bq, .ref sq, .int (iI mp)]))])) 1 6 (va_A [(h, .inr (5, [.ref k1, .ref d, .ref o, .ref w, .ref bu, .int (iI chg), .int (iI rfd)])), (w, .inr (1, [.ref rw, .ref bq, .ref sq, .int (iI mp)]))] sz) := by
  refine zt_metX (own := RX6) (cc := cX6_requirePrint) (maxL := 2) (by decide) rfl rfl (Nat.le_of_ble_eq_true rfl) ?_
  intro p e s m args below meth c A hAe C hr hlk htab hK hX hZ hP hD hS hA ls hl
  rw [← hAe]
  have hx := C.1
  have hb := C.2.1
  have hml := C.2.2.1
  have hown := C.2.2.2.1
  have hts := C.2.2.2.2
  have i6 : ∀ w ∈ u_ws RX6 TX6 7, w ∈ wsX6_requirePrint := by decide +kernel
  have f35 := hts (.fieldLink RX6 35 "Threetwo" "prints" "LThreetwo$Prints;") (by decide +kernel)
  have hl : lv_has ls 2 [(0, .ref h), (1, .int (iI x))] := hl
  refine lv_aload_n hx hb dX6_requirePrint_0 rfl (lv_at hl 0 rfl) ?_
  refine va_get (D := D) (ci := 5) (v := .ref w) (C := RX6) (T := TX6) (N := 7) hx hb hts i6 hown hK.1 hP 0 rfl rfl 3 (by decide) f35 (fun _ h9 => h9) rfl dX6_requirePrint_1 ?_
  refine lv_iload_n hx hb dX6_requirePrint_4 rfl (lv_at hl 1 rfl) ?_
  refine zt_callV C (As := [.int (iI x)]) (rest := []) (c_X2_has l D gi gc gr w rw bq sq mp x (by first | omega | assumption) (by first | omega | assumption)) (cwV 1 hts gX6_requirePrint_X2_has rfl rfl rfl (by decide +kernel) ⟨Nat.le_of_ble_eq_true rfl, Nat.le_of_ble_eq_true rfl⟩) (zt_preV hK (hP.sub (ws' := [(w, .inr (1, [.ref rw, .ref bq, .ref sq, .int (iI mp)]))]) [1] rfl) [.int (iI x)] 0 rfl rfl) rfl hl.1 rfl (Nat.le_of_ble_eq_true rfl) dX6_requirePrint_5 ⟨Nat.le_of_ble_eq_true rfl, Nat.le_of_ble_eq_true rfl⟩ (fun r_1 hr_1 => ?_)
  obtain ⟨z_2, rfl, hz_2⟩ := hr_1
  refine zt_if_ne (tgt := 22) hx hb dX6_requirePrint_8 (by decide) (by omega) (fun c_3 => ?_) (fun c_3 => ?_)
  · exact zt_vretX hx hb hr hlk (Nat.le_of_ble_eq_true rfl) (Nat.le_of_ble_eq_true rfl) () (by trivial) hP hD hS dX6_requirePrint_22
  · exact zt_throwSW (cls := "java/lang/IndexOutOfBoundsException") (text := "no such PRINT") (ik := 151) (is := 274) (ic := 155) C hfl hlk htab hX hZ hS hl.1 (by first | exact Or.inl rfl | exact Or.inr (Or.inl rfl) | exact Or.inr (Or.inr rfl)) (by decide +kernel) (by decide +kernel) (by decide +kernel) (by decide +kernel) zx_ng155 zx_ok155 (by decide +kernel) dX6_requirePrint_11 dX6_requirePrint_14 dX6_requirePrint_15 dX6_requirePrint_18 dX6_requirePrint_21 ⟨Nat.le_of_ble_eq_true rfl, Nat.le_of_ble_eq_true rfl, Nat.le_of_ble_eq_true rfl, Nat.le_of_ble_eq_true rfl⟩ (Nat.le_of_ble_eq_true rfl) (Nat.le_of_ble_eq_true rfl) () (by trivial) hP hD
