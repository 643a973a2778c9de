set_option maxHeartbeats 4000000 in
set_option maxRecDepth 100000 in
theorem c_X6_requireFieldX (l : Launch) (hfl : l.stackTraces = false) (D : va_G) (gi gc gr : ClassId) (sz : Nat) (h : Nat) (k1 : Nat) (d : Nat) (o : Nat) (w : Nat) (bu : Nat) (chg : Int) (rfd : Int) (r2 : Nat) (n1 : Nat) (n2 : Nat) (sg : Nat) (nn : Int) (r : Nat) (a : Nat) (t : Int) (f : Int) (ht : 0 ≤ t ∧ t ≤ 60) (hf : -2147483648 ≤ f ∧ f < 2147483648) : vx_Met l yX6_requireField wsX6_requireField { frames := 6, cells := 1, slots := 6, locals := 95 } (zPx D gi gc gr [(h, .inr (5, [.ref k1, .ref d, .ref o, .ref w, .ref bu, .int (iI chg), .int (iI rfd)])), (d, .inr (4, [.ref r, .ref r2, .ref n1, .ref n2, .ref sg, .int (iI nn)])), (r, .inr (3, [.ref a, .int (iI t)]))] sz [.ref h, .int (iI f)]) (va_Qv (S := Unit) (fun _ => 0 ≤ f ∧ f < t) (zB D (va_A [(h, .inr (5, [.ref k1, .ref d, .ref o, .ref w, .ref bu, .int (iI chg), .int (iI rfd)])), (d, .inr (4, [.ref r, .ref r2, .ref n1, .ref n2, .ref sg, .int (iI nn)])), (r, .inr (3, [.ref a, .int (iI t)]))] sz) (fun _ => [(h, .inr (5, [.ref k1, .ref d, .ref o, .ref w, .ref bu, .int (iI chg), .int (iI rfd)])), (d, .inr (4, [.ref r, .ref r2, .ref n1, .ref n2, .ref sg, .int (iI nn)])), (r, .inr (3, [.ref a, .int (iI t)]))])) (va_A [(h, .inr (5, [.ref k1, .ref d, .ref o, .ref w, .ref bu, .int (iI chg), .int (iI rfd)])), (d, .inr (4, [.ref r, .ref r2, .ref n1, .ref n2, .ref sg, .int (iI nn)])), (r, .inr (3, [.ref a, .int (iI t)]))] sz)) (zQx (S := Unit) (fun _ => True) D (va_A [(h, .inr (5, [.ref k1, .ref d, .ref o, .ref w, .ref bu, .int (iI chg), .int (iI rfd)])), (d, .inr (4, [.ref r, .ref r2, .ref n1, .ref n2, .ref sg, .int (iI nn)])), (r, .inr (3, [.ref a, .int (iI t)]))] sz) (fun _ => [(h, .inr (5, [.ref k1, .ref d, .ref o, .ref w, .ref bu, .int (iI chg), .int (iI rfd)])), (d, .inr (4, [.ref r, .ref r2, .ref n1, .ref n2, .ref sg, .int (iI nn)])), (r, .inr (3, [.ref a, .int (iI t)]))])) 1 6 (va_A [(h, .inr (5, [.ref k1, .ref d, .ref o, .ref w, .ref bu, .int (iI chg), .int (iI rfd)])), (d, .inr (4, [.ref r, .ref r2, .ref n1, .ref n2, .ref sg, .int (iI nn)])), (r, .inr (3, [.ref a, .int (iI t)]))] sz) := by
  refine zt_metX (own := RX6) (cc := cX6_requireField) (maxL := 2) (by decide) rfl rfl (Nat.le_of_ble_eq_true rfl) ?_
  intro p e s m args below meth c A hAe C hr hlk htab hK hX hZ hP hD hS hA ls hl
  rw [← hAe]
  have hx := C.1
  have hb := C.2.1
  have hml := C.2.2.1
  have hown := C.2.2.2.1
  have hts := C.2.2.2.2
  have i5 : ∀ w ∈ u_ws RX5 TX5 6, w ∈ wsX6_requireField := by decide +kernel
  have i6 : ∀ w ∈ u_ws RX6 TX6 7, w ∈ wsX6_requireField := by decide +kernel
  have f21 := hts (.fieldLink RX6 21 "Threetwo" "strip" "LThreetwo$Strip;") (by decide +kernel)
  have hl : lv_has ls 2 [(0, .ref h), (1, .int (iI f))] := hl
  refine lv_aload_n hx hb dX6_requireField_0 rfl (lv_at hl 0 rfl) ?_
  refine va_get (D := D) (ci := 5) (v := .ref d) (C := RX6) (T := TX6) (N := 7) hx hb hts i6 hown hK.1 hP 0 rfl rfl 1 (by decide) f21 (fun _ h9 => h9) rfl dX6_requireField_1 ?_
  refine va_getN (D := D) (ci := 4) (v := .ref r) (C := RX5) (T := TX5) (N := 6) hx hb hts i5 hown hK.1 hP 1 rfl rfl 0 (by decide) (zK.n79 hK _) (fun _ h9 => h9) rfl dX6_requireField_4 ?_
  refine lv_iload_n hx hb dX6_requireField_7 rfl (lv_at hl 1 rfl) ?_
  refine zt_callV C (As := [.int (iI f)]) (rest := []) (c_X4_has l D gi gc gr r a t f (by first | omega | assumption) (by first | omega | assumption)) (cwV 1 hts gX6_requireField_X4_has rfl rfl rfl (by decide +kernel) ⟨Nat.le_of_ble_eq_true rfl, Nat.le_of_ble_eq_true rfl⟩) (zt_preV hK (hP.sub (ws' := [(r, .inr (3, [.ref a, .int (iI t)]))]) [2] rfl) [.int (iI f)] 0 rfl rfl) rfl hl.1 rfl (Nat.le_of_ble_eq_true rfl) dX6_requireField_8 ⟨Nat.le_of_ble_eq_true rfl, Nat.le_of_ble_eq_true rfl⟩ (fun r_1 hr_1 => ?_)
  obtain ⟨z_2, rfl, hz_2⟩ := hr_1
  refine zt_if_ne (tgt := 25) hx hb dX6_requireField_11 (by decide) (by omega) (fun c_3 => ?_) (fun c_3 => ?_)
  · exact zt_vretX hx hb hr hlk (Nat.le_of_ble_eq_true rfl) (Nat.le_of_ble_eq_true rfl) () (by omega) hP hD hS dX6_requireField_25
  · exact zt_throwSW (cls := "java/lang/IndexOutOfBoundsException") (text := "no such FIELD") (ik := 151) (is := 271) (ic := 155) C hfl hlk htab hX hZ hS hl.1 (by first | exact Or.inl rfl | exact Or.inr (Or.inl rfl) | exact Or.inr (Or.inr rfl)) (by decide +kernel) (by decide +kernel) (by decide +kernel) (by decide +kernel) zx_ng155 zx_ok155 (by decide +kernel) dX6_requireField_14 dX6_requireField_17 dX6_requireField_18 dX6_requireField_21 dX6_requireField_24 ⟨Nat.le_of_ble_eq_true rfl, Nat.le_of_ble_eq_true rfl, Nat.le_of_ble_eq_true rfl, Nat.le_of_ble_eq_true rfl⟩ (Nat.le_of_ble_eq_true rfl) (Nat.le_of_ble_eq_true rfl) () (trivial) hP hD
set_option maxHeartbeats 4000000 in
set_option maxRecDepth 100000 in
theorem c_X6_requirePrintX (l : Launch) (hfl : l.stackTraces = false) (D : va_G) (gi gc gr : ClassId) (sz : Nat) (h : Nat) (k1 : Nat) (d : Nat) (o : Nat) (w : Nat) (bu : Nat) (chg : Int) (rfd : Int) (rw : Nat) (bq : Nat) (sq : Nat) (mp : Int) (x : Int) (hmp : 0 ≤ mp ∧ mp ≤ 3) (hx0 : -2147483648 ≤ x ∧ x < 2147483648) : vx_Met l yX6_requirePrint wsX6_requirePrint { frames := 6, cells := 1, slots := 6, locals := 95 } (zPx D gi gc gr [(h, .inr (5, [.ref k1, .ref d, .ref o, .ref w, .ref bu, .int (iI chg), .int (iI rfd)])), (w, .inr (1, [.ref rw, .ref bq, .ref sq, .int (iI mp)]))] sz [.ref h, .int (iI x)]) (va_Qv (S := Unit) (fun _ => 0 ≤ x ∧ x < mp) (zB D (va_A [(h, .inr (5, [.ref k1, .ref d, .ref o, .ref w, .ref bu, .int (iI chg), .int (iI rfd)])), (w, .inr (1, [.ref rw, .ref bq, .ref sq, .int (iI mp)]))] sz) (fun _ => [(h, .inr (5, [.ref k1, .ref d, .ref o, .ref w, .ref bu, .int (iI chg), .int (iI rfd)])), (w, .inr (1, [.ref rw, .ref bq, .ref sq, .int (iI mp)]))])) (va_A [(h, .inr (5, [.ref k1, .ref d, .ref o, .ref w, .ref bu, .int (iI chg), .int (iI rfd)])), (w, .inr (1, [.ref rw, .ref bq, .ref sq, .int (iI mp)]))] sz)) (zQx (S := Unit) (fun _ => True) D (va_A [(h, .inr (5, [.ref k1, .ref d, .ref o, .ref w, .ref bu, .int (iI chg), .int (iI rfd)])), (w, .inr (1, [.ref rw, .ref bq, .ref sq, .int (iI mp)]))] sz) (fun _ => [(h, .inr (5, [.ref k1, .ref d, .ref o, .ref w, .ref bu, .int (iI chg), .int (iI rfd)])), (w, .inr (1, [.ref rw, .ref bq, .ref sq, .int (iI mp)]))])) 1 6 (va_A [(h, .inr (5, [.ref k1, .ref d, .ref o, .ref w, .ref bu, .int (iI chg), .int (iI rfd)])), (w, .inr (1, [.ref rw, .ref bq, .ref sq, .int (iI mp)]))] sz) := by
  refine zt_metX (own := RX6) (cc := cX6_requirePrint) (maxL := 2) (by decide) rfl rfl (Nat.le_of_ble_eq_true rfl) ?_
  intro p e s m args below meth c A hAe C hr hlk htab hK hX hZ hP hD hS hA ls hl
  rw [← hAe]
  have hx := C.1
  have hb := C.2.1
  have hml := C.2.2.1
  have hown := C.2.2.2.1
  have hts := C.2.2.2.2
  have i6 : ∀ w ∈ u_ws RX6 TX6 7, w ∈ wsX6_requirePrint := by decide +kernel
  have f35 := hts (.fieldLink RX6 35 "Threetwo" "prints" "LThreetwo$Prints;") (by decide +kernel)
  have hl : lv_has ls 2 [(0, .ref h), (1, .int (iI x))] := hl
  refine lv_aload_n hx hb dX6_requirePrint_0 rfl (lv_at hl 0 rfl) ?_
  refine va_get (D := D) (ci := 5) (v := .ref w) (C := RX6) (T := TX6) (N := 7) hx hb hts i6 hown hK.1 hP 0 rfl rfl 3 (by decide) f35 (fun _ h9 => h9) rfl dX6_requirePrint_1 ?_
  refine lv_iload_n hx hb dX6_requirePrint_4 rfl (lv_at hl 1 rfl) ?_
  refine zt_callV C (As := [.int (iI x)]) (rest := []) (c_X2_has l D gi gc gr w rw bq sq mp x (by first | omega | assumption) (by first | omega | assumption)) (cwV 1 hts gX6_requirePrint_X2_has rfl rfl rfl (by decide +kernel) ⟨Nat.le_of_ble_eq_true rfl, Nat.le_of_ble_eq_true rfl⟩) (zt_preV hK (hP.sub (ws' := [(w, .inr (1, [.ref rw, .ref bq, .ref sq, .int (iI mp)]))]) [1] rfl) [.int (iI x)] 0 rfl rfl) rfl hl.1 rfl (Nat.le_of_ble_eq_true rfl) dX6_requirePrint_5 ⟨Nat.le_of_ble_eq_true rfl, Nat.le_of_ble_eq_true rfl⟩ (fun r_1 hr_1 => ?_)
  obtain ⟨z_2, rfl, hz_2⟩ := hr_1
  refine zt_if_ne (tgt := 22) hx hb dX6_requirePrint_8 (by decide) (by omega) (fun c_3 => ?_) (fun c_3 => ?_)
  · exact zt_vretX hx hb hr hlk (Nat.le_of_ble_eq_true rfl) (Nat.le_of_ble_eq_true rfl) () (by omega) hP hD hS dX6_requirePrint_22
  · exact zt_throwSW (cls := "java/lang/IndexOutOfBoundsException") (text := "no such PRINT") (ik := 151) (is := 274) (ic := 155) C hfl hlk htab hX hZ hS hl.1 (by first | exact Or.inl rfl | exact Or.inr (Or.inl rfl) | exact Or.inr (Or.inr rfl)) (by decide +kernel) (by decide +kernel) (by decide +kernel) (by decide +kernel) zx_ng155 zx_ok155 (by decide +kernel) dX6_requirePrint_11 dX6_requirePrint_14 dX6_requirePrint_15 dX6_requirePrint_18 dX6_requirePrint_21 ⟨Nat.le_of_ble_eq_true rfl, Nat.le_of_ble_eq_true rfl, Nat.le_of_ble_eq_true rfl, Nat.le_of_ble_eq_true rfl⟩ (Nat.le_of_ble_eq_true rfl) (Nat.le_of_ble_eq_true rfl) () (trivial) hP hD
set_option maxHeartbeats 4000000 in
set_option maxRecDepth 100000 in
theorem c_X6_frame (l : Launch) (hfl : l.stackTraces = false) (D : va_G) (gi gc gr : ClassId) (sz : Nat) (h : Nat) (k1 : Nat) (d : Nat) (o : Nat) (w : Nat) (bu : Nat) (chg : Int) (rfd : Int) (k2 : Nat) (rn : Int) (rg : Nat → Int) (x : Int) (hrn : 0 ≤ rn ∧ rn ≤ 24) (hx0 : 0 ≤ x ∧ x < 100) : vx_Met l yX6_frame wsX6_frame { frames := 6, cells := 2, slots := 12, locals := 95 } (zPx D gi gc gr [(h, .inr (5, [.ref k1, .ref d, .ref o, .ref w, .ref bu, .int (iI chg), .int (iI rfd)])), (k1, .inr (3, [.ref k2, .int (iI rn)])), (k2, aI gi 24 rg)] sz [.ref h, .int (iI x)]) (va_Qi (S := Int × (Nat → Int)) (fun _ u => (fun u => 0 ≤ u.1 ∧ u.1 ≤ 24) u) (zB D (va_A [(h, .inr (5, [.ref k1, .ref d, .ref o, .ref w, .ref bu, .int (iI chg), .int (iI rfd)])), (k1, .inr (3, [.ref k2, .int (iI rn)])), (k2, aI gi 24 rg)] sz) (fun u => [(h, .inr (5, [.ref k1, .ref d, .ref o, .ref w, .ref bu, .int (iI chg), .int (iI rfd)])), (k1, .inr (3, [.ref k2, .int (iI u.1)])), (k2, aI gi 24 u.2)])) (va_A [(h, .inr (5, [.ref k1, .ref d, .ref o, .ref w, .ref bu, .int (iI chg), .int (iI rfd)])), (k1, .inr (3, [.ref k2, .int (iI rn)])), (k2, aI gi 24 rg)] sz)) (zQx (S := Int × (Nat → Int)) (fun u => 0 ≤ u.1 ∧ u.1 ≤ 24) D (va_A [(h, .inr (5, [.ref k1, .ref d, .ref o, .ref w, .ref bu, .int (iI chg), .int (iI rfd)])), (k1, .inr (3, [.ref k2, .int (iI rn)])), (k2, aI gi 24 rg)] sz) (fun u => [(h, .inr (5, [.ref k1, .ref d, .ref o, .ref w, .ref bu, .int (iI chg), .int (iI rfd)])), (k1, .inr (3, [.ref k2, .int (iI u.1)])), (k2, aI gi 24 u.2)])) 2 12 (va_A [(h, .inr (5, [.ref k1, .ref d, .ref o, .ref w, .ref bu, .int (iI chg), .int (iI rfd)])), (k1, .inr (3, [.ref k2, .int (iI rn)])), (k2, aI gi 24 rg)] sz) := by
  refine zt_metX (own := RX6) (cc := cX6_frame) (maxL := 3) (by decide) rfl rfl (Nat.le_of_ble_eq_true rfl) ?_
  intro p e s m args below meth c A hAe C hr hlk htab hK hX hZ hP hD hS hA ls hl
  rw [← hAe]
  have hx := C.1
  have hb := C.2.1
  have hml := C.2.2.1
  have hown := C.2.2.2.1
  have hts := C.2.2.2.2
  have i6 : ∀ w ∈ u_ws RX6 TX6 7, w ∈ wsX6_frame := by decide +kernel
  have f14 := hts (.fieldLink RX6 14 "Threetwo" "reel" "LThreetwo$Row;") (by decide +kernel)
  have hl : lv_has ls 3 [(0, .ref h), (1, .int (iI x))] := hl
  refine lv_iload_n hx hb dX6_frame_0 rfl (lv_at hl 1 rfl) ?_
  refine zt_callSv C (As := [.int (iI x)]) (rest := []) (c_X6_requireLook l D gi gc gr x (by first | omega | assumption)) (va_cwS 1 hts gX6_frame_X6_requireLook rfl rfl rfl (by decide +kernel) ⟨Nat.le_of_ble_eq_true rfl, Nat.le_of_ble_eq_true rfl⟩) (zt_preS hK (hP.sub (ws' := []) [] rfl) [.int (iI x)]) rfl hl.1 rfl (Nat.le_of_ble_eq_true rfl) dX6_frame_1 ⟨Nat.le_of_ble_eq_true rfl, Nat.le_of_ble_eq_true rfl⟩ (fun hr_1 => ?_)
  refine lv_aload_n hx hb dX6_frame_4 rfl (lv_at hl 0 rfl) ?_
  refine va_get (D := D) (ci := 5) (v := .ref k1) (C := RX6) (T := TX6) (N := 7) hx hb hts i6 hown hK.1 hP 0 rfl rfl 0 (by decide) f14 (fun _ h9 => h9) rfl dX6_frame_5 ?_
  refine lv_iload_n hx hb dX6_frame_8 rfl (lv_at hl 1 rfl) ?_
  have hPc := hP.sub (ws' := [(k1, .inr (3, [.ref k2, .int (iI rn)])), (k2, aI gi 24 rg)]) [1, 2] rfl
  have hDc := hD.sub (ws' := [(k1, .inr (3, [.ref k2, .int (iI rn)])), (k2, aI gi 24 rg)]) [1, 2] (by decide) rfl
  have hFc := va_free (wc := [(k1, .inr (3, [.ref k2, .int (iI rn)])), (k2, aI gi 24 rg)]) hD hS hA [1, 2] rfl
  refine va_calli (va_runV C (As := [.int (iI x)]) (rest := []) (c_X4_add l D gi gc gr s.heap.size k1 k2 24 rn rg x (by first | omega | assumption) (by first | omega | assumption)) (cwV 1 hts gX6_frame_X4_add rfl rfl rfl (by decide +kernel) ⟨Nat.le_of_ble_eq_true rfl, Nat.le_of_ble_eq_true rfl⟩) (zt_preVw hK hPc hDc [.int (iI x)] 0 rfl rfl) rfl rfl hl.1 rfl (lv_room (Nat.le_of_ble_eq_true rfl)) dX6_frame_9 ⟨Nat.le_of_ble_eq_true rfl, Nat.le_of_ble_eq_true rfl⟩) hS (fun q _ h => hFc q h) hFc (fun r_2 u_r_2 T9 H1 locs hT9 hvm hw hB hz1 hk1 hS => ?_)
  obtain ⟨t_2, g_2⟩ := u_r_2
  obtain ⟨z_2, e_2, hz_2⟩ := hw
  dsimp only at hz_2
  subst e_2
  obtain ⟨hP1, hD1⟩ := hB
  rw [hT9] at hP1
  obtain ⟨hP, hD⟩ := zt_back (w1 := [(k1, .inr (3, [.ref k2, .int (iI t_2)])), (k2, aI gi 24 g_2)]) (wr := [(h, .inr (5, [.ref k1, .ref d, .ref o, .ref w, .ref bu, .int (iI chg), .int (iI rfd)]))]) (wn := [(h, .inr (5, [.ref k1, .ref d, .ref o, .ref w, .ref bu, .int (iI chg), .int (iI rfd)])), (k1, .inr (3, [.ref k2, .int (iI t_2)])), (k2, aI gi 24 g_2)]) hP hD [1, 2] [0] [0, 1, 2] rfl rfl (by decide) (by decide) hk1 hFc hP1 hD1 rfl (by decide)
  generalize H1 = H at hP hS ⊢
  refine lv_istore_n (lv' := [(2, .int (iI z_2)), (0, .ref h), (1, .int (iI x))]) hx hb dX6_frame_12 rfl hl (by decide) rfl (fun ls hl => ?_)
  refine lv_iload_n hx hb dX6_frame_13 rfl (lv_at hl 0 rfl) ?_
  refine lv_iconst (v := iI (-1)) hx hb dX6_frame_14 (by decide +kernel) ?_
  refine zt_icmp_ne (tgt := 28) hx hb dX6_frame_15 (by decide) (by omega) (fun c_3 => ?_) (fun c_3 => ?_)
  · refine lv_iload_n hx hb dX6_frame_28 rfl (lv_at hl 0 rfl) ?_
    exact zt_iretX hx hb hr hlk (Nat.le_of_ble_eq_true rfl) (Nat.le_of_ble_eq_true rfl) (t_2, g_2) (by constructor <;> dsimp only <;> omega) hP hD hS dX6_frame_29
  · exact zt_throwS (cls := "java/lang/IllegalStateException") (text := "the REEL is full") (ik := 60) (is := 62) (ic := 64) C hfl hlk htab hX hZ hS hl.1 (by first | exact Or.inl rfl | exact Or.inr (Or.inl rfl) | exact Or.inr (Or.inr rfl)) (by decide +kernel) (by decide +kernel) (by decide +kernel) (by decide +kernel) zx_ng64 zx_ok64 (by decide +kernel) dX6_frame_18 dX6_frame_21 dX6_frame_22 dX6_frame_24 dX6_frame_27 ⟨Nat.le_of_ble_eq_true rfl, Nat.le_of_ble_eq_true rfl, Nat.le_of_ble_eq_true rfl, Nat.le_of_ble_eq_true rfl⟩ (Nat.le_of_ble_eq_true rfl) (Nat.le_of_ble_eq_true rfl) (t_2, g_2) (by constructor <;> dsimp only <;> omega) hP hD
set_option maxHeartbeats 4000000 in
set_option maxRecDepth 100000 in
theorem c_X6_cut (l : Launch) (hfl : l.stackTraces = false) (D : va_G) (gi gc gr : ClassId) (sz : Nat) (h : Nat) (k1 : Nat) (d : Nat) (o : Nat) (w : Nat) (bu : Nat) (chg : Int) (rfd : Int) (r2 : Nat) (n1 : Nat) (n2 : Nat) (sg : Nat) (nn : Int) (r : Nat) (a : Nat) (t : Int) (g : Nat → Int) (q1 : Nat) (q2 : Nat) (q3 : Nat) (q4 : Nat) (q5 : Nat) (q6 : Nat) (cst : Int) (F : Int) (kn : Int) (f : Int) (x : Int) (ht : 0 ≤ t ∧ t ≤ 60) (hnn : 0 ≤ nn ∧ nn ≤ 512) (hf : 0 ≤ f ∧ f < 60) (hx0 : 1 ≤ x ∧ x ≤ 4) : vx_Met l yX6_cut wsX6_cut { frames := 7, cells := 2, slots := 12, locals := 116 } (zPx D gi gc gr [(h, .inr (5, [.ref k1, .ref d, .ref o, .ref w, .ref bu, .int (iI chg), .int (iI rfd)])), (d, .inr (4, [.ref r, .ref r2, .ref n1, .ref n2, .ref sg, .int (iI nn)])), (r, .inr (3, [.ref a, .int (iI t)])), (a, aI gi 60 g), (o, .inr (2, [.ref q1, .ref q2, .ref q3, .ref q4, .ref q5, .ref q6, .int (iI cst), .int (iI F), .int (iI kn)]))] sz [.ref h, .int (iI f), .int (iI x)]) (va_Qi (S := Int × (Nat → Int) × Int × Int) (fun _ u => (fun u => (0 ≤ u.1 ∧ u.1 ≤ 60) ∧ (0 ≤ u.2.2.1 ∧ u.2.2.1 ≤ 512) ∧ (u.2.2.2 = 0 ∨ (u.2.2.2 = kn ∧ u.1 = t))) u) (zB D (va_A [(h, .inr (5, [.ref k1, .ref d, .ref o, .ref w, .ref bu, .int (iI chg), .int (iI rfd)])), (d, .inr (4, [.ref r, .ref r2, .ref n1, .ref n2, .ref sg, .int (iI nn)])), (r, .inr (3, [.ref a, .int (iI t)])), (a, aI gi 60 g), (o, .inr (2, [.ref q1, .ref q2, .ref q3, .ref q4, .ref q5, .ref q6, .int (iI cst), .int (iI F), .int (iI kn)]))] sz) (fun u => [(h, .inr (5, [.ref k1, .ref d, .ref o, .ref w, .ref bu, .int (iI chg), .int (iI rfd)])), (d, .inr (4, [.ref r, .ref r2, .ref n1, .ref n2, .ref sg, .int (iI u.2.2.1)])), (r, .inr (3, [.ref a, .int (iI u.1)])), (a, aI gi 60 u.2.1), (o, .inr (2, [.ref q1, .ref q2, .ref q3, .ref q4, .ref q5, .ref q6, .int (iI cst), .int (iI F), .int (iI u.2.2.2)]))])) (va_A [(h, .inr (5, [.ref k1, .ref d, .ref o, .ref w, .ref bu, .int (iI chg), .int (iI rfd)])), (d, .inr (4, [.ref r, .ref r2, .ref n1, .ref n2, .ref sg, .int (iI nn)])), (r, .inr (3, [.ref a, .int (iI t)])), (a, aI gi 60 g), (o, .inr (2, [.ref q1, .ref q2, .ref q3, .ref q4, .ref q5, .ref q6, .int (iI cst), .int (iI F), .int (iI kn)]))] sz)) (zQx (S := Int × (Nat → Int) × Int × Int) (fun u => (0 ≤ u.1 ∧ u.1 ≤ 60) ∧ (0 ≤ u.2.2.1 ∧ u.2.2.1 ≤ 512) ∧ (u.2.2.2 = 0 ∨ (u.2.2.2 = kn ∧ u.1 = t))) D (va_A [(h, .inr (5, [.ref k1, .ref d, .ref o, .ref w, .ref bu, .int (iI chg), .int (iI rfd)])), (d, .inr (4, [.ref r, .ref r2, .ref n1, .ref n2, .ref sg, .int (iI nn)])), (r, .inr (3, [.ref a, .int (iI t)])), (a, aI gi 60 g), (o, .inr (2, [.ref q1, .ref q2, .ref q3, .ref q4, .ref q5, .ref q6, .int (iI cst), .int (iI F), .int (iI kn)]))] sz) (fun u => [(h, .inr (5, [.ref k1, .ref d, .ref o, .ref w, .ref bu, .int (iI chg), .int (iI rfd)])), (d, .inr (4, [.ref r, .ref r2, .ref n1, .ref n2, .ref sg, .int (iI u.2.2.1)])), (r, .inr (3, [.ref a, .int (iI u.1)])), (a, aI gi 60 u.2.1), (o, .inr (2, [.ref q1, .ref q2, .ref q3, .ref q4, .ref q5, .ref q6, .int (iI cst), .int (iI F), .int (iI u.2.2.2)]))])) 2 12 (va_A [(h, .inr (5, [.ref k1, .ref d, .ref o, .ref w, .ref bu, .int (iI chg), .int (iI rfd)])), (d, .inr (4, [.ref r, .ref r2, .ref n1, .ref n2, .ref sg, .int (iI nn)])), (r, .inr (3, [.ref a, .int (iI t)])), (a, aI gi 60 g), (o, .inr (2, [.ref q1, .ref q2, .ref q3, .ref q4, .ref q5, .ref q6, .int (iI cst), .int (iI F), .int (iI kn)]))] sz) := by
  refine zt_metX (own := RX6) (cc := cX6_cut) (maxL := 3) (by decide) rfl rfl (Nat.le_of_ble_eq_true rfl) ?_
  intro p e s m args below meth c A hAe C hr hlk htab hK hX hZ hP hD hS hA ls hl
  rw [← hAe]
  have hx := C.1
  have hb := C.2.1
  have hml := C.2.2.1
  have hown := C.2.2.2.1
  have hts := C.2.2.2.2
  have i5 : ∀ w ∈ u_ws RX5 TX5 6, w ∈ wsX6_cut := by decide +kernel
  have i6 : ∀ w ∈ u_ws RX6 TX6 7, w ∈ wsX6_cut := by decide +kernel
  have f21 := hts (.fieldLink RX6 21 "Threetwo" "strip" "LThreetwo$Strip;") (by decide +kernel)
  have f28 := hts (.fieldLink RX6 28 "Threetwo" "rhythm" "LThreetwo$Rhythm;") (by decide +kernel)
  have hl : lv_has ls 3 [(0, .ref h), (1, .int (iI f)), (2, .int (iI x))] := hl
  refine lv_aload_n hx hb dX6_cut_0 rfl (lv_at hl 0 rfl) ?_
  refine lv_iload_n hx hb dX6_cut_1 rfl (lv_at hl 1 rfl) ?_
  have hPc := hP.sub (ws' := [(h, .inr (5, [.ref k1, .ref d, .ref o, .ref w, .ref bu, .int (iI chg), .int (iI rfd)])), (d, .inr (4, [.ref r, .ref r2, .ref n1, .ref n2, .ref sg, .int (iI nn)])), (r, .inr (3, [.ref a, .int (iI t)]))]) [0, 1, 2] rfl
  have hDc := hD.sub (ws' := [(h, .inr (5, [.ref k1, .ref d, .ref o, .ref w, .ref bu, .int (iI chg), .int (iI rfd)])), (d, .inr (4, [.ref r, .ref r2, .ref n1, .ref n2, .ref sg, .int (iI nn)])), (r, .inr (3, [.ref a, .int (iI t)]))]) [0, 1, 2] (by decide) rfl
  have hFc := va_free (wc := [(h, .inr (5, [.ref k1, .ref d, .ref o, .ref w, .ref bu, .int (iI chg), .int (iI rfd)])), (d, .inr (4, [.ref r, .ref r2, .ref n1, .ref n2, .ref sg, .int (iI nn)])), (r, .inr (3, [.ref a, .int (iI t)]))]) hD hS hA [0, 1, 2] rfl
  refine vx_callv (vx_runV C (As := [.int (iI f)]) (rest := []) (c_X6_requireFieldX l hfl D gi gc gr s.heap.size h k1 d o w bu chg rfd r2 n1 n2 sg nn r a t f (by first | omega | assumption) (by first | omega | assumption)) (cwV 1 hts gX6_cut_X6_requireField rfl rfl rfl (by decide +kernel) ⟨Nat.le_of_ble_eq_true rfl, Nat.le_of_ble_eq_true rfl⟩) (zt_preVx hK hX hZ hS hFc hPc hDc [.int (iI f)] 0 rfl rfl) rfl rfl hl.1 rfl (lv_room (Nat.le_of_ble_eq_true rfl)) dX6_cut_2 ⟨Nat.le_of_ble_eq_true rfl, Nat.le_of_ble_eq_true rfl⟩) hS (fun q _ h => hFc q h) hFc (fun q _ h => hFc q h) (fun E9 ce9 q9 u_r_1 T9 H1 locs hT9 hvm hw hB hz1 hk1 hS hce hcv hcl => ?_) (fun u_r_1 T9 H1 locs hT9 hvm hw hB hz1 hk1 hS => ?_)
  · try dsimp only at hw
    have hrq_1 := hw
    obtain ⟨hE, hP1, hD1⟩ := hB
    rw [hT9] at hP1
    obtain ⟨hP, hD⟩ := zt_back (w1 := [(h, .inr (5, [.ref k1, .ref d, .ref o, .ref w, .ref bu, .int (iI chg), .int (iI rfd)])), (d, .inr (4, [.ref r, .ref r2, .ref n1, .ref n2, .ref sg, .int (iI nn)])), (r, .inr (3, [.ref a, .int (iI t)]))]) (wr := [(a, aI gi 60 g), (o, .inr (2, [.ref q1, .ref q2, .ref q3, .ref q4, .ref q5, .ref q6, .int (iI cst), .int (iI F), .int (iI kn)]))]) (wn := [(h, .inr (5, [.ref k1, .ref d, .ref o, .ref w, .ref bu, .int (iI chg), .int (iI rfd)])), (d, .inr (4, [.ref r, .ref r2, .ref n1, .ref n2, .ref sg, .int (iI nn)])), (r, .inr (3, [.ref a, .int (iI t)])), (a, aI gi 60 g), (o, .inr (2, [.ref q1, .ref q2, .ref q3, .ref q4, .ref q5, .ref q6, .int (iI cst), .int (iI F), .int (iI kn)]))]) hP hD [0, 1, 2] [3, 4] [2, 3, 4, 0, 1] rfl rfl (by decide) (by decide) hk1 hFc hP1 hD1 rfl (by decide)
    generalize H1 = H at hP hS hce ⊢
    exact zt_outX hlk htab hE hce hcv hcl hS (Nat.le_of_ble_eq_true rfl) (Nat.le_of_ble_eq_true rfl) (t, g, nn, kn) (by refine ⟨?_, ?_, ?_⟩ <;> dsimp only <;> omega) hP hD
  · try dsimp only at hw
    have hrq_1 := hw
    obtain ⟨hP1, hD1⟩ := hB
    rw [hT9] at hP1
    obtain ⟨hP, hD⟩ := zt_back (w1 := [(h, .inr (5, [.ref k1, .ref d, .ref o, .ref w, .ref bu, .int (iI chg), .int (iI rfd)])), (d, .inr (4, [.ref r, .ref r2, .ref n1, .ref n2, .ref sg, .int (iI nn)])), (r, .inr (3, [.ref a, .int (iI t)]))]) (wr := [(a, aI gi 60 g), (o, .inr (2, [.ref q1, .ref q2, .ref q3, .ref q4, .ref q5, .ref q6, .int (iI cst), .int (iI F), .int (iI kn)]))]) (wn := [(h, .inr (5, [.ref k1, .ref d, .ref o, .ref w, .ref bu, .int (iI chg), .int (iI rfd)])), (d, .inr (4, [.ref r, .ref r2, .ref n1, .ref n2, .ref sg, .int (iI nn)])), (r, .inr (3, [.ref a, .int (iI t)])), (a, aI gi 60 g), (o, .inr (2, [.ref q1, .ref q2, .ref q3, .ref q4, .ref q5, .ref q6, .int (iI cst), .int (iI F), .int (iI kn)]))]) hP hD [0, 1, 2] [3, 4] [2, 3, 4, 0, 1] rfl rfl (by decide) (by decide) hk1 hFc hP1 hD1 rfl (by decide)
    generalize H1 = H at hP hS ⊢
    refine lv_iload_n hx hb dX6_cut_5 rfl (lv_at hl 2 rfl) ?_
    refine lv_iconst (v := iI (1)) hx hb dX6_cut_6 (by decide +kernel) ?_
    refine zt_icmp_lt (tgt := 26) hx hb dX6_cut_7 (by decide) (by omega) (fun c_2 => absurd c_2 (by omega)) (fun c_2 => ?_)
    refine lv_iload_n hx hb dX6_cut_10 rfl (lv_at hl 2 rfl) ?_
    refine lv_aload_n hx hb dX6_cut_11 rfl (lv_at hl 0 rfl) ?_
    refine va_get (D := D) (ci := 5) (v := .ref d) (C := RX6) (T := TX6) (N := 7) hx hb hts i6 hown hK.1 hP 0 rfl rfl 1 (by decide) f21 (fun _ h9 => h9) rfl dX6_cut_12 ?_
    refine va_getN (D := D) (ci := 4) (v := .ref r) (C := RX5) (T := TX5) (N := 6) hx hb hts i5 hown hK.1 hP 1 rfl rfl 0 (by decide) (zK.n79 hK _) (fun _ h9 => h9) rfl dX6_cut_15 ?_
    refine zt_callV C (As := []) (rest := [.int (iI x)]) (c_X4_many l D gi gc gr r a t) (cwV 0 hts gX6_cut_X4_many rfl rfl rfl (by decide +kernel) ⟨Nat.le_of_ble_eq_true rfl, Nat.le_of_ble_eq_true rfl⟩) (zt_preV hK (hP.sub (ws' := [(r, .inr (3, [.ref a, .int (iI t)]))]) [2] rfl) [] 0 rfl rfl) rfl hl.1 rfl (Nat.le_of_ble_eq_true rfl) dX6_cut_18 ⟨Nat.le_of_ble_eq_true rfl, Nat.le_of_ble_eq_true rfl⟩ (fun r_3 hr_3 => ?_)
    obtain rfl := hr_3
    refine lv_iload_n hx hb dX6_cut_21 rfl (lv_at hl 1 rfl) ?_
    refine zt_isub hx hb dX6_cut_22 ?_
    refine zt_icmp_le (tgt := 36) hx hb dX6_cut_23 (by decide) (by omega) (fun c_4 => ?_) (fun c_4 => ?_)
    · refine lv_aload_n hx hb dX6_cut_36 rfl (lv_at hl 0 rfl) ?_
      refine va_get (D := D) (ci := 5) (v := .ref d) (C := RX6) (T := TX6) (N := 7) hx hb hts i6 hown hK.1 hP 0 rfl rfl 1 (by decide) f21 (fun _ h9 => h9) rfl dX6_cut_37 ?_
      refine lv_iload_n hx hb dX6_cut_40 rfl (lv_at hl 1 rfl) ?_
      refine lv_iload_n hx hb dX6_cut_41 rfl (lv_at hl 2 rfl) ?_
      have hPc := hP.sub (ws' := [(d, .inr (4, [.ref r, .ref r2, .ref n1, .ref n2, .ref sg, .int (iI nn)])), (r, .inr (3, [.ref a, .int (iI t)])), (a, aI gi 60 g)]) [1, 2, 3] rfl
      have hDc := hD.sub (ws' := [(d, .inr (4, [.ref r, .ref r2, .ref n1, .ref n2, .ref sg, .int (iI nn)])), (r, .inr (3, [.ref a, .int (iI t)])), (a, aI gi 60 g)]) [1, 2, 3] (by decide) rfl
      have hFc := va_free (wc := [(d, .inr (4, [.ref r, .ref r2, .ref n1, .ref n2, .ref sg, .int (iI nn)])), (r, .inr (3, [.ref a, .int (iI t)])), (a, aI gi 60 g)]) hD hS hA [1, 2, 3] rfl
      refine va_callv (va_runV C (As := [.int (iI f), .int (iI x)]) (rest := []) (c_X5_cutOut l D gi gc gr H.size d r2 n1 n2 sg nn r a t g f x (by first | omega | assumption) (by first | omega | assumption) (by first | omega | assumption)) (cwV 2 hts gX6_cut_X5_cutOut rfl rfl rfl (by decide +kernel) ⟨Nat.le_of_ble_eq_true rfl, Nat.le_of_ble_eq_true rfl⟩) (zt_preVw hK hPc hDc [.int (iI f), .int (iI x)] 0 rfl rfl) rfl rfl hl.1 rfl (lv_room (Nat.le_of_ble_eq_true rfl)) dX6_cut_42 ⟨Nat.le_of_ble_eq_true rfl, Nat.le_of_ble_eq_true rfl⟩) hS (fun q _ h => hFc q h) hFc (fun u_r_5 T9 H1 locs hT9 hvm hw hB hz1 hk1 hS => ?_)
      obtain ⟨t_5, g_5⟩ := u_r_5
      try dsimp only at hw
      obtain ⟨hP1, hD1⟩ := hB
      rw [hT9] at hP1
      obtain ⟨hP, hD⟩ := zt_back (w1 := [(d, .inr (4, [.ref r, .ref r2, .ref n1, .ref n2, .ref sg, .int (iI 0)])), (r, .inr (3, [.ref a, .int (iI t_5)])), (a, aI gi 60 g_5)]) (wr := [(h, .inr (5, [.ref k1, .ref d, .ref o, .ref w, .ref bu, .int (iI chg), .int (iI rfd)])), (o, .inr (2, [.ref q1, .ref q2, .ref q3, .ref q4, .ref q5, .ref q6, .int (iI cst), .int (iI F), .int (iI kn)]))]) (wn := [(h, .inr (5, [.ref k1, .ref d, .ref o, .ref w, .ref bu, .int (iI chg), .int (iI rfd)])), (d, .inr (4, [.ref r, .ref r2, .ref n1, .ref n2, .ref sg, .int (iI 0)])), (r, .inr (3, [.ref a, .int (iI t_5)])), (a, aI gi 60 g_5), (o, .inr (2, [.ref q1, .ref q2, .ref q3, .ref q4, .ref q5, .ref q6, .int (iI cst), .int (iI F), .int (iI kn)]))]) hP hD [1, 2, 3] [0, 4] [0, 2, 3, 4, 1] rfl rfl (by decide) (by decide) hk1 hFc hP1 hD1 rfl (by decide)
      generalize H1 = H at hP hS ⊢
      have hw0 := hw
      refine lv_aload_n hx hb dX6_cut_45 rfl (lv_at hl 0 rfl) ?_
      refine va_get (D := D) (ci := 5) (v := .ref o) (C := RX6) (T := TX6) (N := 7) hx hb hts i6 hown hK.1 hP 0 rfl rfl 2 (by decide) f28 (fun _ h9 => h9) rfl dX6_cut_46 ?_
      have hPc := hP.sub (ws' := [(o, .inr (2, [.ref q1, .ref q2, .ref q3, .ref q4, .ref q5, .ref q6, .int (iI cst), .int (iI F), .int (iI kn)]))]) [4] rfl
      have hDc := hD.sub (ws' := [(o, .inr (2, [.ref q1, .ref q2, .ref q3, .ref q4, .ref q5, .ref q6, .int (iI cst), .int (iI F), .int (iI kn)]))]) [4] (by decide) rfl
      have hFc := va_free (wc := [(o, .inr (2, [.ref q1, .ref q2, .ref q3, .ref q4, .ref q5, .ref q6, .int (iI cst), .int (iI F), .int (iI kn)]))]) hD hS hA [4] rfl
      refine va_callv (va_runV C (As := []) (rest := []) (c_X3_forget l D gi gc gr H.size o q1 q2 q3 q4 q5 q6 cst F kn) (cwV 0 hts gX6_cut_X3_forget rfl rfl rfl (by decide +kernel) ⟨Nat.le_of_ble_eq_true rfl, Nat.le_of_ble_eq_true rfl⟩) (zt_preVw hK hPc hDc [] 0 rfl rfl) rfl rfl hl.1 rfl (lv_room (Nat.le_of_ble_eq_true rfl)) dX6_cut_49 ⟨Nat.le_of_ble_eq_true rfl, Nat.le_of_ble_eq_true rfl⟩) hS (fun q _ h => hFc q h) hFc (fun u_r_6 T9 H1 locs hT9 hvm hw hB hz1 hk1 hS => ?_)
      obtain ⟨hP1, hD1⟩ := hB
      rw [hT9] at hP1
      obtain ⟨hP, hD⟩ := zt_back (w1 := [(o, .inr (2, [.ref q1, .ref q2, .ref q3, .ref q4, .ref q5, .ref q6, .int (iI cst), .int (iI F), .int (iI 0)]))]) (wr := [(h, .inr (5, [.ref k1, .ref d, .ref o, .ref w, .ref bu, .int (iI chg), .int (iI rfd)])), (d, .inr (4, [.ref r, .ref r2, .ref n1, .ref n2, .ref sg, .int (iI 0)])), (r, .inr (3, [.ref a, .int (iI t_5)])), (a, aI gi 60 g_5)]) (wn := [(h, .inr (5, [.ref k1, .ref d, .ref o, .ref w, .ref bu, .int (iI chg), .int (iI rfd)])), (d, .inr (4, [.ref r, .ref r2, .ref n1, .ref n2, .ref sg, .int (iI 0)])), (r, .inr (3, [.ref a, .int (iI t_5)])), (a, aI gi 60 g_5), (o, .inr (2, [.ref q1, .ref q2, .ref q3, .ref q4, .ref q5, .ref q6, .int (iI cst), .int (iI F), .int (iI 0)]))]) hP hD [4] [0, 1, 2, 3] [0, 1, 2, 3, 4] rfl rfl (by decide) (by decide) hk1 hFc hP1 hD1 rfl (by decide)
      generalize H1 = H at hP hS ⊢
      refine lv_aload_n hx hb dX6_cut_52 rfl (lv_at hl 0 rfl) ?_
      refine va_get (D := D) (ci := 5) (v := .ref d) (C := RX6) (T := TX6) (N := 7) hx hb hts i6 hown hK.1 hP 0 rfl rfl 1 (by decide) f21 (fun _ h9 => h9) rfl dX6_cut_53 ?_
      refine va_getN (D := D) (ci := 4) (v := .ref r) (C := RX5) (T := TX5) (N := 6) hx hb hts i5 hown hK.1 hP 1 rfl rfl 0 (by decide) (zK.n79 hK _) (fun _ h9 => h9) rfl dX6_cut_56 ?_
      refine zt_callV C (As := []) (rest := []) (c_X4_many l D gi gc gr r a t_5) (cwV 0 hts gX6_cut_X4_many rfl rfl rfl (by decide +kernel) ⟨Nat.le_of_ble_eq_true rfl, Nat.le_of_ble_eq_true rfl⟩) (zt_preV hK (hP.sub (ws' := [(r, .inr (3, [.ref a, .int (iI t_5)]))]) [2] rfl) [] 0 rfl rfl) rfl hl.1 rfl (Nat.le_of_ble_eq_true rfl) dX6_cut_59 ⟨Nat.le_of_ble_eq_true rfl, Nat.le_of_ble_eq_true rfl⟩ (fun r_7 hr_7 => ?_)
      obtain rfl := hr_7
      exact zt_iretX hx hb hr hlk (Nat.le_of_ble_eq_true rfl) (Nat.le_of_ble_eq_true rfl) (t_5, g_5, 0, 0) (by refine ⟨?_, ?_, ?_⟩ <;> dsimp only <;> omega) hP hD hS dX6_cut_62
    · exact zt_throwS (cls := "java/lang/IllegalArgumentException") (text := "there are not so many FIELDS to CUT OUT") (ik := 67) (is := 89) (ic := 71) C hfl hlk htab hX hZ hS hl.1 (by first | exact Or.inl rfl | exact Or.inr (Or.inl rfl) | exact Or.inr (Or.inr rfl)) (by decide +kernel) (by decide +kernel) (by decide +kernel) (by decide +kernel) zx_ng71 zx_ok71 (by decide +kernel) dX6_cut_26 dX6_cut_29 dX6_cut_30 dX6_cut_32 dX6_cut_35 ⟨Nat.le_of_ble_eq_true rfl, Nat.le_of_ble_eq_true rfl, Nat.le_of_ble_eq_true rfl, Nat.le_of_ble_eq_true rfl⟩ (Nat.le_of_ble_eq_true rfl) (Nat.le_of_ble_eq_true rfl) (t, g, nn, kn) (by refine ⟨?_, ?_, ?_⟩ <;> dsimp only <;> omega) hP hD
set_option maxHeartbeats 4000000 in
set_option maxRecDepth 100000 in
theorem c_X6_spoil (l : Launch) (hfl : l.stackTraces = false) (D : va_G) (gi gc gr : ClassId) (sz : Nat) (h : Nat) (k1 : Nat) (d : Nat) (o : Nat) (w : Nat) (bu : Nat) (chg : Int) (rfd : Int) (r2 : Nat) (n1 : Nat) (n2 : Nat) (sg : Nat) (nn : Int) (r : Nat) (a : Nat) (t : Int) (g : Nat → Int) (nf : Nat → Int) (nl : Nat → Int) (q1 : Nat) (q2 : Nat) (q3 : Nat) (q4 : Nat) (q5 : Nat) (q6 : Nat) (cst : Int) (F : Int) (kn : Int) (f : Int) (x : Int) (ht : 0 ≤ t ∧ t ≤ 60) (hnn : 0 ≤ nn ∧ nn ≤ 512) (hf : 0 ≤ f ∧ f < 60) (hx0 : 0 ≤ x ∧ x < 100) : vx_Met l yX6_spoil wsX6_spoil { frames := 7, cells := 2, slots := 12, locals := 116 } (zPx D gi gc gr [(h, .inr (5, [.ref k1, .ref d, .ref o, .ref w, .ref bu, .int (iI chg), .int (iI rfd)])), (d, .inr (4, [.ref r, .ref r2, .ref n1, .ref n2, .ref sg, .int (iI nn)])), (n1, aI gi 512 nf), (n2, aI gi 512 nl), (r, .inr (3, [.ref a, .int (iI t)])), (a, aI gi 60 g), (o, .inr (2, [.ref q1, .ref q2, .ref q3, .ref q4, .ref q5, .ref q6, .int (iI cst), .int (iI F), .int (iI kn)]))] sz [.ref h, .int (iI f), .int (iI x)]) (va_Qi (S := Int × (Nat → Int) × (Nat → Int) × (Nat → Int) × Int) (fun _ u => (fun u => (0 ≤ u.1 ∧ u.1 ≤ 512) ∧ (u.2.2.2.2 = 0 ∨ u.2.2.2.2 = kn)) u) (zB D (va_A [(h, .inr (5, [.ref k1, .ref d, .ref o, .ref w, .ref bu, .int (iI chg), .int (iI rfd)])), (d, .inr (4, [.ref r, .ref r2, .ref n1, .ref n2, .ref sg, .int (iI nn)])), (n1, aI gi 512 nf), (n2, aI gi 512 nl), (r, .inr (3, [.ref a, .int (iI t)])), (a, aI gi 60 g), (o, .inr (2, [.ref q1, .ref q2, .ref q3, .ref q4, .ref q5, .ref q6, .int (iI cst), .int (iI F), .int (iI kn)]))] sz) (fun u => [(h, .inr (5, [.ref k1, .ref d, .ref o, .ref w, .ref bu, .int (iI chg), .int (iI rfd)])), (d, .inr (4, [.ref r, .ref r2, .ref n1, .ref n2, .ref sg, .int (iI u.1)])), (n1, aI gi 512 u.2.1), (n2, aI gi 512 u.2.2.1), (r, .inr (3, [.ref a, .int (iI t)])), (a, aI gi 60 u.2.2.2.1), (o, .inr (2, [.ref q1, .ref q2, .ref q3, .ref q4, .ref q5, .ref q6, .int (iI cst), .int (iI F), .int (iI u.2.2.2.2)]))])) (va_A [(h, .inr (5, [.ref k1, .ref d, .ref o, .ref w, .ref bu, .int (iI chg), .int (iI rfd)])), (d, .inr (4, [.ref r, .ref r2, .ref n1, .ref n2, .ref sg, .int (iI nn)])), (n1, aI gi 512 nf), (n2, aI gi 512 nl), (r, .inr (3, [.ref a, .int (iI t)])), (a, aI gi 60 g), (o, .inr (2, [.ref q1, .ref q2, .ref q3, .ref q4, .ref q5, .ref q6, .int (iI cst), .int (iI F), .int (iI kn)]))] sz)) (zQx (S := Int × (Nat → Int) × (Nat → Int) × (Nat → Int) × Int) (fun u => (0 ≤ u.1 ∧ u.1 ≤ 512) ∧ (u.2.2.2.2 = 0 ∨ u.2.2.2.2 = kn)) D (va_A [(h, .inr (5, [.ref k1, .ref d, .ref o, .ref w, .ref bu, .int (iI chg), .int (iI rfd)])), (d, .inr (4, [.ref r, .ref r2, .ref n1, .ref n2, .ref sg, .int (iI nn)])), (n1, aI gi 512 nf), (n2, aI gi 512 nl), (r, .inr (3, [.ref a, .int (iI t)])), (a, aI gi 60 g), (o, .inr (2, [.ref q1, .ref q2, .ref q3, .ref q4, .ref q5, .ref q6, .int (iI cst), .int (iI F), .int (iI kn)]))] sz) (fun u => [(h, .inr (5, [.ref k1, .ref d, .ref o, .ref w, .ref bu, .int (iI chg), .int (iI rfd)])), (d, .inr (4, [.ref r, .ref r2, .ref n1, .ref n2, .ref sg, .int (iI u.1)])), (n1, aI gi 512 u.2.1), (n2, aI gi 512 u.2.2.1), (r, .inr (3, [.ref a, .int (iI t)])), (a, aI gi 60 u.2.2.2.1), (o, .inr (2, [.ref q1, .ref q2, .ref q3, .ref q4, .ref q5, .ref q6, .int (iI cst), .int (iI F), .int (iI u.2.2.2.2)]))])) 2 12 (va_A [(h, .inr (5, [.ref k1, .ref d, .ref o, .ref w, .ref bu, .int (iI chg), .int (iI rfd)])), (d, .inr (4, [.ref r, .ref r2, .ref n1, .ref n2, .ref sg, .int (iI nn)])), (n1, aI gi 512 nf), (n2, aI gi 512 nl), (r, .inr (3, [.ref a, .int (iI t)])), (a, aI gi 60 g), (o, .inr (2, [.ref q1, .ref q2, .ref q3, .ref q4, .ref q5, .ref q6, .int (iI cst), .int (iI F), .int (iI kn)]))] sz) := by
  refine zt_metX (own := RX6) (cc := cX6_spoil) (maxL := 4) (by decide) rfl rfl (Nat.le_of_ble_eq_true rfl) ?_
  intro p e s m args below meth c A hAe C hr hlk htab hK hX hZ hP hD hS hA ls hl
  rw [← hAe]
  have hx := C.1
  have hb := C.2.1
  have hml := C.2.2.1
  have hown := C.2.2.2.1
  have hts := C.2.2.2.2
  have i5 : ∀ w ∈ u_ws RX5 TX5 6, w ∈ wsX6_spoil := by decide +kernel
  have i6 : ∀ w ∈ u_ws RX6 TX6 7, w ∈ wsX6_spoil := by decide +kernel
  have f21 := hts (.fieldLink RX6 21 "Threetwo" "strip" "LThreetwo$Strip;") (by decide +kernel)
  have f28 := hts (.fieldLink RX6 28 "Threetwo" "rhythm" "LThreetwo$Rhythm;") (by decide +kernel)
  have hl : lv_has ls 4 [(0, .ref h), (1, .int (iI f)), (2, .int (iI x))] := hl
  refine lv_aload_n hx hb dX6_spoil_0 rfl (lv_at hl 0 rfl) ?_
  refine lv_iload_n hx hb dX6_spoil_1 rfl (lv_at hl 1 rfl) ?_
  have hPc := hP.sub (ws' := [(h, .inr (5, [.ref k1, .ref d, .ref o, .ref w, .ref bu, .int (iI chg), .int (iI rfd)])), (d, .inr (4, [.ref r, .ref r2, .ref n1, .ref n2, .ref sg, .int (iI nn)])), (r, .inr (3, [.ref a, .int (iI t)]))]) [0, 1, 4] rfl
  have hDc := hD.sub (ws' := [(h, .inr (5, [.ref k1, .ref d, .ref o, .ref w, .ref bu, .int (iI chg), .int (iI rfd)])), (d, .inr (4, [.ref r, .ref r2, .ref n1, .ref n2, .ref sg, .int (iI nn)])), (r, .inr (3, [.ref a, .int (iI t)]))]) [0, 1, 4] (by decide) rfl
  have hFc := va_free (wc := [(h, .inr (5, [.ref k1, .ref d, .ref o, .ref w, .ref bu, .int (iI chg), .int (iI rfd)])), (d, .inr (4, [.ref r, .ref r2, .ref n1, .ref n2, .ref sg, .int (iI nn)])), (r, .inr (3, [.ref a, .int (iI t)]))]) hD hS hA [0, 1, 4] rfl
  refine vx_callv (vx_runV C (As := [.int (iI f)]) (rest := []) (c_X6_requireFieldX l hfl D gi gc gr s.heap.size h k1 d o w bu chg rfd r2 n1 n2 sg nn r a t f (by first | omega | assumption) (by first | omega | assumption)) (cwV 1 hts gX6_spoil_X6_requireField rfl rfl rfl (by decide +kernel) ⟨Nat.le_of_ble_eq_true rfl, Nat.le_of_ble_eq_true rfl⟩) (zt_preVx hK hX hZ hS hFc hPc hDc [.int (iI f)] 0 rfl rfl) rfl rfl hl.1 rfl (lv_room (Nat.le_of_ble_eq_true rfl)) dX6_spoil_2 ⟨Nat.le_of_ble_eq_true rfl, Nat.le_of_ble_eq_true rfl⟩) hS (fun q _ h => hFc q h) hFc (fun q _ h => hFc q h) (fun E9 ce9 q9 u_r_1 T9 H1 locs hT9 hvm hw hB hz1 hk1 hS hce hcv hcl => ?_) (fun u_r_1 T9 H1 locs hT9 hvm hw hB hz1 hk1 hS => ?_)
  · try dsimp only at hw
    have hrq_1 := hw
    obtain ⟨hE, hP1, hD1⟩ := hB
    rw [hT9] at hP1
    obtain ⟨hP, hD⟩ := zt_back (w1 := [(h, .inr (5, [.ref k1, .ref d, .ref o, .ref w, .ref bu, .int (iI chg), .int (iI rfd)])), (d, .inr (4, [.ref r, .ref r2, .ref n1, .ref n2, .ref sg, .int (iI nn)])), (r, .inr (3, [.ref a, .int (iI t)]))]) (wr := [(n1, aI gi 512 nf), (n2, aI gi 512 nl), (a, aI gi 60 g), (o, .inr (2, [.ref q1, .ref q2, .ref q3, .ref q4, .ref q5, .ref q6, .int (iI cst), .int (iI F), .int (iI kn)]))]) (wn := [(h, .inr (5, [.ref k1, .ref d, .ref o, .ref w, .ref bu, .int (iI chg), .int (iI rfd)])), (d, .inr (4, [.ref r, .ref r2, .ref n1, .ref n2, .ref sg, .int (iI nn)])), (n1, aI gi 512 nf), (n2, aI gi 512 nl), (r, .inr (3, [.ref a, .int (iI t)])), (a, aI gi 60 g), (o, .inr (2, [.ref q1, .ref q2, .ref q3, .ref q4, .ref q5, .ref q6, .int (iI cst), .int (iI F), .int (iI kn)]))]) hP hD [0, 1, 4] [2, 3, 5, 6] [4, 5, 0, 1, 6, 2, 3] rfl rfl (by decide) (by decide) hk1 hFc hP1 hD1 rfl (by decide)
    generalize H1 = H at hP hS hce ⊢
    exact zt_outX hlk htab hE hce hcv hcl hS (Nat.le_of_ble_eq_true rfl) (Nat.le_of_ble_eq_true rfl) (nn, nf, nl, g, kn) (by refine ⟨?_, ?_⟩ <;> dsimp only <;> omega) hP hD
  · try dsimp only at hw
    have hrq_1 := hw
    obtain ⟨hP1, hD1⟩ := hB
    rw [hT9] at hP1
    obtain ⟨hP, hD⟩ := zt_back (w1 := [(h, .inr (5, [.ref k1, .ref d, .ref o, .ref w, .ref bu, .int (iI chg), .int (iI rfd)])), (d, .inr (4, [.ref r, .ref r2, .ref n1, .ref n2, .ref sg, .int (iI nn)])), (r, .inr (3, [.ref a, .int (iI t)]))]) (wr := [(n1, aI gi 512 nf), (n2, aI gi 512 nl), (a, aI gi 60 g), (o, .inr (2, [.ref q1, .ref q2, .ref q3, .ref q4, .ref q5, .ref q6, .int (iI cst), .int (iI F), .int (iI kn)]))]) (wn := [(h, .inr (5, [.ref k1, .ref d, .ref o, .ref w, .ref bu, .int (iI chg), .int (iI rfd)])), (d, .inr (4, [.ref r, .ref r2, .ref n1, .ref n2, .ref sg, .int (iI nn)])), (n1, aI gi 512 nf), (n2, aI gi 512 nl), (r, .inr (3, [.ref a, .int (iI t)])), (a, aI gi 60 g), (o, .inr (2, [.ref q1, .ref q2, .ref q3, .ref q4, .ref q5, .ref q6, .int (iI cst), .int (iI F), .int (iI kn)]))]) hP hD [0, 1, 4] [2, 3, 5, 6] [4, 5, 0, 1, 6, 2, 3] rfl rfl (by decide) (by decide) hk1 hFc hP1 hD1 rfl (by decide)
    generalize H1 = H at hP hS ⊢
    refine lv_iload_n hx hb dX6_spoil_5 rfl (lv_at hl 2 rfl) ?_
    refine zt_callSv C (As := [.int (iI x)]) (rest := []) (c_X6_requireLook l D gi gc gr x (by first | omega | assumption)) (va_cwS 1 hts gX6_spoil_X6_requireLook rfl rfl rfl (by decide +kernel) ⟨Nat.le_of_ble_eq_true rfl, Nat.le_of_ble_eq_true rfl⟩) (zt_preS hK (hP.sub (ws' := []) [] rfl) [.int (iI x)]) rfl hl.1 rfl (Nat.le_of_ble_eq_true rfl) dX6_spoil_6 ⟨Nat.le_of_ble_eq_true rfl, Nat.le_of_ble_eq_true rfl⟩ (fun hr_2 => ?_)
    refine lv_aload_n hx hb dX6_spoil_9 rfl (lv_at hl 0 rfl) ?_
    refine va_get (D := D) (ci := 5) (v := .ref d) (C := RX6) (T := TX6) (N := 7) hx hb hts i6 hown hK.1 hP 0 rfl rfl 1 (by decide) f21 (fun _ h9 => h9) rfl dX6_spoil_10 ?_
    refine va_getN (D := D) (ci := 4) (v := .ref r) (C := RX5) (T := TX5) (N := 6) hx hb hts i5 hown hK.1 hP 1 rfl rfl 0 (by decide) (zK.n79 hK _) (fun _ h9 => h9) rfl dX6_spoil_13 ?_
    refine lv_iload_n hx hb dX6_spoil_16 rfl (lv_at hl 1 rfl) ?_
    refine zt_callV C (As := [.int (iI f)]) (rest := []) (c_X4_at l D gi gc gr r a 60 t g f (by first | omega | assumption) (by first | omega | assumption) (by first | omega | assumption)) (cwV 1 hts gX6_spoil_X4_at rfl rfl rfl (by decide +kernel) ⟨Nat.le_of_ble_eq_true rfl, Nat.le_of_ble_eq_true rfl⟩) (zt_preV hK (hP.sub (ws' := [(r, .inr (3, [.ref a, .int (iI t)])), (a, aI gi 60 g)]) [4, 5] rfl) [.int (iI f)] 0 rfl rfl) rfl hl.1 rfl (Nat.le_of_ble_eq_true rfl) dX6_spoil_17 ⟨Nat.le_of_ble_eq_true rfl, Nat.le_of_ble_eq_true rfl⟩ (fun r_3 hr_3 => ?_)
    obtain rfl := hr_3
    refine lv_istore_n (lv' := [(3, .int (iI (g f.toNat))), (0, .ref h), (1, .int (iI f)), (2, .int (iI x))]) hx hb dX6_spoil_20 rfl hl (by decide) rfl (fun ls hl => ?_)
    refine lv_aload_n hx hb dX6_spoil_21 rfl (lv_at hl 1 rfl) ?_
    refine va_get (D := D) (ci := 5) (v := .ref d) (C := RX6) (T := TX6) (N := 7) hx hb hts i6 hown hK.1 hP 0 rfl rfl 1 (by decide) f21 (fun _ h9 => h9) rfl dX6_spoil_22 ?_
    refine lv_iload_n hx hb dX6_spoil_25 rfl (lv_at hl 2 rfl) ?_
    refine lv_iload_n hx hb dX6_spoil_26 rfl (lv_at hl 3 rfl) ?_
    have hPc := hP.sub (ws' := [(d, .inr (4, [.ref r, .ref r2, .ref n1, .ref n2, .ref sg, .int (iI nn)])), (n1, aI gi 512 nf), (n2, aI gi 512 nl), (r, .inr (3, [.ref a, .int (iI t)])), (a, aI gi 60 g)]) [1, 2, 3, 4, 5] rfl
    have hDc := hD.sub (ws' := [(d, .inr (4, [.ref r, .ref r2, .ref n1, .ref n2, .ref sg, .int (iI nn)])), (n1, aI gi 512 nf), (n2, aI gi 512 nl), (r, .inr (3, [.ref a, .int (iI t)])), (a, aI gi 60 g)]) [1, 2, 3, 4, 5] (by decide) rfl
    have hFc := va_free (wc := [(d, .inr (4, [.ref r, .ref r2, .ref n1, .ref n2, .ref sg, .int (iI nn)])), (n1, aI gi 512 nf), (n2, aI gi 512 nl), (r, .inr (3, [.ref a, .int (iI t)])), (a, aI gi 60 g)]) hD hS hA [1, 2, 3, 4, 5] rfl
    refine va_callv (va_runV C (As := [.int (iI f), .int (iI x)]) (rest := []) (c_X5_note l D gi gc gr H.size d r2 n1 n2 sg nn r a t g nf nl f x (by first | omega | assumption) (by first | omega | assumption) (by first | omega | assumption)) (cwV 2 hts gX6_spoil_X5_note rfl rfl rfl (by decide +kernel) ⟨Nat.le_of_ble_eq_true rfl, Nat.le_of_ble_eq_true rfl⟩) (zt_preVw hK hPc hDc [.int (iI f), .int (iI x)] 0 rfl rfl) rfl rfl hl.1 rfl (lv_room (Nat.le_of_ble_eq_true rfl)) dX6_spoil_27 ⟨Nat.le_of_ble_eq_true rfl, Nat.le_of_ble_eq_true rfl⟩) hS (fun q _ h => hFc q h) hFc (fun u_r_4 T9 H1 locs hT9 hvm hw hB hz1 hk1 hS => ?_)
    obtain ⟨nn_4, nf_4, nl_4, g_4⟩ := u_r_4
    try dsimp only at hw
    obtain ⟨hP1, hD1⟩ := hB
    rw [hT9] at hP1
    obtain ⟨hP, hD⟩ := zt_back (w1 := [(d, .inr (4, [.ref r, .ref r2, .ref n1, .ref n2, .ref sg, .int (iI nn_4)])), (n1, aI gi 512 nf_4), (n2, aI gi 512 nl_4), (r, .inr (3, [.ref a, .int (iI t)])), (a, aI gi 60 g_4)]) (wr := [(h, .inr (5, [.ref k1, .ref d, .ref o, .ref w, .ref bu, .int (iI chg), .int (iI rfd)])), (o, .inr (2, [.ref q1, .ref q2, .ref q3, .ref q4, .ref q5, .ref q6, .int (iI cst), .int (iI F), .int (iI kn)]))]) (wn := [(h, .inr (5, [.ref k1, .ref d, .ref o, .ref w, .ref bu, .int (iI chg), .int (iI rfd)])), (d, .inr (4, [.ref r, .ref r2, .ref n1, .ref n2, .ref sg, .int (iI nn_4)])), (n1, aI gi 512 nf_4), (n2, aI gi 512 nl_4), (r, .inr (3, [.ref a, .int (iI t)])), (a, aI gi 60 g_4), (o, .inr (2, [.ref q1, .ref q2, .ref q3, .ref q4, .ref q5, .ref q6, .int (iI cst), .int (iI F), .int (iI kn)]))]) hP hD [1, 2, 3, 4, 5] [0, 6] [0, 2, 3, 4, 5, 6, 1] rfl rfl (by decide) (by decide) hk1 hFc hP1 hD1 rfl (by decide)
    generalize H1 = H at hP hS ⊢
    have hw0 := hw
    try dsimp only at hw0
    refine lv_aload_n hx hb dX6_spoil_30 rfl (lv_at hl 1 rfl) ?_
    refine va_get (D := D) (ci := 5) (v := .ref o) (C := RX6) (T := TX6) (N := 7) hx hb hts i6 hown hK.1 hP 0 rfl rfl 2 (by decide) f28 (fun _ h9 => h9) rfl dX6_spoil_31 ?_
    have hPc := hP.sub (ws' := [(o, .inr (2, [.ref q1, .ref q2, .ref q3, .ref q4, .ref q5, .ref q6, .int (iI cst), .int (iI F), .int (iI kn)]))]) [6] rfl
    have hDc := hD.sub (ws' := [(o, .inr (2, [.ref q1, .ref q2, .ref q3, .ref q4, .ref q5, .ref q6, .int (iI cst), .int (iI F), .int (iI kn)]))]) [6] (by decide) rfl
    have hFc := va_free (wc := [(o, .inr (2, [.ref q1, .ref q2, .ref q3, .ref q4, .ref q5, .ref q6, .int (iI cst), .int (iI F), .int (iI kn)]))]) hD hS hA [6] rfl
    refine va_callv (va_runV C (As := []) (rest := []) (c_X3_forget l D gi gc gr H.size o q1 q2 q3 q4 q5 q6 cst F kn) (cwV 0 hts gX6_spoil_X3_forget rfl rfl rfl (by decide +kernel) ⟨Nat.le_of_ble_eq_true rfl, Nat.le_of_ble_eq_true rfl⟩) (zt_preVw hK hPc hDc [] 0 rfl rfl) rfl rfl hl.1 rfl (lv_room (Nat.le_of_ble_eq_true rfl)) dX6_spoil_34 ⟨Nat.le_of_ble_eq_true rfl, Nat.le_of_ble_eq_true rfl⟩) hS (fun q _ h => hFc q h) hFc (fun u_r_5 T9 H1 locs hT9 hvm hw hB hz1 hk1 hS => ?_)
    obtain ⟨hP1, hD1⟩ := hB
    rw [hT9] at hP1
    obtain ⟨hP, hD⟩ := zt_back (w1 := [(o, .inr (2, [.ref q1, .ref q2, .ref q3, .ref q4, .ref q5, .ref q6, .int (iI cst), .int (iI F), .int (iI 0)]))]) (wr := [(h, .inr (5, [.ref k1, .ref d, .ref o, .ref w, .ref bu, .int (iI chg), .int (iI rfd)])), (d, .inr (4, [.ref r, .ref r2, .ref n1, .ref n2, .ref sg, .int (iI nn_4)])), (n1, aI gi 512 nf_4), (n2, aI gi 512 nl_4), (r, .inr (3, [.ref a, .int (iI t)])), (a, aI gi 60 g_4)]) (wn := [(h, .inr (5, [.ref k1, .ref d, .ref o, .ref w, .ref bu, .int (iI chg), .int (iI rfd)])), (d, .inr (4, [.ref r, .ref r2, .ref n1, .ref n2, .ref sg, .int (iI nn_4)])), (n1, aI gi 512 nf_4), (n2, aI gi 512 nl_4), (r, .inr (3, [.ref a, .int (iI t)])), (a, aI gi 60 g_4), (o, .inr (2, [.ref q1, .ref q2, .ref q3, .ref q4, .ref q5, .ref q6, .int (iI cst), .int (iI F), .int (iI 0)]))]) hP hD [6] [0, 1, 2, 3, 4, 5] [0, 1, 2, 3, 4, 5, 6] rfl rfl (by decide) (by decide) hk1 hFc hP1 hD1 rfl (by decide)
    generalize H1 = H at hP hS ⊢
    refine lv_iload_n hx hb dX6_spoil_37 rfl (lv_at hl 0 rfl) ?_
    exact zt_iretX hx hb hr hlk (Nat.le_of_ble_eq_true rfl) (Nat.le_of_ble_eq_true rfl) (nn_4, nf_4, nl_4, g_4, 0) (by refine ⟨?_, ?_⟩ <;> dsimp only <;> omega) hP hD hS dX6_spoil_38
set_option maxHeartbeats 4000000 in
set_option maxRecDepth 100000 in
theorem c_X6_print (l : Launch) (hfl : l.stackTraces = false) (D : va_G) (gi gc gr : ClassId) (sz : Nat) (h : Nat) (k1 : Nat) (d : Nat) (o : Nat) (w : Nat) (bu : Nat) (chg : Int) (rfd : Int) (rw : Nat) (bq : Nat) (sq : Nat) (mp : Int) (hmp : 0 ≤ mp ∧ mp ≤ 3) : vx_Met l yX6_print wsX6_print { frames := 6, cells := 2, slots := 12, locals := 95 } (zPx D gi gc gr [(h, .inr (5, [.ref k1, .ref d, .ref o, .ref w, .ref bu, .int (iI chg), .int (iI rfd)])), (w, .inr (1, [.ref rw, .ref bq, .ref sq, .int (iI mp)]))] sz [.ref h]) (va_Qi (S := Int) (fun _ u => (fun u => 0 ≤ u ∧ u ≤ 3) u) (zB D (va_A [(h, .inr (5, [.ref k1, .ref d, .ref o, .ref w, .ref bu, .int (iI chg), .int (iI rfd)])), (w, .inr (1, [.ref rw, .ref bq, .ref sq, .int (iI mp)]))] sz) (fun u => [(h, .inr (5, [.ref k1, .ref d, .ref o, .ref w, .ref bu, .int (iI chg), .int (iI rfd)])), (w, .inr (1, [.ref rw, .ref bq, .ref sq, .int (iI u)]))])) (va_A [(h, .inr (5, [.ref k1, .ref d, .ref o, .ref w, .ref bu, .int (iI chg), .int (iI rfd)])), (w, .inr (1, [.ref rw, .ref bq, .ref sq, .int (iI mp)]))] sz)) (zQx (S := Int) (fun u => 0 ≤ u ∧ u ≤ 3) D (va_A [(h, .inr (5, [.ref k1, .ref d, .ref o, .ref w, .ref bu, .int (iI chg), .int (iI rfd)])), (w, .inr (1, [.ref rw, .ref bq, .ref sq, .int (iI mp)]))] sz) (fun u => [(h, .inr (5, [.ref k1, .ref d, .ref o, .ref w, .ref bu, .int (iI chg), .int (iI rfd)])), (w, .inr (1, [.ref rw, .ref bq, .ref sq, .int (iI u)]))])) 2 12 (va_A [(h, .inr (5, [.ref k1, .ref d, .ref o, .ref w, .ref bu, .int (iI chg), .int (iI rfd)])), (w, .inr (1, [.ref rw, .ref bq, .ref sq, .int (iI mp)]))] sz) := by
  refine zt_metX (own := RX6) (cc := cX6_print) (maxL := 2) (by decide) rfl rfl (Nat.le_of_ble_eq_true rfl) ?_
  intro p e s m args below meth c A hAe C hr hlk htab hK hX hZ hP hD hS hA ls hl
  rw [← hAe]
  have hx := C.1
  have hb := C.2.1
  have hml := C.2.2.1
  have hown := C.2.2.2.1
  have hts := C.2.2.2.2
  have i6 : ∀ w ∈ u_ws RX6 TX6 7, w ∈ wsX6_print := by decide +kernel
  have f35 := hts (.fieldLink RX6 35 "Threetwo" "prints" "LThreetwo$Prints;") (by decide +kernel)
  have hl : lv_has ls 2 [(0, .ref h)] := hl
  refine lv_aload_n hx hb dX6_print_0 rfl (lv_at hl 0 rfl) ?_
  refine va_get (D := D) (ci := 5) (v := .ref w) (C := RX6) (T := TX6) (N := 7) hx hb hts i6 hown hK.1 hP 0 rfl rfl 3 (by decide) f35 (fun _ h9 => h9) rfl dX6_print_1 ?_
  have hPc := hP.sub (ws' := [(w, .inr (1, [.ref rw, .ref bq, .ref sq, .int (iI mp)]))]) [1] rfl
  have hDc := hD.sub (ws' := [(w, .inr (1, [.ref rw, .ref bq, .ref sq, .int (iI mp)]))]) [1] (by decide) rfl
  have hFc := va_free (wc := [(w, .inr (1, [.ref rw, .ref bq, .ref sq, .int (iI mp)]))]) hD hS hA [1] rfl
  refine va_calli (va_runV C (As := []) (rest := []) (c_X2_begin l D gi gc gr s.heap.size w rw bq sq mp (by first | omega | assumption)) (cwV 0 hts gX6_print_X2_begin rfl rfl rfl (by decide +kernel) ⟨Nat.le_of_ble_eq_true rfl, Nat.le_of_ble_eq_true rfl⟩) (zt_preVw hK hPc hDc [] 0 rfl rfl) rfl rfl hl.1 rfl (lv_room (Nat.le_of_ble_eq_true rfl)) dX6_print_4 ⟨Nat.le_of_ble_eq_true rfl, Nat.le_of_ble_eq_true rfl⟩) hS (fun q _ h => hFc q h) hFc (fun r_1 u_r_1 T9 H1 locs hT9 hvm hw hB hz1 hk1 hS => ?_)
  obtain ⟨z_1, rfl, hz_1⟩ := hw
  obtain ⟨hP1, hD1⟩ := hB
  rw [hT9] at hP1
  obtain ⟨hP, hD⟩ := zt_back (w1 := [(w, .inr (1, [.ref rw, .ref bq, .ref sq, .int (iI u_r_1)]))]) (wr := [(h, .inr (5, [.ref k1, .ref d, .ref o, .ref w, .ref bu, .int (iI chg), .int (iI rfd)]))]) (wn := [(h, .inr (5, [.ref k1, .ref d, .ref o, .ref w, .ref bu, .int (iI chg), .int (iI rfd)])), (w, .inr (1, [.ref rw, .ref bq, .ref sq, .int (iI u_r_1)]))]) hP hD [1] [0] [0, 1] rfl rfl (by decide) (by decide) hk1 hFc hP1 hD1 rfl (by decide)
  generalize H1 = H at hP hS ⊢
  refine lv_istore_n (lv' := [(1, .int (iI z_1)), (0, .ref h)]) hx hb dX6_print_7 rfl hl (by decide) rfl (fun ls hl => ?_)
  refine lv_iload_n hx hb dX6_print_8 rfl (lv_at hl 0 rfl) ?_
  refine lv_iconst (v := iI (-1)) hx hb dX6_print_9 (by decide +kernel) ?_
  refine zt_icmp_ne (tgt := 23) hx hb dX6_print_10 (by decide) (by omega) (fun c_2 => ?_) (fun c_2 => ?_)
  · refine lv_iload_n hx hb dX6_print_23 rfl (lv_at hl 0 rfl) ?_
    exact zt_iretX hx hb hr hlk (Nat.le_of_ble_eq_true rfl) (Nat.le_of_ble_eq_true rfl) u_r_1 (by (try dsimp only); omega) hP hD hS dX6_print_24
  · exact zt_throwS (cls := "java/lang/IllegalStateException") (text := "there are three PRINTS") (ik := 60) (is := 109) (ic := 64) C hfl hlk htab hX hZ hS hl.1 (by first | exact Or.inl rfl | exact Or.inr (Or.inl rfl) | exact Or.inr (Or.inr rfl)) (by decide +kernel) (by decide +kernel) (by decide +kernel) (by decide +kernel) zx_ng64 zx_ok64 (by decide +kernel) dX6_print_13 dX6_print_16 dX6_print_17 dX6_print_19 dX6_print_22 ⟨Nat.le_of_ble_eq_true rfl, Nat.le_of_ble_eq_true rfl, Nat.le_of_ble_eq_true rfl, Nat.le_of_ble_eq_true rfl⟩ (Nat.le_of_ble_eq_true rfl) (Nat.le_of_ble_eq_true rfl) u_r_1 (by (try dsimp only); omega) hP hD
set_option maxHeartbeats 16000000 in
set_option maxRecDepth 100000 in
theorem c_X6_look (l : Launch) (hfl : l.stackTraces = false) (D : va_G) (gi gc gr : ClassId) (sz : Nat) (h : Nat) (k1 : Nat) (d : Nat) (o : Nat) (w : Nat) (bu : Nat) (chg : Int) (rfd : Int) (rw : Nat) (bq : Nat) (sq : Nat) (mp : Int) (ra : Nat → Nat) (ia : Nat → Nat) (tn : Nat → Int) (gs : Nat → Nat → Int) (x1 : Int) (x : Int) (htn : ∀ k : Nat, k < 3 → 0 ≤ tn k ∧ tn k ≤ 10) (hgs : ∀ k : Nat, k < 3 → ∀ j : Nat, (j : Int) < tn k → 0 ≤ gs k j ∧ gs k j ≤ 99) (hmp : 0 ≤ mp ∧ mp ≤ 3) (hx1 : 0 ≤ x1 ∧ x1 < 3) (hx0 : 0 ≤ x ∧ x ≤ 99) : vx_Met l yX6_look wsX6_look { frames := 7, cells := 2, slots := 12, locals := 116 } (zPx D gi gc gr [(h, .inr (5, [.ref k1, .ref d, .ref o, .ref w, .ref bu, .int (iI chg), .int (iI rfd)])), (w, .inr (1, [.ref rw, .ref bq, .ref sq, .int (iI mp)])), (rw, .inl (gr, 3, .inr (.inr (.inr (.inr (rF ra)))))), ((ra 0), .inr (3, [.ref (ia 0), .int (iI (tn 0))])), ((ia 0), aI gi 10 (gs 0)), ((ra 1), .inr (3, [.ref (ia 1), .int (iI (tn 1))])), ((ia 1), aI gi 10 (gs 1)), ((ra 2), .inr (3, [.ref (ia 2), .int (iI (tn 2))])), ((ia 2), aI gi 10 (gs 2))] sz [.ref h, .int (iI x1), .int (iI x)]) (va_Qi (S := (Nat → Int) × (Nat → Nat → Int)) (fun _ u => (fun u => (∀ k : Nat, k < 3 → 0 ≤ u.1 k ∧ u.1 k ≤ 10) ∧ ∀ k : Nat, k < 3 → ∀ j : Nat, (j : Int) < u.1 k → 0 ≤ u.2 k j ∧ u.2 k j ≤ 99) u) (zB D (va_A [(h, .inr (5, [.ref k1, .ref d, .ref o, .ref w, .ref bu, .int (iI chg), .int (iI rfd)])), (w, .inr (1, [.ref rw, .ref bq, .ref sq, .int (iI mp)])), (rw, .inl (gr, 3, .inr (.inr (.inr (.inr (rF ra)))))), ((ra 0), .inr (3, [.ref (ia 0), .int (iI (tn 0))])), ((ia 0), aI gi 10 (gs 0)), ((ra 1), .inr (3, [.ref (ia 1), .int (iI (tn 1))])), ((ia 1), aI gi 10 (gs 1)), ((ra 2), .inr (3, [.ref (ia 2), .int (iI (tn 2))])), ((ia 2), aI gi 10 (gs 2))] sz) (fun u => [(h, .inr (5, [.ref k1, .ref d, .ref o, .ref w, .ref bu, .int (iI chg), .int (iI rfd)])), (w, .inr (1, [.ref rw, .ref bq, .ref sq, .int (iI mp)])), (rw, .inl (gr, 3, .inr (.inr (.inr (.inr (rF ra)))))), (ra 0, .inr (3, [.ref (ia 0), .int (iI (u.1 0))])), (ia 0, aI gi 10 (u.2 0)), (ra 1, .inr (3, [.ref (ia 1), .int (iI (u.1 1))])), (ia 1, aI gi 10 (u.2 1)), (ra 2, .inr (3, [.ref (ia 2), .int (iI (u.1 2))])), (ia 2, aI gi 10 (u.2 2))])) (va_A [(h, .inr (5, [.ref k1, .ref d, .ref o, .ref w, .ref bu, .int (iI chg), .int (iI rfd)])), (w, .inr (1, [.ref rw, .ref bq, .ref sq, .int (iI mp)])), (rw, .inl (gr, 3, .inr (.inr (.inr (.inr (rF ra)))))), ((ra 0), .inr (3, [.ref (ia 0), .int (iI (tn 0))])), ((ia 0), aI gi 10 (gs 0)), ((ra 1), .inr (3, [.ref (ia 1), .int (iI (tn 1))])), ((ia 1), aI gi 10 (gs 1)), ((ra 2), .inr (3, [.ref (ia 2), .int (iI (tn 2))])), ((ia 2), aI gi 10 (gs 2))] sz)) (zQx (S := (Nat → Int) × (Nat → Nat → Int)) (fun u => (∀ k : Nat, k < 3 → 0 ≤ u.1 k ∧ u.1 k ≤ 10) ∧ ∀ k : Nat, k < 3 → ∀ j : Nat, (j : Int) < u.1 k → 0 ≤ u.2 k j ∧ u.2 k j ≤ 99) D (va_A [(h, .inr (5, [.ref k1, .ref d, .ref o, .ref w, .ref bu, .int (iI chg), .int (iI rfd)])), (w, .inr (1, [.ref rw, .ref bq, .ref sq, .int (iI mp)])), (rw, .inl (gr, 3, .inr (.inr (.inr (.inr (rF ra)))))), ((ra 0), .inr (3, [.ref (ia 0), .int (iI (tn 0))])), ((ia 0), aI gi 10 (gs 0)), ((ra 1), .inr (3, [.ref (ia 1), .int (iI (tn 1))])), ((ia 1), aI gi 10 (gs 1)), ((ra 2), .inr (3, [.ref (ia 2), .int (iI (tn 2))])), ((ia 2), aI gi 10 (gs 2))] sz) (fun u => [(h, .inr (5, [.ref k1, .ref d, .ref o, .ref w, .ref bu, .int (iI chg), .int (iI rfd)])), (w, .inr (1, [.ref rw, .ref bq, .ref sq, .int (iI mp)])), (rw, .inl (gr, 3, .inr (.inr (.inr (.inr (rF ra)))))), (ra 0, .inr (3, [.ref (ia 0), .int (iI (u.1 0))])), (ia 0, aI gi 10 (u.2 0)), (ra 1, .inr (3, [.ref (ia 1), .int (iI (u.1 1))])), (ia 1, aI gi 10 (u.2 1)), (ra 2, .inr (3, [.ref (ia 2), .int (iI (u.1 2))])), (ia 2, aI gi 10 (u.2 2))])) 2 12 (va_A [(h, .inr (5, [.ref k1, .ref d, .ref o, .ref w, .ref bu, .int (iI chg), .int (iI rfd)])), (w, .inr (1, [.ref rw, .ref bq, .ref sq, .int (iI mp)])), (rw, .inl (gr, 3, .inr (.inr (.inr (.inr (rF ra)))))), ((ra 0), .inr (3, [.ref (ia 0), .int (iI (tn 0))])), ((ia 0), aI gi 10 (gs 0)), ((ra 1), .inr (3, [.ref (ia 1), .int (iI (tn 1))])), ((ia 1), aI gi 10 (gs 1)), ((ra 2), .inr (3, [.ref (ia 2), .int (iI (tn 2))])), ((ia 2), aI gi 10 (gs 2))] sz) := by
  refine zt_metX (own := RX6) (cc := cX6_look) (maxL := 4) (by decide) rfl rfl (Nat.le_of_ble_eq_true rfl) ?_
  intro p e s m args below meth c A hAe C hr hlk htab hK hX hZ hP hD hS hA ls hl
  rw [← hAe]
  have hx := C.1
  have hb := C.2.1
  have hml := C.2.2.1
  have hown := C.2.2.2.1
  have hts := C.2.2.2.2
  have i6 : ∀ w ∈ u_ws RX6 TX6 7, w ∈ wsX6_look := by decide +kernel
  have f35 := hts (.fieldLink RX6 35 "Threetwo" "prints" "LThreetwo$Prints;") (by decide +kernel)
  have hl : lv_has ls 4 [(0, .ref h), (1, .int (iI x1)), (2, .int (iI x))] := hl
  refine lv_aload_n hx hb dX6_look_0 rfl (lv_at hl 0 rfl) ?_
  refine lv_iload_n hx hb dX6_look_1 rfl (lv_at hl 1 rfl) ?_
  have hPc := hP.sub (ws' := [(h, .inr (5, [.ref k1, .ref d, .ref o, .ref w, .ref bu, .int (iI chg), .int (iI rfd)])), (w, .inr (1, [.ref rw, .ref bq, .ref sq, .int (iI mp)]))]) [0, 1] rfl
  have hDc := hD.sub (ws' := [(h, .inr (5, [.ref k1, .ref d, .ref o, .ref w, .ref bu, .int (iI chg), .int (iI rfd)])), (w, .inr (1, [.ref rw, .ref bq, .ref sq, .int (iI mp)]))]) [0, 1] (by decide) rfl
  have hFc := va_free (wc := [(h, .inr (5, [.ref k1, .ref d, .ref o, .ref w, .ref bu, .int (iI chg), .int (iI rfd)])), (w, .inr (1, [.ref rw, .ref bq, .ref sq, .int (iI mp)]))]) hD hS hA [0, 1] rfl
  refine vx_callv (vx_runV C (As := [.int (iI x1)]) (rest := []) (c_X6_requirePrintX l hfl D gi gc gr s.heap.size h k1 d o w bu chg rfd rw bq sq mp x1 (by first | omega | assumption) (by first | omega | assumption)) (cwV 1 hts gX6_look_X6_requirePrint rfl rfl rfl (by decide +kernel) ⟨Nat.le_of_ble_eq_true rfl, Nat.le_of_ble_eq_true rfl⟩) (zt_preVx hK hX hZ hS hFc hPc hDc [.int (iI x1)] 0 rfl rfl) rfl rfl hl.1 rfl (lv_room (Nat.le_of_ble_eq_true rfl)) dX6_look_2 ⟨Nat.le_of_ble_eq_true rfl, Nat.le_of_ble_eq_true rfl⟩) hS (fun q _ h => hFc q h) hFc (fun q _ h => hFc q h) (fun E9 ce9 q9 u_r_1 T9 H1 locs hT9 hvm hw hB hz1 hk1 hS hce hcv hcl => ?_) (fun u_r_1 T9 H1 locs hT9 hvm hw hB hz1 hk1 hS => ?_)
  · try dsimp only at hw
    have hrq_1 := hw
    obtain ⟨hE, hP1, hD1⟩ := hB
    rw [hT9] at hP1
    obtain ⟨hP, hD⟩ := zt_back (w1 := [(h, .inr (5, [.ref k1, .ref d, .ref o, .ref w, .ref bu, .int (iI chg), .int (iI rfd)])), (w, .inr (1, [.ref rw, .ref bq, .ref sq, .int (iI mp)]))]) (wr := [(rw, .inl (gr, 3, .inr (.inr (.inr (.inr (rF ra)))))), ((ra 0), .inr (3, [.ref (ia 0), .int (iI (tn 0))])), ((ia 0), aI gi 10 (gs 0)), ((ra 1), .inr (3, [.ref (ia 1), .int (iI (tn 1))])), ((ia 1), aI gi 10 (gs 1)), ((ra 2), .inr (3, [.ref (ia 2), .int (iI (tn 2))])), ((ia 2), aI gi 10 (gs 2))]) (wn := [(h, .inr (5, [.ref k1, .ref d, .ref o, .ref w, .ref bu, .int (iI chg), .int (iI rfd)])), (w, .inr (1, [.ref rw, .ref bq, .ref sq, .int (iI mp)])), (rw, .inl (gr, 3, .inr (.inr (.inr (.inr (rF ra)))))), ((ra 0), .inr (3, [.ref (ia 0), .int (iI (tn 0))])), ((ia 0), aI gi 10 (gs 0)), ((ra 1), .inr (3, [.ref (ia 1), .int (iI (tn 1))])), ((ia 1), aI gi 10 (gs 1)), ((ra 2), .inr (3, [.ref (ia 2), .int (iI (tn 2))])), ((ia 2), aI gi 10 (gs 2))]) hP hD [0, 1] [2, 3, 4, 5, 6, 7, 8] [7, 8, 0, 1, 2, 3, 4, 5, 6] rfl rfl (by decide) (by decide) hk1 hFc hP1 hD1 rfl (by decide)
    generalize H1 = H at hP hS hce ⊢
    exact zt_outX hlk htab hE hce hcv hcl hS (Nat.le_of_ble_eq_true rfl) (Nat.le_of_ble_eq_true rfl) (tn, gs) (⟨htn, hgs⟩) hP hD
  · try dsimp only at hw
    have hrq_1 := hw
    obtain ⟨hP1, hD1⟩ := hB
    rw [hT9] at hP1
    obtain ⟨hP, hD⟩ := zt_back (w1 := [(h, .inr (5, [.ref k1, .ref d, .ref o, .ref w, .ref bu, .int (iI chg), .int (iI rfd)])), (w, .inr (1, [.ref rw, .ref bq, .ref sq, .int (iI mp)]))]) (wr := [(rw, .inl (gr, 3, .inr (.inr (.inr (.inr (rF ra)))))), ((ra 0), .inr (3, [.ref (ia 0), .int (iI (tn 0))])), ((ia 0), aI gi 10 (gs 0)), ((ra 1), .inr (3, [.ref (ia 1), .int (iI (tn 1))])), ((ia 1), aI gi 10 (gs 1)), ((ra 2), .inr (3, [.ref (ia 2), .int (iI (tn 2))])), ((ia 2), aI gi 10 (gs 2))]) (wn := [(h, .inr (5, [.ref k1, .ref d, .ref o, .ref w, .ref bu, .int (iI chg), .int (iI rfd)])), (w, .inr (1, [.ref rw, .ref bq, .ref sq, .int (iI mp)])), (rw, .inl (gr, 3, .inr (.inr (.inr (.inr (rF ra)))))), ((ra 0), .inr (3, [.ref (ia 0), .int (iI (tn 0))])), ((ia 0), aI gi 10 (gs 0)), ((ra 1), .inr (3, [.ref (ia 1), .int (iI (tn 1))])), ((ia 1), aI gi 10 (gs 1)), ((ra 2), .inr (3, [.ref (ia 2), .int (iI (tn 2))])), ((ia 2), aI gi 10 (gs 2))]) hP hD [0, 1] [2, 3, 4, 5, 6, 7, 8] [7, 8, 0, 1, 2, 3, 4, 5, 6] rfl rfl (by decide) (by decide) hk1 hFc hP1 hD1 rfl (by decide)
    generalize H1 = H at hP hS ⊢
    refine lv_iload_n hx hb dX6_look_5 rfl (lv_at hl 2 rfl) ?_
    refine zt_callSv C (As := [.int (iI x)]) (rest := []) (c_X6_requireLook l D gi gc gr x (by first | omega | assumption)) (va_cwS 1 hts gX6_look_X6_requireLook rfl rfl rfl (by decide +kernel) ⟨Nat.le_of_ble_eq_true rfl, Nat.le_of_ble_eq_true rfl⟩) (zt_preS hK (hP.sub (ws' := []) [] rfl) [.int (iI x)]) rfl hl.1 rfl (Nat.le_of_ble_eq_true rfl) dX6_look_6 ⟨Nat.le_of_ble_eq_true rfl, Nat.le_of_ble_eq_true rfl⟩ (fun hr_2 => ?_)
    refine lv_aload_n hx hb dX6_look_9 rfl (lv_at hl 0 rfl) ?_
    refine va_get (D := D) (ci := 5) (v := .ref w) (C := RX6) (T := TX6) (N := 7) hx hb hts i6 hown hK.1 hP 0 rfl rfl 3 (by decide) f35 (fun _ h9 => h9) rfl dX6_look_10 ?_
    refine lv_iload_n hx hb dX6_look_13 rfl (lv_at hl 1 rfl) ?_
    refine zt_callVr C (As := [.int (iI x1)]) (rest := []) (c_X2_row l D gi gc gr w rw bq sq mp ra x1 (by first | omega | assumption)) (cwV 1 hts gX6_look_X2_row rfl rfl rfl (by decide +kernel) ⟨Nat.le_of_ble_eq_true rfl, Nat.le_of_ble_eq_true rfl⟩) (zt_preV hK (hP.sub (ws' := [(w, .inr (1, [.ref rw, .ref bq, .ref sq, .int (iI mp)])), (rw, .inl (gr, 3, .inr (.inr (.inr (.inr (rF ra))))))]) [1, 2] rfl) [.int (iI x1)] 0 rfl rfl) rfl hl.1 rfl (Nat.le_of_ble_eq_true rfl) dX6_look_14 ⟨Nat.le_of_ble_eq_true rfl, Nat.le_of_ble_eq_true rfl⟩ (fun r_3 hr_3 => ?_)
    obtain rfl := hr_3
    rcases (show x1 = 0 ∨ x1 = 1 ∨ x1 = 2 by omega) with e9 | e9 | e9
    · subst e9
      have htv := htn 0 (by omega)
      refine lv_iload_n hx hb dX6_look_17 rfl (lv_at hl 2 rfl) ?_
      have hPc := hP.sub (ws' := [((ra 0), .inr (3, [.ref (ia 0), .int (iI (tn 0))])), ((ia 0), aI gi 10 (gs 0))]) [3, 4] rfl
      have hDc := hD.sub (ws' := [((ra 0), .inr (3, [.ref (ia 0), .int (iI (tn 0))])), ((ia 0), aI gi 10 (gs 0))]) [3, 4] (by decide) rfl
      have hFc := va_free (wc := [((ra 0), .inr (3, [.ref (ia 0), .int (iI (tn 0))])), ((ia 0), aI gi 10 (gs 0))]) hD hS hA [3, 4] rfl
      refine va_calli (va_runV C (As := [.int (iI x)]) (rest := []) (c_X4_add l D gi gc gr H.size (ra 0) (ia 0) 10 (tn 0) (gs 0) x (by first | omega | assumption) (by first | omega | assumption)) (cwV 1 hts gX6_look_X4_add rfl rfl rfl (by decide +kernel) ⟨Nat.le_of_ble_eq_true rfl, Nat.le_of_ble_eq_true rfl⟩) (zt_preVw hK hPc hDc [.int (iI x)] 0 rfl rfl) rfl rfl hl.1 rfl (lv_room (Nat.le_of_ble_eq_true rfl)) dX6_look_18 ⟨Nat.le_of_ble_eq_true rfl, Nat.le_of_ble_eq_true rfl⟩) hS (fun q _ h => hFc q h) hFc (fun r_4 u_r_4 T9 H1 locs hT9 hvm hw hB hz1 hk1 hS => ?_)
      obtain ⟨t_4, g_4⟩ := u_r_4
      obtain ⟨z_4, e_4, hz_4⟩ := hw
      dsimp only at hz_4
      subst e_4
      obtain ⟨hP1, hD1⟩ := hB
      rw [hT9] at hP1
      obtain ⟨hP, hD⟩ := zt_back (w1 := [((ra 0), .inr (3, [.ref (ia 0), .int (iI t_4)])), ((ia 0), aI gi 10 g_4)]) (wr := [(h, .inr (5, [.ref k1, .ref d, .ref o, .ref w, .ref bu, .int (iI chg), .int (iI rfd)])), (w, .inr (1, [.ref rw, .ref bq, .ref sq, .int (iI mp)])), (rw, .inl (gr, 3, .inr (.inr (.inr (.inr (rF ra)))))), ((ra 1), .inr (3, [.ref (ia 1), .int (iI (tn 1))])), ((ia 1), aI gi 10 (gs 1)), ((ra 2), .inr (3, [.ref (ia 2), .int (iI (tn 2))])), ((ia 2), aI gi 10 (gs 2))]) (wn := [(h, .inr (5, [.ref k1, .ref d, .ref o, .ref w, .ref bu, .int (iI chg), .int (iI rfd)])), (w, .inr (1, [.ref rw, .ref bq, .ref sq, .int (iI mp)])), (rw, .inl (gr, 3, .inr (.inr (.inr (.inr (rF ra)))))), ((ra 0), .inr (3, [.ref (ia 0), .int (iI t_4)])), ((ia 0), aI gi 10 g_4), ((ra 1), .inr (3, [.ref (ia 1), .int (iI (tn 1))])), ((ia 1), aI gi 10 (gs 1)), ((ra 2), .inr (3, [.ref (ia 2), .int (iI (tn 2))])), ((ia 2), aI gi 10 (gs 2))]) hP hD [3, 4] [0, 1, 2, 5, 6, 7, 8] [0, 1, 2, 7, 8, 3, 4, 5, 6] rfl rfl (by decide) (by decide) hk1 hFc hP1 hD1 rfl (by decide)
      generalize H1 = H at hP hS ⊢
      refine lv_istore_n (lv' := [(3, .int (iI z_4)), (0, .ref h), (1, .int (iI 0)), (2, .int (iI x))]) hx hb dX6_look_21 rfl hl (by decide) rfl (fun ls hl => ?_)
      refine lv_iload_n hx hb dX6_look_22 rfl (lv_at hl 0 rfl) ?_
      refine lv_iconst (v := iI (-1)) hx hb dX6_look_23 (by decide +kernel) ?_
      refine zt_icmp_ne (tgt := 37) hx hb dX6_look_24 (by decide) (by omega) (fun c_5 => ?_) (fun c_5 => ?_)
      · refine lv_iload_n hx hb dX6_look_37 rfl (lv_at hl 0 rfl) ?_
        refine lv_iconst (v := iI (1)) hx hb dX6_look_38 (by decide +kernel) ?_
        refine zt_iadd hx hb dX6_look_39 ?_
        exact zt_iretX hx hb hr hlk (Nat.le_of_ble_eq_true rfl) (Nat.le_of_ble_eq_true rfl) (uP tn 0 t_4, uPP gs 0 g_4) (rowok htn hgs (addok (n := 10) hx0 (htn 0 (by omega)) (hgs 0 (by omega)) hz_4)) hP hD hS dX6_look_40
      · exact zt_throwS (cls := "java/lang/IllegalStateException") (text := "the PRINT is full") (ik := 60) (is := 118) (ic := 64) C hfl hlk htab hX hZ hS hl.1 (by first | exact Or.inl rfl | exact Or.inr (Or.inl rfl) | exact Or.inr (Or.inr rfl)) (by decide +kernel) (by decide +kernel) (by decide +kernel) (by decide +kernel) zx_ng64 zx_ok64 (by decide +kernel) dX6_look_27 dX6_look_30 dX6_look_31 dX6_look_33 dX6_look_36 ⟨Nat.le_of_ble_eq_true rfl, Nat.le_of_ble_eq_true rfl, Nat.le_of_ble_eq_true rfl, Nat.le_of_ble_eq_true rfl⟩ (Nat.le_of_ble_eq_true rfl) (Nat.le_of_ble_eq_true rfl) (uP tn 0 t_4, uPP gs 0 g_4) (rowok htn hgs (addok (n := 10) hx0 (htn 0 (by omega)) (hgs 0 (by omega)) hz_4)) hP hD
    · subst e9
      have htv := htn 1 (by omega)
      refine lv_iload_n hx hb dX6_look_17 rfl (lv_at hl 2 rfl) ?_
      have hPc := hP.sub (ws' := [((ra 1), .inr (3, [.ref (ia 1), .int (iI (tn 1))])), ((ia 1), aI gi 10 (gs 1))]) [5, 6] rfl
      have hDc := hD.sub (ws' := [((ra 1), .inr (3, [.ref (ia 1), .int (iI (tn 1))])), ((ia 1), aI gi 10 (gs 1))]) [5, 6] (by decide) rfl
      have hFc := va_free (wc := [((ra 1), .inr (3, [.ref (ia 1), .int (iI (tn 1))])), ((ia 1), aI gi 10 (gs 1))]) hD hS hA [5, 6] rfl
      refine va_calli (va_runV C (As := [.int (iI x)]) (rest := []) (c_X4_add l D gi gc gr H.size (ra 1) (ia 1) 10 (tn 1) (gs 1) x (by first | omega | assumption) (by first | omega | assumption)) (cwV 1 hts gX6_look_X4_add rfl rfl rfl (by decide +kernel) ⟨Nat.le_of_ble_eq_true rfl, Nat.le_of_ble_eq_true rfl⟩) (zt_preVw hK hPc hDc [.int (iI x)] 0 rfl rfl) rfl rfl hl.1 rfl (lv_room (Nat.le_of_ble_eq_true rfl)) dX6_look_18 ⟨Nat.le_of_ble_eq_true rfl, Nat.le_of_ble_eq_true rfl⟩) hS (fun q _ h => hFc q h) hFc (fun r_6 u_r_6 T9 H1 locs hT9 hvm hw hB hz1 hk1 hS => ?_)
      obtain ⟨t_6, g_6⟩ := u_r_6
      obtain ⟨z_6, e_6, hz_6⟩ := hw
      dsimp only at hz_6
      subst e_6
      obtain ⟨hP1, hD1⟩ := hB
      rw [hT9] at hP1
      obtain ⟨hP, hD⟩ := zt_back (w1 := [((ra 1), .inr (3, [.ref (ia 1), .int (iI t_6)])), ((ia 1), aI gi 10 g_6)]) (wr := [(h, .inr (5, [.ref k1, .ref d, .ref o, .ref w, .ref bu, .int (iI chg), .int (iI rfd)])), (w, .inr (1, [.ref rw, .ref bq, .ref sq, .int (iI mp)])), (rw, .inl (gr, 3, .inr (.inr (.inr (.inr (rF ra)))))), ((ra 0), .inr (3, [.ref (ia 0), .int (iI (tn 0))])), ((ia 0), aI gi 10 (gs 0)), ((ra 2), .inr (3, [.ref (ia 2), .int (iI (tn 2))])), ((ia 2), aI gi 10 (gs 2))]) (wn := [(h, .inr (5, [.ref k1, .ref d, .ref o, .ref w, .ref bu, .int (iI chg), .int (iI rfd)])), (w, .inr (1, [.ref rw, .ref bq, .ref sq, .int (iI mp)])), (rw, .inl (gr, 3, .inr (.inr (.inr (.inr (rF ra)))))), ((ra 0), .inr (3, [.ref (ia 0), .int (iI (tn 0))])), ((ia 0), aI gi 10 (gs 0)), ((ra 1), .inr (3, [.ref (ia 1), .int (iI t_6)])), ((ia 1), aI gi 10 g_6), ((ra 2), .inr (3, [.ref (ia 2), .int (iI (tn 2))])), ((ia 2), aI gi 10 (gs 2))]) hP hD [5, 6] [0, 1, 2, 3, 4, 7, 8] [0, 1, 2, 3, 4, 7, 8, 5, 6] rfl rfl (by decide) (by decide) hk1 hFc hP1 hD1 rfl (by decide)
      generalize H1 = H at hP hS ⊢
      refine lv_istore_n (lv' := [(3, .int (iI z_6)), (0, .ref h), (1, .int (iI 1)), (2, .int (iI x))]) hx hb dX6_look_21 rfl hl (by decide) rfl (fun ls hl => ?_)
      refine lv_iload_n hx hb dX6_look_22 rfl (lv_at hl 0 rfl) ?_
      refine lv_iconst (v := iI (-1)) hx hb dX6_look_23 (by decide +kernel) ?_
      refine zt_icmp_ne (tgt := 37) hx hb dX6_look_24 (by decide) (by omega) (fun c_7 => ?_) (fun c_7 => ?_)
      · refine lv_iload_n hx hb dX6_look_37 rfl (lv_at hl 0 rfl) ?_
        refine lv_iconst (v := iI (1)) hx hb dX6_look_38 (by decide +kernel) ?_
        refine zt_iadd hx hb dX6_look_39 ?_
        exact zt_iretX hx hb hr hlk (Nat.le_of_ble_eq_true rfl) (Nat.le_of_ble_eq_true rfl) (uP tn 1 t_6, uPP gs 1 g_6) (rowok htn hgs (addok (n := 10) hx0 (htn 1 (by omega)) (hgs 1 (by omega)) hz_6)) hP hD hS dX6_look_40
      · exact zt_throwS (cls := "java/lang/IllegalStateException") (text := "the PRINT is full") (ik := 60) (is := 118) (ic := 64) C hfl hlk htab hX hZ hS hl.1 (by first | exact Or.inl rfl | exact Or.inr (Or.inl rfl) | exact Or.inr (Or.inr rfl)) (by decide +kernel) (by decide +kernel) (by decide +kernel) (by decide +kernel) zx_ng64 zx_ok64 (by decide +kernel) dX6_look_27 dX6_look_30 dX6_look_31 dX6_look_33 dX6_look_36 ⟨Nat.le_of_ble_eq_true rfl, Nat.le_of_ble_eq_true rfl, Nat.le_of_ble_eq_true rfl, Nat.le_of_ble_eq_true rfl⟩ (Nat.le_of_ble_eq_true rfl) (Nat.le_of_ble_eq_true rfl) (uP tn 1 t_6, uPP gs 1 g_6) (rowok htn hgs (addok (n := 10) hx0 (htn 1 (by omega)) (hgs 1 (by omega)) hz_6)) hP hD
    · subst e9
      have htv := htn 2 (by omega)
      refine lv_iload_n hx hb dX6_look_17 rfl (lv_at hl 2 rfl) ?_
      have hPc := hP.sub (ws' := [((ra 2), .inr (3, [.ref (ia 2), .int (iI (tn 2))])), ((ia 2), aI gi 10 (gs 2))]) [7, 8] rfl
      have hDc := hD.sub (ws' := [((ra 2), .inr (3, [.ref (ia 2), .int (iI (tn 2))])), ((ia 2), aI gi 10 (gs 2))]) [7, 8] (by decide) rfl
      have hFc := va_free (wc := [((ra 2), .inr (3, [.ref (ia 2), .int (iI (tn 2))])), ((ia 2), aI gi 10 (gs 2))]) hD hS hA [7, 8] rfl
      refine va_calli (va_runV C (As := [.int (iI x)]) (rest := []) (c_X4_add l D gi gc gr H.size (ra 2) (ia 2) 10 (tn 2) (gs 2) x (by first | omega | assumption) (by first | omega | assumption)) (cwV 1 hts gX6_look_X4_add rfl rfl rfl (by decide +kernel) ⟨Nat.le_of_ble_eq_true rfl, Nat.le_of_ble_eq_true rfl⟩) (zt_preVw hK hPc hDc [.int (iI x)] 0 rfl rfl) rfl rfl hl.1 rfl (lv_room (Nat.le_of_ble_eq_true rfl)) dX6_look_18 ⟨Nat.le_of_ble_eq_true rfl, Nat.le_of_ble_eq_true rfl⟩) hS (fun q _ h => hFc q h) hFc (fun r_8 u_r_8 T9 H1 locs hT9 hvm hw hB hz1 hk1 hS => ?_)
      obtain ⟨t_8, g_8⟩ := u_r_8
      obtain ⟨z_8, e_8, hz_8⟩ := hw
      dsimp only at hz_8
      subst e_8
      obtain ⟨hP1, hD1⟩ := hB
      rw [hT9] at hP1
      obtain ⟨hP, hD⟩ := zt_back (w1 := [((ra 2), .inr (3, [.ref (ia 2), .int (iI t_8)])), ((ia 2), aI gi 10 g_8)]) (wr := [(h, .inr (5, [.ref k1, .ref d, .ref o, .ref w, .ref bu, .int (iI chg), .int (iI rfd)])), (w, .inr (1, [.ref rw, .ref bq, .ref sq, .int (iI mp)])), (rw, .inl (gr, 3, .inr (.inr (.inr (.inr (rF ra)))))), ((ra 0), .inr (3, [.ref (ia 0), .int (iI (tn 0))])), ((ia 0), aI gi 10 (gs 0)), ((ra 1), .inr (3, [.ref (ia 1), .int (iI (tn 1))])), ((ia 1), aI gi 10 (gs 1))]) (wn := [(h, .inr (5, [.ref k1, .ref d, .ref o, .ref w, .ref bu, .int (iI chg), .int (iI rfd)])), (w, .inr (1, [.ref rw, .ref bq, .ref sq, .int (iI mp)])), (rw, .inl (gr, 3, .inr (.inr (.inr (.inr (rF ra)))))), ((ra 0), .inr (3, [.ref (ia 0), .int (iI (tn 0))])), ((ia 0), aI gi 10 (gs 0)), ((ra 1), .inr (3, [.ref (ia 1), .int (iI (tn 1))])), ((ia 1), aI gi 10 (gs 1)), ((ra 2), .inr (3, [.ref (ia 2), .int (iI t_8)])), ((ia 2), aI gi 10 g_8)]) hP hD [7, 8] [0, 1, 2, 3, 4, 5, 6] [0, 1, 2, 3, 4, 5, 6, 7, 8] rfl rfl (by decide) (by decide) hk1 hFc hP1 hD1 rfl (by decide)
      generalize H1 = H at hP hS ⊢
      refine lv_istore_n (lv' := [(3, .int (iI z_8)), (0, .ref h), (1, .int (iI 2)), (2, .int (iI x))]) hx hb dX6_look_21 rfl hl (by decide) rfl (fun ls hl => ?_)
      refine lv_iload_n hx hb dX6_look_22 rfl (lv_at hl 0 rfl) ?_
      refine lv_iconst (v := iI (-1)) hx hb dX6_look_23 (by decide +kernel) ?_
      refine zt_icmp_ne (tgt := 37) hx hb dX6_look_24 (by decide) (by omega) (fun c_9 => ?_) (fun c_9 => ?_)
      · refine lv_iload_n hx hb dX6_look_37 rfl (lv_at hl 0 rfl) ?_
        refine lv_iconst (v := iI (1)) hx hb dX6_look_38 (by decide +kernel) ?_
        refine zt_iadd hx hb dX6_look_39 ?_
        exact zt_iretX hx hb hr hlk (Nat.le_of_ble_eq_true rfl) (Nat.le_of_ble_eq_true rfl) (uP tn 2 t_8, uPP gs 2 g_8) (rowok htn hgs (addok (n := 10) hx0 (htn 2 (by omega)) (hgs 2 (by omega)) hz_8)) hP hD hS dX6_look_40
      · exact zt_throwS (cls := "java/lang/IllegalStateException") (text := "the PRINT is full") (ik := 60) (is := 118) (ic := 64) C hfl hlk htab hX hZ hS hl.1 (by first | exact Or.inl rfl | exact Or.inr (Or.inl rfl) | exact Or.inr (Or.inr rfl)) (by decide +kernel) (by decide +kernel) (by decide +kernel) (by decide +kernel) zx_ng64 zx_ok64 (by decide +kernel) dX6_look_27 dX6_look_30 dX6_look_31 dX6_look_33 dX6_look_36 ⟨Nat.le_of_ble_eq_true rfl, Nat.le_of_ble_eq_true rfl, Nat.le_of_ble_eq_true rfl, Nat.le_of_ble_eq_true rfl⟩ (Nat.le_of_ble_eq_true rfl) (Nat.le_of_ble_eq_true rfl) (uP tn 2 t_8, uPP gs 2 g_8) (rowok htn hgs (addok (n := 10) hx0 (htn 2 (by omega)) (hgs 2 (by omega)) hz_8)) hP hD
set_option maxHeartbeats 4000000 in
set_option maxRecDepth 100000 in
theorem c_X6_size (l : Launch) (hfl : l.stackTraces = false) (D : va_G) (gi gc gr : ClassId) (sz : Nat) (h : Nat) (k1 : Nat) (d : Nat) (o : Nat) (w : Nat) (bu : Nat) (chg : Int) (rfd : Int) (br : Nat) (ba : Nat) (rate : Int) (bt : Int) (bg : Nat → Int) (x : Int) (hbt : 0 ≤ bt ∧ bt ≤ 20) (hbg : ∀ j : Nat, (j : Int) < bt → 0 ≤ bg j ∧ bg j ≤ 99) (hx0 : 0 ≤ x ∧ x ≤ 99) : vx_Met l yX6_size wsX6_size { frames := 6, cells := 2, slots := 12, locals := 95 } (zPx D gi gc gr [(h, .inr (5, [.ref k1, .ref d, .ref o, .ref w, .ref bu, .int (iI chg), .int (iI rfd)])), (bu, .inr (0, [.ref br, .int (iI rate)])), (br, .inr (3, [.ref ba, .int (iI bt)])), (ba, aI gi 20 bg)] sz [.ref h, .int (iI x)]) (va_Qi (S := Int × (Nat → Int)) (fun _ u => (fun u => (0 ≤ u.1 ∧ u.1 ≤ 20) ∧ ∀ j : Nat, (j : Int) < u.1 → 0 ≤ u.2 j ∧ u.2 j ≤ 99) u) (zB D (va_A [(h, .inr (5, [.ref k1, .ref d, .ref o, .ref w, .ref bu, .int (iI chg), .int (iI rfd)])), (bu, .inr (0, [.ref br, .int (iI rate)])), (br, .inr (3, [.ref ba, .int (iI bt)])), (ba, aI gi 20 bg)] sz) (fun u => [(h, .inr (5, [.ref k1, .ref d, .ref o, .ref w, .ref bu, .int (iI chg), .int (iI rfd)])), (bu, .inr (0, [.ref br, .int (iI rate)])), (br, .inr (3, [.ref ba, .int (iI u.1)])), (ba, aI gi 20 u.2)])) (va_A [(h, .inr (5, [.ref k1, .ref d, .ref o, .ref w, .ref bu, .int (iI chg), .int (iI rfd)])), (bu, .inr (0, [.ref br, .int (iI rate)])), (br, .inr (3, [.ref ba, .int (iI bt)])), (ba, aI gi 20 bg)] sz)) (zQx (S := Int × (Nat → Int)) (fun u => (0 ≤ u.1 ∧ u.1 ≤ 20) ∧ ∀ j : Nat, (j : Int) < u.1 → 0 ≤ u.2 j ∧ u.2 j ≤ 99) D (va_A [(h, .inr (5, [.ref k1, .ref d, .ref o, .ref w, .ref bu, .int (iI chg), .int (iI rfd)])), (bu, .inr (0, [.ref br, .int (iI rate)])), (br, .inr (3, [.ref ba, .int (iI bt)])), (ba, aI gi 20 bg)] sz) (fun u => [(h, .inr (5, [.ref k1, .ref d, .ref o, .ref w, .ref bu, .int (iI chg), .int (iI rfd)])), (bu, .inr (0, [.ref br, .int (iI rate)])), (br, .inr (3, [.ref ba, .int (iI u.1)])), (ba, aI gi 20 u.2)])) 2 12 (va_A [(h, .inr (5, [.ref k1, .ref d, .ref o, .ref w, .ref bu, .int (iI chg), .int (iI rfd)])), (bu, .inr (0, [.ref br, .int (iI rate)])), (br, .inr (3, [.ref ba, .int (iI bt)])), (ba, aI gi 20 bg)] sz) := by
  refine zt_metX (own := RX6) (cc := cX6_size) (maxL := 3) (by decide) rfl rfl (Nat.le_of_ble_eq_true rfl) ?_
  intro p e s m args below meth c A hAe C hr hlk htab hK hX hZ hP hD hS hA ls hl
  rw [← hAe]
  have hx := C.1
  have hb := C.2.1
  have hml := C.2.2.1
  have hown := C.2.2.2.1
  have hts := C.2.2.2.2
  have i0 : ∀ w ∈ u_ws RX0 TX0 2, w ∈ wsX6_size := by decide +kernel
  have i6 : ∀ w ∈ u_ws RX6 TX6 7, w ∈ wsX6_size := by decide +kernel
  have f42 := hts (.fieldLink RX6 42 "Threetwo" "buffer" "LThreetwo$Buffer;") (by decide +kernel)
  have hl : lv_has ls 3 [(0, .ref h), (1, .int (iI x))] := hl
  refine lv_iload_n hx hb dX6_size_0 rfl (lv_at hl 1 rfl) ?_
  refine zt_if_lt (tgt := 10) hx hb dX6_size_1 (by decide) (by omega) (fun c_1 => absurd c_1 (by omega)) (fun c_1 => ?_)
  refine lv_iload_n hx hb dX6_size_4 rfl (lv_at hl 1 rfl) ?_
  refine lv_bipush (v := iI (99)) hx hb dX6_size_5 (by decide +kernel) ?_
  refine zt_icmp_le (tgt := 20) hx hb dX6_size_7 (by decide) (by omega) (fun c_2 => ?_) (fun c_2 => absurd c_2 (by omega))
  refine lv_aload_n hx hb dX6_size_20 rfl (lv_at hl 0 rfl) ?_
  refine va_get (D := D) (ci := 5) (v := .ref bu) (C := RX6) (T := TX6) (N := 7) hx hb hts i6 hown hK.1 hP 0 rfl rfl 4 (by decide) f42 (fun _ h9 => h9) rfl dX6_size_21 ?_
  refine va_getN (D := D) (ci := 0) (v := .ref br) (C := RX0) (T := TX0) (N := 2) hx hb hts i0 hown hK.1 hP 1 rfl rfl 0 (by decide) (zK.n127 hK _) (fun _ h9 => h9) rfl dX6_size_24 ?_
  refine lv_iload_n hx hb dX6_size_27 rfl (lv_at hl 1 rfl) ?_
  have hPc := hP.sub (ws' := [(br, .inr (3, [.ref ba, .int (iI bt)])), (ba, aI gi 20 bg)]) [2, 3] rfl
  have hDc := hD.sub (ws' := [(br, .inr (3, [.ref ba, .int (iI bt)])), (ba, aI gi 20 bg)]) [2, 3] (by decide) rfl
  have hFc := va_free (wc := [(br, .inr (3, [.ref ba, .int (iI bt)])), (ba, aI gi 20 bg)]) hD hS hA [2, 3] rfl
  refine va_calli (va_runV C (As := [.int (iI x)]) (rest := []) (c_X4_add l D gi gc gr s.heap.size br ba 20 bt bg x (by first | omega | assumption) (by first | omega | assumption)) (cwV 1 hts gX6_size_X4_add rfl rfl rfl (by decide +kernel) ⟨Nat.le_of_ble_eq_true rfl, Nat.le_of_ble_eq_true rfl⟩) (zt_preVw hK hPc hDc [.int (iI x)] 0 rfl rfl) rfl rfl hl.1 rfl (lv_room (Nat.le_of_ble_eq_true rfl)) dX6_size_28 ⟨Nat.le_of_ble_eq_true rfl, Nat.le_of_ble_eq_true rfl⟩) hS (fun q _ h => hFc q h) hFc (fun r_3 u_r_3 T9 H1 locs hT9 hvm hw hB hz1 hk1 hS => ?_)
  obtain ⟨t_3, g_3⟩ := u_r_3
  obtain ⟨z_3, e_3, hz_3⟩ := hw
  dsimp only at hz_3
  subst e_3
  obtain ⟨hP1, hD1⟩ := hB
  rw [hT9] at hP1
  obtain ⟨hP, hD⟩ := zt_back (w1 := [(br, .inr (3, [.ref ba, .int (iI t_3)])), (ba, aI gi 20 g_3)]) (wr := [(h, .inr (5, [.ref k1, .ref d, .ref o, .ref w, .ref bu, .int (iI chg), .int (iI rfd)])), (bu, .inr (0, [.ref br, .int (iI rate)]))]) (wn := [(h, .inr (5, [.ref k1, .ref d, .ref o, .ref w, .ref bu, .int (iI chg), .int (iI rfd)])), (bu, .inr (0, [.ref br, .int (iI rate)])), (br, .inr (3, [.ref ba, .int (iI t_3)])), (ba, aI gi 20 g_3)]) hP hD [2, 3] [0, 1] [0, 1, 2, 3] rfl rfl (by decide) (by decide) hk1 hFc hP1 hD1 rfl (by decide)
  generalize H1 = H at hP hS ⊢
  refine lv_istore_n (lv' := [(2, .int (iI z_3)), (0, .ref h), (1, .int (iI x))]) hx hb dX6_size_31 rfl hl (by decide) rfl (fun ls hl => ?_)
  refine lv_iload_n hx hb dX6_size_32 rfl (lv_at hl 0 rfl) ?_
  refine lv_iconst (v := iI (-1)) hx hb dX6_size_33 (by decide +kernel) ?_
  refine zt_icmp_ne (tgt := 47) hx hb dX6_size_34 (by decide) (by omega) (fun c_4 => ?_) (fun c_4 => ?_)
  · refine lv_iload_n hx hb dX6_size_47 rfl (lv_at hl 0 rfl) ?_
    exact zt_iretX hx hb hr hlk (Nat.le_of_ble_eq_true rfl) (Nat.le_of_ble_eq_true rfl) (t_3, g_3) (addok (n := 20) hx0 hbt hbg hz_3) hP hD hS dX6_size_48
  · exact zt_throwS (cls := "java/lang/IllegalStateException") (text := "there are twenty SIZES") (ik := 60) (is := 130) (ic := 64) C hfl hlk htab hX hZ hS hl.1 (by first | exact Or.inl rfl | exact Or.inr (Or.inl rfl) | exact Or.inr (Or.inr rfl)) (by decide +kernel) (by decide +kernel) (by decide +kernel) (by decide +kernel) zx_ng64 zx_ok64 (by decide +kernel) dX6_size_37 dX6_size_40 dX6_size_41 dX6_size_43 dX6_size_46 ⟨Nat.le_of_ble_eq_true rfl, Nat.le_of_ble_eq_true rfl, Nat.le_of_ble_eq_true rfl, Nat.le_of_ble_eq_true rfl⟩ (Nat.le_of_ble_eq_true rfl) (Nat.le_of_ble_eq_true rfl) (t_3, g_3) (addok (n := 20) hx0 hbt hbg hz_3) hP hD
