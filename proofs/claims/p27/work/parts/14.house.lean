/-! ===== the house: what it answers; the digest as a number of what is kept ===== -/
def wfL (g pl fo nf : Nat → Int) (nn : Int) : Nat → Int → Int64 → Int64
  | 0, _, d => d
  | n + 1, f, d => wfL g pl fo nf nn n (f + 1) ((((((((d * 31) + (iI (g f.toNat)).toInt64) * 31) + (iI (pl f.toNat)).toInt64) * 31) + (iI (fo f.toNat)).toInt64) * 31) + (iI (notL nf f nn.toNat 0)).toInt64)
theorem wfL_s (g pl fo nf : Nat → Int) (nn : Int) (n : Nat) (f : Int) (d : Int64) : wfL g pl fo nf nn (n + 1) f d = wfL g pl fo nf nn n (f + 1) ((((((((d * 31) + (iI (g f.toNat)).toInt64) * 31) + (iI (pl f.toNat)).toInt64) * 31) + (iI (fo f.toNat)).toInt64) * 31) + (iI (notL nf f nn.toNat 0)).toInt64) := rfl
def ffL (fl fi le : Nat → Int) : Nat → Int → Int64 → Int64
  | 0, _, d => d
  | n + 1, f, d => ffL fl fi le n (f + 1) ((((((d * 31) + (iI (fl f.toNat)).toInt64) * 31) + (iI (fi f.toNat)).toInt64) * 31) + (iI (le f.toNat)).toInt64)
theorem ffL_s (fl fi le : Nat → Int) (n : Nat) (f : Int) (d : Int64) : ffL fl fi le (n + 1) f d = ffL fl fi le n (f + 1) ((((((d * 31) + (iI (fl f.toNat)).toInt64) * 31) + (iI (fi f.toNat)).toInt64) * 31) + (iI (le f.toNat)).toInt64) := rfl
def DDF (tn : Nat → Int) (gs : Nat → Nat → Int) (x y : Int) : Int := EF (gs x.toNat) (tn x.toNat) (gs y.toNat) (tn y.toNat) 0 0
def LLF (tn : Nat → Int) (gs : Nat → Nat → Int) (x1 x2 : Int) : Int := layL (sgF (EF (gs x1.toNat) (tn x1.toNat) (gs x2.toNat) (tn x2.toNat)) (fun x y => tog (gs x1.toNat x.toNat) (gs x2.toNat y.toNat)) (tn x1.toNat) (tn x2.toNat)) (tn x1.toNat) (tn x2.toNat) 20 0 0 0
def wpI (tn : Nat → Int) (gs : Nat → Nat → Int) (x : Int) : Nat → Int → Int64 → Int64
  | 0, _, d => d
  | n + 1, y, d => wpI tn gs x n (y + 1) ((((d * 31) + (iI (DDF tn gs x y)).toInt64) * 31) + (iI (LLF tn gs x y)).toInt64)
theorem wpI_s (tn : Nat → Int) (gs : Nat → Nat → Int) (x : Int) (n : Nat) (y : Int) (d : Int64) : wpI tn gs x (n + 1) y d = wpI tn gs x n (y + 1) ((((d * 31) + (iI (DDF tn gs x y)).toInt64) * 31) + (iI (LLF tn gs x y)).toInt64) := rfl
def wpL (tn : Nat → Int) (gs : Nat → Nat → Int) (mp : Int) : Nat → Int → Int64 → Int64
  | 0, _, d => d
  | n + 1, x, d => wpL tn gs mp n (x + 1) (wpI tn gs x mp.toNat 0 d)
theorem wpL_s (tn : Nat → Int) (gs : Nat → Nat → Int) (mp : Int) (n : Nat) (x : Int) (d : Int64) : wpL tn gs mp (n + 1) x d = wpL tn gs mp n (x + 1) (wpI tn gs x mp.toNat 0 d) := rfl
def digH (hs : List Int) : Int64 := hs.foldl (fun d h => (d * 31) + (iI h).toInt64) 8311
def digF (rn t nn chg cst F mp rate bt rfd : Int) (g pl fo nf fl fi le bg : Nat → Int) (tn : Nat → Int) (gs : Nat → Nat → Int) : Int64 :=
  (((((((wpL tn gs mp mp.toNat 0 (ffL fl fi le F.toNat 0 (wfL g pl fo nf nn t.toNat 0 (digH [rn, t, nn, chg, cst, F, mp, rate, bt, leastL rate bg bt.toNat, peakL rate (leastL rate bg bt.toNat) (sumF bg bt.toNat) bg bt.toNat, rfd])))) * 31) + (iI (labF (1800 + (977 * t)))).toInt64) * 31) + (iI (dryF rate 3 (sumF bg bt.toNat) bg bt.toNat 0 0)).toInt64) * 31 + (iI t).toInt64) * 31) + (iI 1).toInt64
theorem DD_b {tn : Nat → Int} {gs : Nat → Nat → Int} (htn : ∀ k : Nat, k < 3 → 0 ≤ tn k ∧ tn k ≤ 10) {x y : Int} (hx : 0 ≤ x ∧ x < 3) (hy : 0 ≤ y ∧ y < 3) : 0 ≤ EF (gs x.toNat) (tn x.toNat) (gs y.toNat) (tn y.toNat) 0 0 ∧ EF (gs x.toNat) (tn x.toNat) (gs y.toNat) (tn y.toNat) 0 0 ≤ 40 := EF_b (htn x.toNat (by omega)).2 (htn y.toNat (by omega)).2 (by omega) (by omega)

set_option maxHeartbeats 4000000 in
set_option maxRecDepth 100000 in
theorem c_X6_requireField (l : Launch) (D : va_G) (gi gc gr : ClassId) (h : Nat) (k1 : Nat) (d : Nat) (o : Nat) (w : Nat) (bu : Nat) (chg : Int) (rfd : Int) (r2 : Nat) (n1 : Nat) (n2 : Nat) (sg : Nat) (nn : Int) (r : Nat) (a : Nat) (t : Int) (f : Int) (ht : 0 ≤ t ∧ t ≤ 60) (hf : 0 ≤ f ∧ f < t) : Met l yX6_requireField wsX6_requireField { frames := 1, cells := 0, slots := 0, locals := 21 } (zPr D gi gc gr [(h, .inr (5, [.ref k1, .ref d, .ref o, .ref w, .ref bu, .int (iI chg), .int (iI rfd)])), (d, .inr (4, [.ref r, .ref r2, .ref n1, .ref n2, .ref sg, .int (iI nn)])), (r, .inr (3, [.ref a, .int (iI t)]))] [.ref h, .int (iI f)]) (va_Sv (fun _ => True)) 0 0 (fun _ => False) := by
  refine zt_metRv (own := RX6) (cc := cX6_requireField) (maxL := 2) (by decide) rfl rfl (Nat.le_of_ble_eq_true rfl) ?_
  intro p e s m args below meth c Q C hK hP hQ ls hl
  have hx := C.1
  have hb := C.2.1
  have hml := C.2.2.1
  have hown := C.2.2.2.1
  have hts := C.2.2.2.2
  have i5 : ∀ w ∈ u_ws RX5 TX5 6, w ∈ wsX6_requireField := by decide +kernel
  have i6 : ∀ w ∈ u_ws RX6 TX6 7, w ∈ wsX6_requireField := by decide +kernel
  have f21 := hts (.fieldLink RX6 21 "Threetwo" "strip" "LThreetwo$Strip;") (by decide +kernel)
  have hl : lv_has ls 2 [(0, .ref h), (1, .int (iI f))] := hl
  refine lv_aload_n hx hb dX6_requireField_0 rfl (lv_at hl 0 rfl) ?_
  refine va_get (D := D) (ci := 5) (v := .ref d) (C := RX6) (T := TX6) (N := 7) hx hb hts i6 hown hK.1 hP 0 rfl rfl 1 (by decide) f21 (fun _ h9 => h9) rfl dX6_requireField_1 ?_
  refine va_getN (D := D) (ci := 4) (v := .ref r) (C := RX5) (T := TX5) (N := 6) hx hb hts i5 hown hK.1 hP 1 rfl rfl 0 (by decide) (zK.n79 hK _) (fun _ h9 => h9) rfl dX6_requireField_4 ?_
  refine lv_iload_n hx hb dX6_requireField_7 rfl (lv_at hl 1 rfl) ?_
  refine zt_callV C (As := [.int (iI f)]) (rest := []) (c_X4_has l D gi gc gr r a t f (by first | omega | assumption) (by first | omega | assumption)) (cwV 1 hts gX6_requireField_X4_has rfl rfl rfl (by decide +kernel) ⟨Nat.le_of_ble_eq_true rfl, Nat.le_of_ble_eq_true rfl⟩) (zt_preV hK (hP.sub (ws' := [(r, .inr (3, [.ref a, .int (iI t)]))]) [2] rfl) [.int (iI f)] 0 rfl rfl) rfl hl.1 rfl (Nat.le_of_ble_eq_true rfl) dX6_requireField_8 ⟨Nat.le_of_ble_eq_true rfl, Nat.le_of_ble_eq_true rfl⟩ (fun r_1 hr_1 => ?_)
  obtain ⟨z_2, rfl, hz_2⟩ := hr_1
  refine zt_if_ne (tgt := 25) hx hb dX6_requireField_11 (by decide) (by omega) (fun c_3 => ?_) (fun c_3 => absurd c_3 (by omega))
  exact hQ _ _ (trivial) dX6_requireField_25
set_option maxHeartbeats 4000000 in
set_option maxRecDepth 100000 in
theorem c_X6_requirePrint (l : Launch) (D : va_G) (gi gc gr : ClassId) (h : Nat) (k1 : Nat) (d : Nat) (o : Nat) (w : Nat) (bu : Nat) (chg : Int) (rfd : Int) (rw : Nat) (bq : Nat) (sq : Nat) (mp : Int) (x : Int) (hmp : 0 ≤ mp ∧ mp ≤ 3) (hx0 : 0 ≤ x ∧ x < mp) : Met l yX6_requirePrint wsX6_requirePrint { frames := 1, cells := 0, slots := 0, locals := 21 } (zPr D gi gc gr [(h, .inr (5, [.ref k1, .ref d, .ref o, .ref w, .ref bu, .int (iI chg), .int (iI rfd)])), (w, .inr (1, [.ref rw, .ref bq, .ref sq, .int (iI mp)]))] [.ref h, .int (iI x)]) (va_Sv (fun _ => True)) 0 0 (fun _ => False) := by
  refine zt_metRv (own := RX6) (cc := cX6_requirePrint) (maxL := 2) (by decide) rfl rfl (Nat.le_of_ble_eq_true rfl) ?_
  intro p e s m args below meth c Q C hK hP hQ ls hl
  have hx := C.1
  have hb := C.2.1
  have hml := C.2.2.1
  have hown := C.2.2.2.1
  have hts := C.2.2.2.2
  have i6 : ∀ w ∈ u_ws RX6 TX6 7, w ∈ wsX6_requirePrint := by decide +kernel
  have f35 := hts (.fieldLink RX6 35 "Threetwo" "prints" "LThreetwo$Prints;") (by decide +kernel)
  have hl : lv_has ls 2 [(0, .ref h), (1, .int (iI x))] := hl
  refine lv_aload_n hx hb dX6_requirePrint_0 rfl (lv_at hl 0 rfl) ?_
  refine va_get (D := D) (ci := 5) (v := .ref w) (C := RX6) (T := TX6) (N := 7) hx hb hts i6 hown hK.1 hP 0 rfl rfl 3 (by decide) f35 (fun _ h9 => h9) rfl dX6_requirePrint_1 ?_
  refine lv_iload_n hx hb dX6_requirePrint_4 rfl (lv_at hl 1 rfl) ?_
  refine zt_callV C (As := [.int (iI x)]) (rest := []) (c_X2_has l D gi gc gr w rw bq sq mp x (by first | omega | assumption) (by first | omega | assumption)) (cwV 1 hts gX6_requirePrint_X2_has rfl rfl rfl (by decide +kernel) ⟨Nat.le_of_ble_eq_true rfl, Nat.le_of_ble_eq_true rfl⟩) (zt_preV hK (hP.sub (ws' := [(w, .inr (1, [.ref rw, .ref bq, .ref sq, .int (iI mp)]))]) [1] rfl) [.int (iI x)] 0 rfl rfl) rfl hl.1 rfl (Nat.le_of_ble_eq_true rfl) dX6_requirePrint_5 ⟨Nat.le_of_ble_eq_true rfl, Nat.le_of_ble_eq_true rfl⟩ (fun r_1 hr_1 => ?_)
  obtain ⟨z_2, rfl, hz_2⟩ := hr_1
  refine zt_if_ne (tgt := 22) hx hb dX6_requirePrint_8 (by decide) (by omega) (fun c_3 => ?_) (fun c_3 => absurd c_3 (by omega))
  exact hQ _ _ (trivial) dX6_requirePrint_22
set_option maxHeartbeats 4000000 in
set_option maxRecDepth 100000 in
theorem c_X6_label (l : Launch) (D : va_G) (gi gc gr : ClassId) (h : Nat) (k1 : Nat) (d : Nat) (o : Nat) (w : Nat) (bu : Nat) (chg : Int) (rfd : Int) (q : Int) (hq : 0 ≤ q ∧ q < 107892) : Met l yX6_label wsX6_label { frames := 1, cells := 0, slots := 0, locals := 23 } (zPr D gi gc gr [(h, .inr (5, [.ref k1, .ref d, .ref o, .ref w, .ref bu, .int (iI chg), .int (iI rfd)]))] [.ref h, .int (iI q)]) (vp_Si (fun v => v = iI (labF q))) 0 0 (fun _ => False) := by
  refine zt_metRi (own := RX6) (cc := cX6_label) (maxL := 2) (by decide) rfl rfl (Nat.le_of_ble_eq_true rfl) ?_
  intro p e s m args below meth c Q C hK hP hQ ls hl
  have hx := C.1
  have hb := C.2.1
  have hml := C.2.2.1
  have hown := C.2.2.2.1
  have hts := C.2.2.2.2
  have hl : lv_has ls 2 [(0, .ref h), (1, .int (iI q))] := hl
  refine lv_iload_n hx hb dX6_label_0 rfl (lv_at hl 1 rfl) ?_
  refine zt_if_lt (tgt := 10) hx hb dX6_label_1 (by decide) (by omega) (fun c_1 => absurd c_1 (by omega)) (fun c_1 => ?_)
  refine lv_iload_n hx hb dX6_label_4 rfl (lv_at hl 1 rfl) ?_
  refine lv_ldc (v := iI (107892)) hx hb hown (hts (.constant RX6 204 (107892)) (by decide +kernel)) dX6_label_5 ?_
  refine zt_icmp_lt (tgt := 20) hx hb dX6_label_7 (by decide) (by omega) (fun c_2 => ?_) (fun c_2 => absurd c_2 (by omega))
  refine lv_iload_n hx hb dX6_label_20 rfl (lv_at hl 1 rfl) ?_
  refine zt_callS C (As := [.int (iI q)]) (rest := []) (c_X1_labelOf l D gi gc gr q (by first | omega | assumption)) (va_cwS 1 hts gX6_label_X1_labelOf rfl rfl rfl (by decide +kernel) ⟨Nat.le_of_ble_eq_true rfl, Nat.le_of_ble_eq_true rfl⟩) (zt_preS hK (hP.sub (ws' := []) [] rfl) [.int (iI q)]) rfl hl.1 rfl (Nat.le_of_ble_eq_true rfl) dX6_label_21 ⟨Nat.le_of_ble_eq_true rfl, Nat.le_of_ble_eq_true rfl⟩ (fun r_3 hr_3 => ?_)
  obtain rfl := hr_3
  exact hQ _ _ _ (rfl) dX6_label_24
set_option maxHeartbeats 4000000 in
set_option maxRecDepth 100000 in
theorem c_X6_picture (l : Launch) (D : va_G) (gi gc gr : ClassId) (h : Nat) (k1 : Nat) (d : Nat) (o : Nat) (w : Nat) (bu : Nat) (chg : Int) (rfd : Int) (q : Int) (hq : -2147483648 ≤ q ∧ q < 2147483648) : Met l yX6_picture wsX6_picture { frames := 2, cells := 0, slots := 0, locals := 46 } (zPr D gi gc gr [(h, .inr (5, [.ref k1, .ref d, .ref o, .ref w, .ref bu, .int (iI chg), .int (iI rfd)]))] [.ref h, .int (iI q)]) (vp_Si (fun v => v = iI (picF q))) 0 0 (fun _ => False) := by
  refine zt_metRi (own := RX6) (cc := cX6_picture) (maxL := 2) (by decide) rfl rfl (Nat.le_of_ble_eq_true rfl) ?_
  intro p e s m args below meth c Q C hK hP hQ ls hl
  have hx := C.1
  have hb := C.2.1
  have hml := C.2.2.1
  have hown := C.2.2.2.1
  have hts := C.2.2.2.2
  have hl : lv_has ls 2 [(0, .ref h), (1, .int (iI q))] := hl
  refine lv_iload_n hx hb dX6_picture_0 rfl (lv_at hl 1 rfl) ?_
  refine zt_callS C (As := [.int (iI q)]) (rest := []) (c_X1_pictureOf l D gi gc gr q (by first | omega | assumption)) (va_cwS 1 hts gX6_picture_X1_pictureOf rfl rfl rfl (by decide +kernel) ⟨Nat.le_of_ble_eq_true rfl, Nat.le_of_ble_eq_true rfl⟩) (zt_preS hK (hP.sub (ws' := []) [] rfl) [.int (iI q)]) rfl hl.1 rfl (Nat.le_of_ble_eq_true rfl) dX6_picture_1 ⟨Nat.le_of_ble_eq_true rfl, Nat.le_of_ble_eq_true rfl⟩ (fun r_1 hr_1 => ?_)
  obtain rfl := hr_1
  exact hQ _ _ _ (rfl) dX6_picture_4
set_option maxHeartbeats 4000000 in
set_option maxRecDepth 100000 in
theorem c_X6_dry (l : Launch) (D : va_G) (gi gc gr : ClassId) (h : Nat) (k1 : Nat) (d : Nat) (o : Nat) (w : Nat) (bu : Nat) (chg : Int) (rfd : Int) (br : Nat) (ba : Nat) (rate : Int) (bt : Int) (bg : Nat → Int) (q : Int) (hr : 1 ≤ rate ∧ rate ≤ 50) (hbt : 0 ≤ bt ∧ bt ≤ 20) (hbg : ∀ j : Nat, (j : Int) < bt → 0 ≤ bg j ∧ bg j ≤ 99) (hq : 0 ≤ q ∧ q ≤ 2000) : Met l yX6_dry wsX6_dry { frames := 3, cells := 0, slots := 0, locals := 67 } (zPr D gi gc gr [(h, .inr (5, [.ref k1, .ref d, .ref o, .ref w, .ref bu, .int (iI chg), .int (iI rfd)])), (bu, .inr (0, [.ref br, .int (iI rate)])), (br, .inr (3, [.ref ba, .int (iI bt)])), (ba, aI gi 20 bg)] [.ref h, .int (iI q)]) (vp_Si (fun v => v = iI (dryF rate q (sumF bg bt.toNat) bg bt.toNat 0 0))) 0 0 (fun _ => False) := by
  refine zt_metRi (own := RX6) (cc := cX6_dry) (maxL := 2) (by decide) rfl rfl (Nat.le_of_ble_eq_true rfl) ?_
  intro p e s m args below meth c Q C hK hP hQ ls hl
  have hx := C.1
  have hb := C.2.1
  have hml := C.2.2.1
  have hown := C.2.2.2.1
  have hts := C.2.2.2.2
  have i6 : ∀ w ∈ u_ws RX6 TX6 7, w ∈ wsX6_dry := by decide +kernel
  have f42 := hts (.fieldLink RX6 42 "Threetwo" "buffer" "LThreetwo$Buffer;") (by decide +kernel)
  have hl : lv_has ls 2 [(0, .ref h), (1, .int (iI q))] := hl
  refine lv_iload_n hx hb dX6_dry_0 rfl (lv_at hl 1 rfl) ?_
  refine zt_if_lt (tgt := 11) hx hb dX6_dry_1 (by decide) (by omega) (fun c_1 => absurd c_1 (by omega)) (fun c_1 => ?_)
  refine lv_iload_n hx hb dX6_dry_4 rfl (lv_at hl 1 rfl) ?_
  refine lv_sipush (v := iI (2000)) hx hb dX6_dry_5 (by decide +kernel) ?_
  refine zt_icmp_le (tgt := 21) hx hb dX6_dry_8 (by decide) (by omega) (fun c_2 => ?_) (fun c_2 => absurd c_2 (by omega))
  refine lv_aload_n hx hb dX6_dry_21 rfl (lv_at hl 0 rfl) ?_
  refine va_get (D := D) (ci := 5) (v := .ref bu) (C := RX6) (T := TX6) (N := 7) hx hb hts i6 hown hK.1 hP 0 rfl rfl 4 (by decide) f42 (fun _ h9 => h9) rfl dX6_dry_22 ?_
  refine lv_iload_n hx hb dX6_dry_25 rfl (lv_at hl 1 rfl) ?_
  refine zt_callV C (As := [.int (iI q)]) (rest := []) (c_X0_firstDry l D gi gc gr bu br ba rate bt bg q (by first | omega | assumption) (by first | omega | assumption) (by first | omega | assumption) (by first | omega | assumption)) (cwV 1 hts gX6_dry_X0_firstDry rfl rfl rfl (by decide +kernel) ⟨Nat.le_of_ble_eq_true rfl, Nat.le_of_ble_eq_true rfl⟩) (zt_preV hK (hP.sub (ws' := [(bu, .inr (0, [.ref br, .int (iI rate)])), (br, .inr (3, [.ref ba, .int (iI bt)])), (ba, aI gi 20 bg)]) [1, 2, 3] rfl) [.int (iI q)] 0 rfl rfl) rfl hl.1 rfl (Nat.le_of_ble_eq_true rfl) dX6_dry_26 ⟨Nat.le_of_ble_eq_true rfl, Nat.le_of_ble_eq_true rfl⟩ (fun r_3 hr_3 => ?_)
  obtain rfl := hr_3
  exact hQ _ _ _ (rfl) dX6_dry_29
set_option maxHeartbeats 4000000 in
set_option maxRecDepth 100000 in
theorem c_X6_house_0 (l : Launch) (D : va_G) (gi gc gr : ClassId) (h : Nat) (k1 : Nat) (d : Nat) (o : Nat) (w : Nat) (bu : Nat) (chg : Int) (rfd : Int) (k2 : Nat) (rn : Int) : Met l yX6_house wsX6_house { frames := 1, cells := 0, slots := 0, locals := 20 } (zPr D gi gc gr [(h, .inr (5, [.ref k1, .ref d, .ref o, .ref w, .ref bu, .int (iI chg), .int (iI rfd)])), (k1, .inr (3, [.ref k2, .int (iI rn)]))] [.ref h, .int (iI 0)]) (vp_Si (fun v => v = iI (rn))) 0 0 (fun _ => False) := by
  refine zt_metRi (own := RX6) (cc := cX6_house) (maxL := 2) (by decide) rfl rfl (Nat.le_of_ble_eq_true rfl) ?_
  intro p e s m args below meth c Q C hK hP hQ ls hl
  have hx := C.1
  have hb := C.2.1
  have hml := C.2.2.1
  have hown := C.2.2.2.1
  have hts := C.2.2.2.2
  have i6 : ∀ w ∈ u_ws RX6 TX6 7, w ∈ wsX6_house := by decide +kernel
  have f14 := hts (.fieldLink RX6 14 "Threetwo" "reel" "LThreetwo$Row;") (by decide +kernel)
  have hl : lv_has ls 2 [(0, .ref h), (1, .int (iI 0))] := hl
  refine lv_iload_n hx hb dX6_house_0 rfl (lv_at hl 1 rfl) ?_
  refine lv_tableIn (off := 63) (tgt := 64) hx hb dX6_house_1 (by decide +kernel) (by decide +kernel) (by decide +kernel) (by decide) ?_
  refine lv_aload_n hx hb dX6_house_64 rfl (lv_at hl 0 rfl) ?_
  refine va_get (D := D) (ci := 5) (v := .ref k1) (C := RX6) (T := TX6) (N := 7) hx hb hts i6 hown hK.1 hP 0 rfl rfl 0 (by decide) f14 (fun _ h9 => h9) rfl dX6_house_65 ?_
  refine zt_callV C (As := []) (rest := []) (c_X4_many l D gi gc gr k1 k2 rn) (cwV 0 hts gX6_house_X4_many rfl rfl rfl (by decide +kernel) ⟨Nat.le_of_ble_eq_true rfl, Nat.le_of_ble_eq_true rfl⟩) (zt_preV hK (hP.sub (ws' := [(k1, .inr (3, [.ref k2, .int (iI rn)]))]) [1] rfl) [] 0 rfl rfl) rfl hl.1 rfl (Nat.le_of_ble_eq_true rfl) dX6_house_68 ⟨Nat.le_of_ble_eq_true rfl, Nat.le_of_ble_eq_true rfl⟩ (fun r_1 hr_1 => ?_)
  obtain rfl := hr_1
  exact hQ _ _ _ (rfl) dX6_house_71
set_option maxHeartbeats 4000000 in
set_option maxRecDepth 100000 in
theorem c_X6_house_1 (l : Launch) (D : va_G) (gi gc gr : ClassId) (h : Nat) (k1 : Nat) (d : Nat) (o : Nat) (w : Nat) (bu : Nat) (chg : Int) (rfd : Int) (r2 : Nat) (n1 : Nat) (n2 : Nat) (sg : Nat) (nn : Int) (r : Nat) (a : Nat) (t : Int) : Met l yX6_house wsX6_house { frames := 1, cells := 0, slots := 0, locals := 20 } (zPr D gi gc gr [(h, .inr (5, [.ref k1, .ref d, .ref o, .ref w, .ref bu, .int (iI chg), .int (iI rfd)])), (d, .inr (4, [.ref r, .ref r2, .ref n1, .ref n2, .ref sg, .int (iI nn)])), (r, .inr (3, [.ref a, .int (iI t)]))] [.ref h, .int (iI 1)]) (vp_Si (fun v => v = iI (t))) 0 0 (fun _ => False) := by
  refine zt_metRi (own := RX6) (cc := cX6_house) (maxL := 2) (by decide) rfl rfl (Nat.le_of_ble_eq_true rfl) ?_
  intro p e s m args below meth c Q C hK hP hQ ls hl
  have hx := C.1
  have hb := C.2.1
  have hml := C.2.2.1
  have hown := C.2.2.2.1
  have hts := C.2.2.2.2
  have i5 : ∀ w ∈ u_ws RX5 TX5 6, w ∈ wsX6_house := by decide +kernel
  have i6 : ∀ w ∈ u_ws RX6 TX6 7, w ∈ wsX6_house := by decide +kernel
  have f21 := hts (.fieldLink RX6 21 "Threetwo" "strip" "LThreetwo$Strip;") (by decide +kernel)
  have hl : lv_has ls 2 [(0, .ref h), (1, .int (iI 1))] := hl
  refine lv_iload_n hx hb dX6_house_0 rfl (lv_at hl 1 rfl) ?_
  refine lv_tableIn (off := 71) (tgt := 72) hx hb dX6_house_1 (by decide +kernel) (by decide +kernel) (by decide +kernel) (by decide) ?_
  refine lv_aload_n hx hb dX6_house_72 rfl (lv_at hl 0 rfl) ?_
  refine va_get (D := D) (ci := 5) (v := .ref d) (C := RX6) (T := TX6) (N := 7) hx hb hts i6 hown hK.1 hP 0 rfl rfl 1 (by decide) f21 (fun _ h9 => h9) rfl dX6_house_73 ?_
  refine va_getN (D := D) (ci := 4) (v := .ref r) (C := RX5) (T := TX5) (N := 6) hx hb hts i5 hown hK.1 hP 1 rfl rfl 0 (by decide) (zK.n79 hK _) (fun _ h9 => h9) rfl dX6_house_76 ?_
  refine zt_callV C (As := []) (rest := []) (c_X4_many l D gi gc gr r a t) (cwV 0 hts gX6_house_X4_many rfl rfl rfl (by decide +kernel) ⟨Nat.le_of_ble_eq_true rfl, Nat.le_of_ble_eq_true rfl⟩) (zt_preV hK (hP.sub (ws' := [(r, .inr (3, [.ref a, .int (iI t)]))]) [2] rfl) [] 0 rfl rfl) rfl hl.1 rfl (Nat.le_of_ble_eq_true rfl) dX6_house_79 ⟨Nat.le_of_ble_eq_true rfl, Nat.le_of_ble_eq_true rfl⟩ (fun r_1 hr_1 => ?_)
  obtain rfl := hr_1
  exact hQ _ _ _ (rfl) dX6_house_82
set_option maxHeartbeats 4000000 in
set_option maxRecDepth 100000 in
theorem c_X6_house_2 (l : Launch) (D : va_G) (gi gc gr : ClassId) (h : Nat) (k1 : Nat) (d : Nat) (o : Nat) (w : Nat) (bu : Nat) (chg : Int) (rfd : Int) (r2 : Nat) (n1 : Nat) (n2 : Nat) (sg : Nat) (nn : Int) (r : Nat) : Met l yX6_house wsX6_house { frames := 0, cells := 0, slots := 0, locals := 0 } (zPr D gi gc gr [(h, .inr (5, [.ref k1, .ref d, .ref o, .ref w, .ref bu, .int (iI chg), .int (iI rfd)])), (d, .inr (4, [.ref r, .ref r2, .ref n1, .ref n2, .ref sg, .int (iI nn)]))] [.ref h, .int (iI 2)]) (vp_Si (fun v => v = iI (nn))) 0 0 (fun _ => False) := by
  refine zt_metRi (own := RX6) (cc := cX6_house) (maxL := 2) (by decide) rfl rfl (Nat.le_of_ble_eq_true rfl) ?_
  intro p e s m args below meth c Q C hK hP hQ ls hl
  have hx := C.1
  have hb := C.2.1
  have hml := C.2.2.1
  have hown := C.2.2.2.1
  have hts := C.2.2.2.2
  have i5 : ∀ w ∈ u_ws RX5 TX5 6, w ∈ wsX6_house := by decide +kernel
  have i6 : ∀ w ∈ u_ws RX6 TX6 7, w ∈ wsX6_house := by decide +kernel
  have f21 := hts (.fieldLink RX6 21 "Threetwo" "strip" "LThreetwo$Strip;") (by decide +kernel)
  have hl : lv_has ls 2 [(0, .ref h), (1, .int (iI 2))] := hl
  refine lv_iload_n hx hb dX6_house_0 rfl (lv_at hl 1 rfl) ?_
  refine lv_tableIn (off := 82) (tgt := 83) hx hb dX6_house_1 (by decide +kernel) (by decide +kernel) (by decide +kernel) (by decide) ?_
  refine lv_aload_n hx hb dX6_house_83 rfl (lv_at hl 0 rfl) ?_
  refine va_get (D := D) (ci := 5) (v := .ref d) (C := RX6) (T := TX6) (N := 7) hx hb hts i6 hown hK.1 hP 0 rfl rfl 1 (by decide) f21 (fun _ h9 => h9) rfl dX6_house_84 ?_
  refine va_getN (D := D) (ci := 4) (v := .int (iI nn)) (C := RX5) (T := TX5) (N := 6) hx hb hts i5 hown hK.1 hP 1 rfl rfl 5 (by decide) (zK.n184 hK _) (fun _ h9 => h9) rfl dX6_house_87 ?_
  exact hQ _ _ _ (rfl) dX6_house_90
set_option maxHeartbeats 4000000 in
set_option maxRecDepth 100000 in
theorem c_X6_house_3 (l : Launch) (D : va_G) (gi gc gr : ClassId) (h : Nat) (k1 : Nat) (d : Nat) (o : Nat) (w : Nat) (bu : Nat) (chg : Int) (rfd : Int) : Met l yX6_house wsX6_house { frames := 0, cells := 0, slots := 0, locals := 0 } (zPr D gi gc gr [(h, .inr (5, [.ref k1, .ref d, .ref o, .ref w, .ref bu, .int (iI chg), .int (iI rfd)]))] [.ref h, .int (iI 3)]) (vp_Si (fun v => v = iI (chg))) 0 0 (fun _ => False) := by
  refine zt_metRi (own := RX6) (cc := cX6_house) (maxL := 2) (by decide) rfl rfl (Nat.le_of_ble_eq_true rfl) ?_
  intro p e s m args below meth c Q C hK hP hQ ls hl
  have hx := C.1
  have hb := C.2.1
  have hml := C.2.2.1
  have hown := C.2.2.2.1
  have hts := C.2.2.2.2
  have i6 : ∀ w ∈ u_ws RX6 TX6 7, w ∈ wsX6_house := by decide +kernel
  have f46 := hts (.fieldLink RX6 46 "Threetwo" "changeNow" "I") (by decide +kernel)
  have hl : lv_has ls 2 [(0, .ref h), (1, .int (iI 3))] := hl
  refine lv_iload_n hx hb dX6_house_0 rfl (lv_at hl 1 rfl) ?_
  refine lv_tableIn (off := 90) (tgt := 91) hx hb dX6_house_1 (by decide +kernel) (by decide +kernel) (by decide +kernel) (by decide) ?_
  refine lv_aload_n hx hb dX6_house_91 rfl (lv_at hl 0 rfl) ?_
  refine va_get (D := D) (ci := 5) (v := .int (iI chg)) (C := RX6) (T := TX6) (N := 7) hx hb hts i6 hown hK.1 hP 0 rfl rfl 5 (by decide) f46 (fun _ h9 => h9) rfl dX6_house_92 ?_
  exact hQ _ _ _ (rfl) dX6_house_95
set_option maxHeartbeats 4000000 in
set_option maxRecDepth 100000 in
theorem c_X6_house_4 (l : Launch) (D : va_G) (gi gc gr : ClassId) (h : Nat) (k1 : Nat) (d : Nat) (o : Nat) (w : Nat) (bu : Nat) (chg : Int) (rfd : Int) (r2 : Nat) (n1 : Nat) (n2 : Nat) (sg : Nat) (nn : Int) (r : Nat) (q1 : Nat) (q2 : Nat) (q3 : Nat) (q4 : Nat) (q5 : Nat) (q6 : Nat) (cst : Int) (F : Int) : Met l yX6_house wsX6_house { frames := 1, cells := 0, slots := 0, locals := 23 } (zPr D gi gc gr [(h, .inr (5, [.ref k1, .ref d, .ref o, .ref w, .ref bu, .int (iI chg), .int (iI rfd)])), (d, .inr (4, [.ref r, .ref r2, .ref n1, .ref n2, .ref sg, .int (iI nn)])), (o, .inr (2, [.ref q1, .ref q2, .ref q3, .ref q4, .ref q5, .ref q6, .int (iI cst), .int (iI F), .int (iI 1)]))] [.ref h, .int (iI 4)]) (vp_Si (fun v => v = iI (cst))) 0 0 (fun _ => False) := by
  refine zt_metRi (own := RX6) (cc := cX6_house) (maxL := 2) (by decide) rfl rfl (Nat.le_of_ble_eq_true rfl) ?_
  intro p e s m args below meth c Q C hK hP hQ ls hl
  have hx := C.1
  have hb := C.2.1
  have hml := C.2.2.1
  have hown := C.2.2.2.1
  have hts := C.2.2.2.2
  have i3 : ∀ w ∈ u_ws RX3 TX3 9, w ∈ wsX6_house := by decide +kernel
  have i5 : ∀ w ∈ u_ws RX5 TX5 6, w ∈ wsX6_house := by decide +kernel
  have i6 : ∀ w ∈ u_ws RX6 TX6 7, w ∈ wsX6_house := by decide +kernel
  have f21 := hts (.fieldLink RX6 21 "Threetwo" "strip" "LThreetwo$Strip;") (by decide +kernel)
  have f28 := hts (.fieldLink RX6 28 "Threetwo" "rhythm" "LThreetwo$Rhythm;") (by decide +kernel)
  have f46 := hts (.fieldLink RX6 46 "Threetwo" "changeNow" "I") (by decide +kernel)
  have hl : lv_has ls 2 [(0, .ref h), (1, .int (iI 4))] := hl
  refine lv_iload_n hx hb dX6_house_0 rfl (lv_at hl 1 rfl) ?_
  refine lv_tableIn (off := 95) (tgt := 96) hx hb dX6_house_1 (by decide +kernel) (by decide +kernel) (by decide +kernel) (by decide) ?_
  refine lv_aload_n hx hb dX6_house_96 rfl (lv_at hl 0 rfl) ?_
  refine va_get (D := D) (ci := 5) (v := .ref o) (C := RX6) (T := TX6) (N := 7) hx hb hts i6 hown hK.1 hP 0 rfl rfl 2 (by decide) f28 (fun _ h9 => h9) rfl dX6_house_97 ?_
  refine lv_aload_n hx hb dX6_house_100 rfl (lv_at hl 0 rfl) ?_
  refine va_get (D := D) (ci := 5) (v := .ref d) (C := RX6) (T := TX6) (N := 7) hx hb hts i6 hown hK.1 hP 0 rfl rfl 1 (by decide) f21 (fun _ h9 => h9) rfl dX6_house_101 ?_
  refine va_getN (D := D) (ci := 4) (v := .ref r) (C := RX5) (T := TX5) (N := 6) hx hb hts i5 hown hK.1 hP 1 rfl rfl 0 (by decide) (zK.n79 hK _) (fun _ h9 => h9) rfl dX6_house_104 ?_
  refine lv_aload_n hx hb dX6_house_107 rfl (lv_at hl 0 rfl) ?_
  refine va_get (D := D) (ci := 5) (v := .int (iI chg)) (C := RX6) (T := TX6) (N := 7) hx hb hts i6 hown hK.1 hP 0 rfl rfl 5 (by decide) f46 (fun _ h9 => h9) rfl dX6_house_108 ?_
  refine zt_callVv C (As := [.ref r, .int (iI chg)]) (rest := []) (c_X3_find1 l D gi gc gr o q1 q2 q3 q4 q5 q6 cst F r chg) (cwV 2 hts gX6_house_X3_find rfl rfl rfl (by decide +kernel) ⟨Nat.le_of_ble_eq_true rfl, Nat.le_of_ble_eq_true rfl⟩) (zt_preV hK (hP.sub (ws' := [(o, .inr (2, [.ref q1, .ref q2, .ref q3, .ref q4, .ref q5, .ref q6, .int (iI cst), .int (iI F), .int (iI 1)]))]) [2] rfl) [.ref r, .int (iI chg)] 0 rfl rfl) rfl hl.1 rfl (Nat.le_of_ble_eq_true rfl) dX6_house_111 ⟨Nat.le_of_ble_eq_true rfl, Nat.le_of_ble_eq_true rfl⟩ (fun hr_1 => ?_)
  refine lv_aload_n hx hb dX6_house_114 rfl (lv_at hl 0 rfl) ?_
  refine va_get (D := D) (ci := 5) (v := .ref o) (C := RX6) (T := TX6) (N := 7) hx hb hts i6 hown hK.1 hP 0 rfl rfl 2 (by decide) f28 (fun _ h9 => h9) rfl dX6_house_115 ?_
  refine va_getN (D := D) (ci := 2) (v := .int (iI cst)) (C := RX3) (T := TX3) (N := 9) hx hb hts i3 hown hK.1 hP 2 rfl rfl 6 (by decide) (zK.n187 hK _) (fun _ h9 => h9) rfl dX6_house_118 ?_
  exact hQ _ _ _ (rfl) dX6_house_121
set_option maxHeartbeats 4000000 in
set_option maxRecDepth 100000 in
theorem c_X6_house_5 (l : Launch) (D : va_G) (gi gc gr : ClassId) (h : Nat) (k1 : Nat) (d : Nat) (o : Nat) (w : Nat) (bu : Nat) (chg : Int) (rfd : Int) (r2 : Nat) (n1 : Nat) (n2 : Nat) (sg : Nat) (nn : Int) (r : Nat) (q1 : Nat) (q2 : Nat) (q3 : Nat) (q4 : Nat) (q5 : Nat) (q6 : Nat) (cst : Int) (F : Int) : Met l yX6_house wsX6_house { frames := 1, cells := 0, slots := 0, locals := 23 } (zPr D gi gc gr [(h, .inr (5, [.ref k1, .ref d, .ref o, .ref w, .ref bu, .int (iI chg), .int (iI rfd)])), (d, .inr (4, [.ref r, .ref r2, .ref n1, .ref n2, .ref sg, .int (iI nn)])), (o, .inr (2, [.ref q1, .ref q2, .ref q3, .ref q4, .ref q5, .ref q6, .int (iI cst), .int (iI F), .int (iI 1)]))] [.ref h, .int (iI 5)]) (vp_Si (fun v => v = iI (F))) 0 0 (fun _ => False) := by
  refine zt_metRi (own := RX6) (cc := cX6_house) (maxL := 2) (by decide) rfl rfl (Nat.le_of_ble_eq_true rfl) ?_
  intro p e s m args below meth c Q C hK hP hQ ls hl
  have hx := C.1
  have hb := C.2.1
  have hml := C.2.2.1
  have hown := C.2.2.2.1
  have hts := C.2.2.2.2
  have i3 : ∀ w ∈ u_ws RX3 TX3 9, w ∈ wsX6_house := by decide +kernel
  have i5 : ∀ w ∈ u_ws RX5 TX5 6, w ∈ wsX6_house := by decide +kernel
  have i6 : ∀ w ∈ u_ws RX6 TX6 7, w ∈ wsX6_house := by decide +kernel
  have f21 := hts (.fieldLink RX6 21 "Threetwo" "strip" "LThreetwo$Strip;") (by decide +kernel)
  have f28 := hts (.fieldLink RX6 28 "Threetwo" "rhythm" "LThreetwo$Rhythm;") (by decide +kernel)
  have f46 := hts (.fieldLink RX6 46 "Threetwo" "changeNow" "I") (by decide +kernel)
  have hl : lv_has ls 2 [(0, .ref h), (1, .int (iI 5))] := hl
  refine lv_iload_n hx hb dX6_house_0 rfl (lv_at hl 1 rfl) ?_
  refine lv_tableIn (off := 121) (tgt := 122) hx hb dX6_house_1 (by decide +kernel) (by decide +kernel) (by decide +kernel) (by decide) ?_
  refine lv_aload_n hx hb dX6_house_122 rfl (lv_at hl 0 rfl) ?_
  refine va_get (D := D) (ci := 5) (v := .ref o) (C := RX6) (T := TX6) (N := 7) hx hb hts i6 hown hK.1 hP 0 rfl rfl 2 (by decide) f28 (fun _ h9 => h9) rfl dX6_house_123 ?_
  refine lv_aload_n hx hb dX6_house_126 rfl (lv_at hl 0 rfl) ?_
  refine va_get (D := D) (ci := 5) (v := .ref d) (C := RX6) (T := TX6) (N := 7) hx hb hts i6 hown hK.1 hP 0 rfl rfl 1 (by decide) f21 (fun _ h9 => h9) rfl dX6_house_127 ?_
  refine va_getN (D := D) (ci := 4) (v := .ref r) (C := RX5) (T := TX5) (N := 6) hx hb hts i5 hown hK.1 hP 1 rfl rfl 0 (by decide) (zK.n79 hK _) (fun _ h9 => h9) rfl dX6_house_130 ?_
  refine lv_aload_n hx hb dX6_house_133 rfl (lv_at hl 0 rfl) ?_
  refine va_get (D := D) (ci := 5) (v := .int (iI chg)) (C := RX6) (T := TX6) (N := 7) hx hb hts i6 hown hK.1 hP 0 rfl rfl 5 (by decide) f46 (fun _ h9 => h9) rfl dX6_house_134 ?_
  refine zt_callVv C (As := [.ref r, .int (iI chg)]) (rest := []) (c_X3_find1 l D gi gc gr o q1 q2 q3 q4 q5 q6 cst F r chg) (cwV 2 hts gX6_house_X3_find rfl rfl rfl (by decide +kernel) ⟨Nat.le_of_ble_eq_true rfl, Nat.le_of_ble_eq_true rfl⟩) (zt_preV hK (hP.sub (ws' := [(o, .inr (2, [.ref q1, .ref q2, .ref q3, .ref q4, .ref q5, .ref q6, .int (iI cst), .int (iI F), .int (iI 1)]))]) [2] rfl) [.ref r, .int (iI chg)] 0 rfl rfl) rfl hl.1 rfl (Nat.le_of_ble_eq_true rfl) dX6_house_137 ⟨Nat.le_of_ble_eq_true rfl, Nat.le_of_ble_eq_true rfl⟩ (fun hr_1 => ?_)
  refine lv_aload_n hx hb dX6_house_140 rfl (lv_at hl 0 rfl) ?_
  refine va_get (D := D) (ci := 5) (v := .ref o) (C := RX6) (T := TX6) (N := 7) hx hb hts i6 hown hK.1 hP 0 rfl rfl 2 (by decide) f28 (fun _ h9 => h9) rfl dX6_house_141 ?_
  refine va_getN (D := D) (ci := 2) (v := .int (iI F)) (C := RX3) (T := TX3) (N := 9) hx hb hts i3 hown hK.1 hP 2 rfl rfl 7 (by decide) (zK.n148 hK _) (fun _ h9 => h9) rfl dX6_house_144 ?_
  exact hQ _ _ _ (rfl) dX6_house_147
set_option maxHeartbeats 4000000 in
set_option maxRecDepth 100000 in
theorem c_X6_house_6 (l : Launch) (D : va_G) (gi gc gr : ClassId) (h : Nat) (k1 : Nat) (d : Nat) (o : Nat) (w : Nat) (bu : Nat) (chg : Int) (rfd : Int) (rw : Nat) (bq : Nat) (sq : Nat) (mp : Int) : Met l yX6_house wsX6_house { frames := 0, cells := 0, slots := 0, locals := 0 } (zPr D gi gc gr [(h, .inr (5, [.ref k1, .ref d, .ref o, .ref w, .ref bu, .int (iI chg), .int (iI rfd)])), (w, .inr (1, [.ref rw, .ref bq, .ref sq, .int (iI mp)]))] [.ref h, .int (iI 6)]) (vp_Si (fun v => v = iI (mp))) 0 0 (fun _ => False) := by
  refine zt_metRi (own := RX6) (cc := cX6_house) (maxL := 2) (by decide) rfl rfl (Nat.le_of_ble_eq_true rfl) ?_
  intro p e s m args below meth c Q C hK hP hQ ls hl
  have hx := C.1
  have hb := C.2.1
  have hml := C.2.2.1
  have hown := C.2.2.2.1
  have hts := C.2.2.2.2
  have i2 : ∀ w ∈ u_ws RX2 TX2 4, w ∈ wsX6_house := by decide +kernel
  have i6 : ∀ w ∈ u_ws RX6 TX6 7, w ∈ wsX6_house := by decide +kernel
  have f35 := hts (.fieldLink RX6 35 "Threetwo" "prints" "LThreetwo$Prints;") (by decide +kernel)
  have hl : lv_has ls 2 [(0, .ref h), (1, .int (iI 6))] := hl
  refine lv_iload_n hx hb dX6_house_0 rfl (lv_at hl 1 rfl) ?_
  refine lv_tableIn (off := 147) (tgt := 148) hx hb dX6_house_1 (by decide +kernel) (by decide +kernel) (by decide +kernel) (by decide) ?_
  refine lv_aload_n hx hb dX6_house_148 rfl (lv_at hl 0 rfl) ?_
  refine va_get (D := D) (ci := 5) (v := .ref w) (C := RX6) (T := TX6) (N := 7) hx hb hts i6 hown hK.1 hP 0 rfl rfl 3 (by decide) f35 (fun _ h9 => h9) rfl dX6_house_149 ?_
  refine va_getN (D := D) (ci := 1) (v := .int (iI mp)) (C := RX2) (T := TX2) (N := 4) hx hb hts i2 hown hK.1 hP 1 rfl rfl 3 (by decide) (zK.n190 hK _) (fun _ h9 => h9) rfl dX6_house_152 ?_
  exact hQ _ _ _ (rfl) dX6_house_155
set_option maxHeartbeats 4000000 in
set_option maxRecDepth 100000 in
theorem c_X6_house_7 (l : Launch) (D : va_G) (gi gc gr : ClassId) (h : Nat) (k1 : Nat) (d : Nat) (o : Nat) (w : Nat) (bu : Nat) (chg : Int) (rfd : Int) (br : Nat) (rate : Int) : Met l yX6_house wsX6_house { frames := 0, cells := 0, slots := 0, locals := 0 } (zPr D gi gc gr [(h, .inr (5, [.ref k1, .ref d, .ref o, .ref w, .ref bu, .int (iI chg), .int (iI rfd)])), (bu, .inr (0, [.ref br, .int (iI rate)]))] [.ref h, .int (iI 7)]) (vp_Si (fun v => v = iI (rate))) 0 0 (fun _ => False) := by
  refine zt_metRi (own := RX6) (cc := cX6_house) (maxL := 2) (by decide) rfl rfl (Nat.le_of_ble_eq_true rfl) ?_
  intro p e s m args below meth c Q C hK hP hQ ls hl
  have hx := C.1
  have hb := C.2.1
  have hml := C.2.2.1
  have hown := C.2.2.2.1
  have hts := C.2.2.2.2
  have i0 : ∀ w ∈ u_ws RX0 TX0 2, w ∈ wsX6_house := by decide +kernel
  have i6 : ∀ w ∈ u_ws RX6 TX6 7, w ∈ wsX6_house := by decide +kernel
  have f42 := hts (.fieldLink RX6 42 "Threetwo" "buffer" "LThreetwo$Buffer;") (by decide +kernel)
  have hl : lv_has ls 2 [(0, .ref h), (1, .int (iI 7))] := hl
  refine lv_iload_n hx hb dX6_house_0 rfl (lv_at hl 1 rfl) ?_
  refine lv_tableIn (off := 155) (tgt := 156) hx hb dX6_house_1 (by decide +kernel) (by decide +kernel) (by decide +kernel) (by decide) ?_
  refine lv_aload_n hx hb dX6_house_156 rfl (lv_at hl 0 rfl) ?_
  refine va_get (D := D) (ci := 5) (v := .ref bu) (C := RX6) (T := TX6) (N := 7) hx hb hts i6 hown hK.1 hP 0 rfl rfl 4 (by decide) f42 (fun _ h9 => h9) rfl dX6_house_157 ?_
  refine va_getN (D := D) (ci := 0) (v := .int (iI rate)) (C := RX0) (T := TX0) (N := 2) hx hb hts i0 hown hK.1 hP 1 rfl rfl 1 (by decide) (zK.n122 hK _) (fun _ h9 => h9) rfl dX6_house_160 ?_
  exact hQ _ _ _ (rfl) dX6_house_163
set_option maxHeartbeats 4000000 in
set_option maxRecDepth 100000 in
theorem c_X6_house_8 (l : Launch) (D : va_G) (gi gc gr : ClassId) (h : Nat) (k1 : Nat) (d : Nat) (o : Nat) (w : Nat) (bu : Nat) (chg : Int) (rfd : Int) (br : Nat) (ba : Nat) (rate : Int) (bt : Int) : Met l yX6_house wsX6_house { frames := 1, cells := 0, slots := 0, locals := 20 } (zPr D gi gc gr [(h, .inr (5, [.ref k1, .ref d, .ref o, .ref w, .ref bu, .int (iI chg), .int (iI rfd)])), (bu, .inr (0, [.ref br, .int (iI rate)])), (br, .inr (3, [.ref ba, .int (iI bt)]))] [.ref h, .int (iI 8)]) (vp_Si (fun v => v = iI (bt))) 0 0 (fun _ => False) := by
  refine zt_metRi (own := RX6) (cc := cX6_house) (maxL := 2) (by decide) rfl rfl (Nat.le_of_ble_eq_true rfl) ?_
  intro p e s m args below meth c Q C hK hP hQ ls hl
  have hx := C.1
  have hb := C.2.1
  have hml := C.2.2.1
  have hown := C.2.2.2.1
  have hts := C.2.2.2.2
  have i0 : ∀ w ∈ u_ws RX0 TX0 2, w ∈ wsX6_house := by decide +kernel
  have i6 : ∀ w ∈ u_ws RX6 TX6 7, w ∈ wsX6_house := by decide +kernel
  have f42 := hts (.fieldLink RX6 42 "Threetwo" "buffer" "LThreetwo$Buffer;") (by decide +kernel)
  have hl : lv_has ls 2 [(0, .ref h), (1, .int (iI 8))] := hl
  refine lv_iload_n hx hb dX6_house_0 rfl (lv_at hl 1 rfl) ?_
  refine lv_tableIn (off := 163) (tgt := 164) hx hb dX6_house_1 (by decide +kernel) (by decide +kernel) (by decide +kernel) (by decide) ?_
  refine lv_aload_n hx hb dX6_house_164 rfl (lv_at hl 0 rfl) ?_
  refine va_get (D := D) (ci := 5) (v := .ref bu) (C := RX6) (T := TX6) (N := 7) hx hb hts i6 hown hK.1 hP 0 rfl rfl 4 (by decide) f42 (fun _ h9 => h9) rfl dX6_house_165 ?_
  refine va_getN (D := D) (ci := 0) (v := .ref br) (C := RX0) (T := TX0) (N := 2) hx hb hts i0 hown hK.1 hP 1 rfl rfl 0 (by decide) (zK.n127 hK _) (fun _ h9 => h9) rfl dX6_house_168 ?_
  refine zt_callV C (As := []) (rest := []) (c_X4_many l D gi gc gr br ba bt) (cwV 0 hts gX6_house_X4_many rfl rfl rfl (by decide +kernel) ⟨Nat.le_of_ble_eq_true rfl, Nat.le_of_ble_eq_true rfl⟩) (zt_preV hK (hP.sub (ws' := [(br, .inr (3, [.ref ba, .int (iI bt)]))]) [2] rfl) [] 0 rfl rfl) rfl hl.1 rfl (Nat.le_of_ble_eq_true rfl) dX6_house_171 ⟨Nat.le_of_ble_eq_true rfl, Nat.le_of_ble_eq_true rfl⟩ (fun r_1 hr_1 => ?_)
  obtain rfl := hr_1
  exact hQ _ _ _ (rfl) dX6_house_174
set_option maxHeartbeats 4000000 in
set_option maxRecDepth 100000 in
theorem c_X6_house_9 (l : Launch) (D : va_G) (gi gc gr : ClassId) (h : Nat) (k1 : Nat) (d : Nat) (o : Nat) (w : Nat) (bu : Nat) (chg : Int) (rfd : Int) (br : Nat) (ba : Nat) (rate : Int) (bt : Int) (bg : Nat → Int) (hr : 1 ≤ rate ∧ rate ≤ 50) (hbt : 0 ≤ bt ∧ bt ≤ 20) (hbg : ∀ j : Nat, (j : Int) < bt → 0 ≤ bg j ∧ bg j ≤ 99) : Met l yX6_house wsX6_house { frames := 2, cells := 0, slots := 0, locals := 45 } (zPr D gi gc gr [(h, .inr (5, [.ref k1, .ref d, .ref o, .ref w, .ref bu, .int (iI chg), .int (iI rfd)])), (bu, .inr (0, [.ref br, .int (iI rate)])), (br, .inr (3, [.ref ba, .int (iI bt)])), (ba, aI gi 20 bg)] [.ref h, .int (iI 9)]) (vp_Si (fun v => v = iI (leastL rate bg bt.toNat))) 0 0 (fun _ => False) := by
  refine zt_metRi (own := RX6) (cc := cX6_house) (maxL := 2) (by decide) rfl rfl (Nat.le_of_ble_eq_true rfl) ?_
  intro p e s m args below meth c Q C hK hP hQ ls hl
  have hx := C.1
  have hb := C.2.1
  have hml := C.2.2.1
  have hown := C.2.2.2.1
  have hts := C.2.2.2.2
  have i6 : ∀ w ∈ u_ws RX6 TX6 7, w ∈ wsX6_house := by decide +kernel
  have f42 := hts (.fieldLink RX6 42 "Threetwo" "buffer" "LThreetwo$Buffer;") (by decide +kernel)
  have hl : lv_has ls 2 [(0, .ref h), (1, .int (iI 9))] := hl
  refine lv_iload_n hx hb dX6_house_0 rfl (lv_at hl 1 rfl) ?_
  refine lv_tableIn (off := 174) (tgt := 175) hx hb dX6_house_1 (by decide +kernel) (by decide +kernel) (by decide +kernel) (by decide) ?_
  refine lv_aload_n hx hb dX6_house_175 rfl (lv_at hl 0 rfl) ?_
  refine va_get (D := D) (ci := 5) (v := .ref bu) (C := RX6) (T := TX6) (N := 7) hx hb hts i6 hown hK.1 hP 0 rfl rfl 4 (by decide) f42 (fun _ h9 => h9) rfl dX6_house_176 ?_
  refine zt_callV C (As := []) (rest := []) (c_X0_leastDelay l D gi gc gr bu br ba rate bt bg (by first | omega | assumption) (by first | omega | assumption) (by first | omega | assumption)) (cwV 0 hts gX6_house_X0_leastDelay rfl rfl rfl (by decide +kernel) ⟨Nat.le_of_ble_eq_true rfl, Nat.le_of_ble_eq_true rfl⟩) (zt_preV hK (hP.sub (ws' := [(bu, .inr (0, [.ref br, .int (iI rate)])), (br, .inr (3, [.ref ba, .int (iI bt)])), (ba, aI gi 20 bg)]) [1, 2, 3] rfl) [] 0 rfl rfl) rfl hl.1 rfl (Nat.le_of_ble_eq_true rfl) dX6_house_179 ⟨Nat.le_of_ble_eq_true rfl, Nat.le_of_ble_eq_true rfl⟩ (fun r_1 hr_1 => ?_)
  obtain rfl := hr_1
  exact hQ _ _ _ (rfl) dX6_house_182
set_option maxHeartbeats 4000000 in
set_option maxRecDepth 100000 in
theorem c_X6_house_10 (l : Launch) (D : va_G) (gi gc gr : ClassId) (h : Nat) (k1 : Nat) (d : Nat) (o : Nat) (w : Nat) (bu : Nat) (chg : Int) (rfd : Int) (br : Nat) (ba : Nat) (rate : Int) (bt : Int) (bg : Nat → Int) (hr : 1 ≤ rate ∧ rate ≤ 50) (hbt : 0 ≤ bt ∧ bt ≤ 20) (hbg : ∀ j : Nat, (j : Int) < bt → 0 ≤ bg j ∧ bg j ≤ 99) : Met l yX6_house wsX6_house { frames := 3, cells := 0, slots := 0, locals := 70 } (zPr D gi gc gr [(h, .inr (5, [.ref k1, .ref d, .ref o, .ref w, .ref bu, .int (iI chg), .int (iI rfd)])), (bu, .inr (0, [.ref br, .int (iI rate)])), (br, .inr (3, [.ref ba, .int (iI bt)])), (ba, aI gi 20 bg)] [.ref h, .int (iI 10)]) (vp_Si (fun v => v = iI (peakL rate (leastL rate bg bt.toNat) (sumF bg bt.toNat) bg bt.toNat))) 0 0 (fun _ => False) := by
  refine zt_metRi (own := RX6) (cc := cX6_house) (maxL := 2) (by decide) rfl rfl (Nat.le_of_ble_eq_true rfl) ?_
  intro p e s m args below meth c Q C hK hP hQ ls hl
  have hx := C.1
  have hb := C.2.1
  have hml := C.2.2.1
  have hown := C.2.2.2.1
  have hts := C.2.2.2.2
  have i6 : ∀ w ∈ u_ws RX6 TX6 7, w ∈ wsX6_house := by decide +kernel
  have f42 := hts (.fieldLink RX6 42 "Threetwo" "buffer" "LThreetwo$Buffer;") (by decide +kernel)
  have hl : lv_has ls 2 [(0, .ref h), (1, .int (iI 10))] := hl
  refine lv_iload_n hx hb dX6_house_0 rfl (lv_at hl 1 rfl) ?_
  refine lv_tableIn (off := 182) (tgt := 183) hx hb dX6_house_1 (by decide +kernel) (by decide +kernel) (by decide +kernel) (by decide) ?_
  refine lv_aload_n hx hb dX6_house_183 rfl (lv_at hl 0 rfl) ?_
  refine va_get (D := D) (ci := 5) (v := .ref bu) (C := RX6) (T := TX6) (N := 7) hx hb hts i6 hown hK.1 hP 0 rfl rfl 4 (by decide) f42 (fun _ h9 => h9) rfl dX6_house_184 ?_
  refine zt_callV C (As := []) (rest := []) (c_X0_peak l D gi gc gr bu br ba rate bt bg (by first | omega | assumption) (by first | omega | assumption) (by first | omega | assumption)) (cwV 0 hts gX6_house_X0_peak rfl rfl rfl (by decide +kernel) ⟨Nat.le_of_ble_eq_true rfl, Nat.le_of_ble_eq_true rfl⟩) (zt_preV hK (hP.sub (ws' := [(bu, .inr (0, [.ref br, .int (iI rate)])), (br, .inr (3, [.ref ba, .int (iI bt)])), (ba, aI gi 20 bg)]) [1, 2, 3] rfl) [] 0 rfl rfl) rfl hl.1 rfl (Nat.le_of_ble_eq_true rfl) dX6_house_187 ⟨Nat.le_of_ble_eq_true rfl, Nat.le_of_ble_eq_true rfl⟩ (fun r_1 hr_1 => ?_)
  obtain rfl := hr_1
  exact hQ _ _ _ (rfl) dX6_house_190
set_option maxHeartbeats 4000000 in
set_option maxRecDepth 100000 in
theorem c_X6_house_11 (l : Launch) (D : va_G) (gi gc gr : ClassId) (h : Nat) (k1 : Nat) (d : Nat) (o : Nat) (w : Nat) (bu : Nat) (chg : Int) (rfd : Int) : Met l yX6_house wsX6_house { frames := 0, cells := 0, slots := 0, locals := 0 } (zPr D gi gc gr [(h, .inr (5, [.ref k1, .ref d, .ref o, .ref w, .ref bu, .int (iI chg), .int (iI rfd)]))] [.ref h, .int (iI 11)]) (vp_Si (fun v => v = iI (rfd))) 0 0 (fun _ => False) := by
  refine zt_metRi (own := RX6) (cc := cX6_house) (maxL := 2) (by decide) rfl rfl (Nat.le_of_ble_eq_true rfl) ?_
  intro p e s m args below meth c Q C hK hP hQ ls hl
  have hx := C.1
  have hb := C.2.1
  have hml := C.2.2.1
  have hown := C.2.2.2.1
  have hts := C.2.2.2.2
  have i6 : ∀ w ∈ u_ws RX6 TX6 7, w ∈ wsX6_house := by decide +kernel
  have f50 := hts (.fieldLink RX6 50 "Threetwo" "refused" "I") (by decide +kernel)
  have hl : lv_has ls 2 [(0, .ref h), (1, .int (iI 11))] := hl
  refine lv_iload_n hx hb dX6_house_0 rfl (lv_at hl 1 rfl) ?_
  refine lv_tableIn (off := 190) (tgt := 191) hx hb dX6_house_1 (by decide +kernel) (by decide +kernel) (by decide +kernel) (by decide) ?_
  refine lv_aload_n hx hb dX6_house_191 rfl (lv_at hl 0 rfl) ?_
  refine va_get (D := D) (ci := 5) (v := .int (iI rfd)) (C := RX6) (T := TX6) (N := 7) hx hb hts i6 hown hK.1 hP 0 rfl rfl 6 (by decide) f50 (fun _ h9 => h9) rfl dX6_house_192 ?_
  exact hQ _ _ _ (rfl) dX6_house_195
set_option maxHeartbeats 4000000 in
set_option maxRecDepth 100000 in
theorem c_X6_ofField_0 (l : Launch) (D : va_G) (gi gc gr : ClassId) (h : Nat) (k1 : Nat) (d : Nat) (o : Nat) (w : Nat) (bu : Nat) (chg : Int) (rfd : Int) (r2 : Nat) (n1 : Nat) (n2 : Nat) (sg : Nat) (nn : Int) (r : Nat) (a : Nat) (t : Int) (g : Nat → Int) (q1 : Nat) (q2 : Nat) (q3 : Nat) (q4 : Nat) (q5 : Nat) (q6 : Nat) (cst : Int) (F : Int) (f : Int) (ht : 0 ≤ t ∧ t ≤ 60) (hf : 0 ≤ f ∧ f < t) : Met l yX6_ofField wsX6_ofField { frames := 2, cells := 0, slots := 0, locals := 42 } (zPr D gi gc gr [(h, .inr (5, [.ref k1, .ref d, .ref o, .ref w, .ref bu, .int (iI chg), .int (iI rfd)])), (d, .inr (4, [.ref r, .ref r2, .ref n1, .ref n2, .ref sg, .int (iI nn)])), (r, .inr (3, [.ref a, .int (iI t)])), (a, aI gi 60 g), (o, .inr (2, [.ref q1, .ref q2, .ref q3, .ref q4, .ref q5, .ref q6, .int (iI cst), .int (iI F), .int (iI 1)]))] [.ref h, .int (iI f), .int (iI 0)]) (vp_Si (fun v => v = iI (g f.toNat))) 0 0 (fun _ => False) := by
  refine zt_metRi (own := RX6) (cc := cX6_ofField) (maxL := 3) (by decide) rfl rfl (Nat.le_of_ble_eq_true rfl) ?_
  intro p e s m args below meth c Q C hK hP hQ ls hl
  have hx := C.1
  have hb := C.2.1
  have hml := C.2.2.1
  have hown := C.2.2.2.1
  have hts := C.2.2.2.2
  have i5 : ∀ w ∈ u_ws RX5 TX5 6, w ∈ wsX6_ofField := by decide +kernel
  have i6 : ∀ w ∈ u_ws RX6 TX6 7, w ∈ wsX6_ofField := by decide +kernel
  have f21 := hts (.fieldLink RX6 21 "Threetwo" "strip" "LThreetwo$Strip;") (by decide +kernel)
  have f28 := hts (.fieldLink RX6 28 "Threetwo" "rhythm" "LThreetwo$Rhythm;") (by decide +kernel)
  have f46 := hts (.fieldLink RX6 46 "Threetwo" "changeNow" "I") (by decide +kernel)
  have hl : lv_has ls 3 [(0, .ref h), (1, .int (iI f)), (2, .int (iI 0))] := hl
  refine lv_aload_n hx hb dX6_ofField_0 rfl (lv_at hl 0 rfl) ?_
  refine lv_iload_n hx hb dX6_ofField_1 rfl (lv_at hl 1 rfl) ?_
  refine zt_callVv C (As := [.int (iI f)]) (rest := []) (c_X6_requireField l D gi gc gr h k1 d o w bu chg rfd r2 n1 n2 sg nn r a t f (by first | omega | assumption) (by first | omega | assumption)) (cwV 1 hts gX6_ofField_X6_requireField rfl rfl rfl (by decide +kernel) ⟨Nat.le_of_ble_eq_true rfl, Nat.le_of_ble_eq_true rfl⟩) (zt_preV hK (hP.sub (ws' := [(h, .inr (5, [.ref k1, .ref d, .ref o, .ref w, .ref bu, .int (iI chg), .int (iI rfd)])), (d, .inr (4, [.ref r, .ref r2, .ref n1, .ref n2, .ref sg, .int (iI nn)])), (r, .inr (3, [.ref a, .int (iI t)]))]) [0, 1, 2] rfl) [.int (iI f)] 0 rfl rfl) rfl hl.1 rfl (Nat.le_of_ble_eq_true rfl) dX6_ofField_2 ⟨Nat.le_of_ble_eq_true rfl, Nat.le_of_ble_eq_true rfl⟩ (fun hr_1 => ?_)
  refine lv_aload_n hx hb dX6_ofField_5 rfl (lv_at hl 0 rfl) ?_
  refine va_get (D := D) (ci := 5) (v := .ref o) (C := RX6) (T := TX6) (N := 7) hx hb hts i6 hown hK.1 hP 0 rfl rfl 2 (by decide) f28 (fun _ h9 => h9) rfl dX6_ofField_6 ?_
  refine lv_aload_n hx hb dX6_ofField_9 rfl (lv_at hl 0 rfl) ?_
  refine va_get (D := D) (ci := 5) (v := .ref d) (C := RX6) (T := TX6) (N := 7) hx hb hts i6 hown hK.1 hP 0 rfl rfl 1 (by decide) f21 (fun _ h9 => h9) rfl dX6_ofField_10 ?_
  refine va_getN (D := D) (ci := 4) (v := .ref r) (C := RX5) (T := TX5) (N := 6) hx hb hts i5 hown hK.1 hP 1 rfl rfl 0 (by decide) (zK.n79 hK _) (fun _ h9 => h9) rfl dX6_ofField_13 ?_
  refine lv_aload_n hx hb dX6_ofField_16 rfl (lv_at hl 0 rfl) ?_
  refine va_get (D := D) (ci := 5) (v := .int (iI chg)) (C := RX6) (T := TX6) (N := 7) hx hb hts i6 hown hK.1 hP 0 rfl rfl 5 (by decide) f46 (fun _ h9 => h9) rfl dX6_ofField_17 ?_
  refine zt_callVv C (As := [.ref r, .int (iI chg)]) (rest := []) (c_X3_find1 l D gi gc gr o q1 q2 q3 q4 q5 q6 cst F r chg) (cwV 2 hts gX6_ofField_X3_find rfl rfl rfl (by decide +kernel) ⟨Nat.le_of_ble_eq_true rfl, Nat.le_of_ble_eq_true rfl⟩) (zt_preV hK (hP.sub (ws' := [(o, .inr (2, [.ref q1, .ref q2, .ref q3, .ref q4, .ref q5, .ref q6, .int (iI cst), .int (iI F), .int (iI 1)]))]) [4] rfl) [.ref r, .int (iI chg)] 0 rfl rfl) rfl hl.1 rfl (Nat.le_of_ble_eq_true rfl) dX6_ofField_20 ⟨Nat.le_of_ble_eq_true rfl, Nat.le_of_ble_eq_true rfl⟩ (fun hr_2 => ?_)
  refine lv_iload_n hx hb dX6_ofField_23 rfl (lv_at hl 2 rfl) ?_
  refine lv_tableIn (off := 32) (tgt := 56) hx hb dX6_ofField_24 (by decide +kernel) (by decide +kernel) (by decide +kernel) (by decide) ?_
  refine lv_aload_n hx hb dX6_ofField_56 rfl (lv_at hl 0 rfl) ?_
  refine va_get (D := D) (ci := 5) (v := .ref d) (C := RX6) (T := TX6) (N := 7) hx hb hts i6 hown hK.1 hP 0 rfl rfl 1 (by decide) f21 (fun _ h9 => h9) rfl dX6_ofField_57 ?_
  refine va_getN (D := D) (ci := 4) (v := .ref r) (C := RX5) (T := TX5) (N := 6) hx hb hts i5 hown hK.1 hP 1 rfl rfl 0 (by decide) (zK.n79 hK _) (fun _ h9 => h9) rfl dX6_ofField_60 ?_
  refine lv_iload_n hx hb dX6_ofField_63 rfl (lv_at hl 1 rfl) ?_
  refine zt_callV C (As := [.int (iI f)]) (rest := []) (c_X4_at l D gi gc gr r a 60 t g f (by first | omega | assumption) (by first | omega | assumption) (by first | omega | assumption)) (cwV 1 hts gX6_ofField_X4_at rfl rfl rfl (by decide +kernel) ⟨Nat.le_of_ble_eq_true rfl, Nat.le_of_ble_eq_true rfl⟩) (zt_preV hK (hP.sub (ws' := [(r, .inr (3, [.ref a, .int (iI t)])), (a, aI gi 60 g)]) [2, 3] rfl) [.int (iI f)] 0 rfl rfl) rfl hl.1 rfl (Nat.le_of_ble_eq_true rfl) dX6_ofField_64 ⟨Nat.le_of_ble_eq_true rfl, Nat.le_of_ble_eq_true rfl⟩ (fun r_3 hr_3 => ?_)
  obtain rfl := hr_3
  exact hQ _ _ _ (rfl) dX6_ofField_67
set_option maxHeartbeats 4000000 in
set_option maxRecDepth 100000 in
theorem c_X6_ofField_1 (l : Launch) (D : va_G) (gi gc gr : ClassId) (h : Nat) (k1 : Nat) (d : Nat) (o : Nat) (w : Nat) (bu : Nat) (chg : Int) (rfd : Int) (r2 : Nat) (n1 : Nat) (n2 : Nat) (sg : Nat) (nn : Int) (r : Nat) (a : Nat) (t : Int) (g : Nat → Int) (q1 : Nat) (q2 : Nat) (q3 : Nat) (q4 : Nat) (q5 : Nat) (q6 : Nat) (cst : Int) (F : Int) (pl : Nat → Int) (f : Int) (ht : 0 ≤ t ∧ t ≤ 60) (hf : 0 ≤ f ∧ f < t) : Met l yX6_ofField wsX6_ofField { frames := 2, cells := 0, slots := 0, locals := 42 } (zPr D gi gc gr [(h, .inr (5, [.ref k1, .ref d, .ref o, .ref w, .ref bu, .int (iI chg), .int (iI rfd)])), (d, .inr (4, [.ref r, .ref r2, .ref n1, .ref n2, .ref sg, .int (iI nn)])), (r, .inr (3, [.ref a, .int (iI t)])), (a, aI gi 60 g), (o, .inr (2, [.ref q1, .ref q2, .ref q3, .ref q4, .ref q5, .ref q6, .int (iI cst), .int (iI F), .int (iI 1)])), (q2, aI gi 60 pl)] [.ref h, .int (iI f), .int (iI 1)]) (vp_Si (fun v => v = iI (pl f.toNat))) 0 0 (fun _ => False) := by
  refine zt_metRi (own := RX6) (cc := cX6_ofField) (maxL := 3) (by decide) rfl rfl (Nat.le_of_ble_eq_true rfl) ?_
  intro p e s m args below meth c Q C hK hP hQ ls hl
  have hx := C.1
  have hb := C.2.1
  have hml := C.2.2.1
  have hown := C.2.2.2.1
  have hts := C.2.2.2.2
  have i3 : ∀ w ∈ u_ws RX3 TX3 9, w ∈ wsX6_ofField := by decide +kernel
  have i5 : ∀ w ∈ u_ws RX5 TX5 6, w ∈ wsX6_ofField := by decide +kernel
  have i6 : ∀ w ∈ u_ws RX6 TX6 7, w ∈ wsX6_ofField := by decide +kernel
  have f21 := hts (.fieldLink RX6 21 "Threetwo" "strip" "LThreetwo$Strip;") (by decide +kernel)
  have f28 := hts (.fieldLink RX6 28 "Threetwo" "rhythm" "LThreetwo$Rhythm;") (by decide +kernel)
  have f46 := hts (.fieldLink RX6 46 "Threetwo" "changeNow" "I") (by decide +kernel)
  have hl : lv_has ls 3 [(0, .ref h), (1, .int (iI f)), (2, .int (iI 1))] := hl
  refine lv_aload_n hx hb dX6_ofField_0 rfl (lv_at hl 0 rfl) ?_
  refine lv_iload_n hx hb dX6_ofField_1 rfl (lv_at hl 1 rfl) ?_
  refine zt_callVv C (As := [.int (iI f)]) (rest := []) (c_X6_requireField l D gi gc gr h k1 d o w bu chg rfd r2 n1 n2 sg nn r a t f (by first | omega | assumption) (by first | omega | assumption)) (cwV 1 hts gX6_ofField_X6_requireField rfl rfl rfl (by decide +kernel) ⟨Nat.le_of_ble_eq_true rfl, Nat.le_of_ble_eq_true rfl⟩) (zt_preV hK (hP.sub (ws' := [(h, .inr (5, [.ref k1, .ref d, .ref o, .ref w, .ref bu, .int (iI chg), .int (iI rfd)])), (d, .inr (4, [.ref r, .ref r2, .ref n1, .ref n2, .ref sg, .int (iI nn)])), (r, .inr (3, [.ref a, .int (iI t)]))]) [0, 1, 2] rfl) [.int (iI f)] 0 rfl rfl) rfl hl.1 rfl (Nat.le_of_ble_eq_true rfl) dX6_ofField_2 ⟨Nat.le_of_ble_eq_true rfl, Nat.le_of_ble_eq_true rfl⟩ (fun hr_1 => ?_)
  refine lv_aload_n hx hb dX6_ofField_5 rfl (lv_at hl 0 rfl) ?_
  refine va_get (D := D) (ci := 5) (v := .ref o) (C := RX6) (T := TX6) (N := 7) hx hb hts i6 hown hK.1 hP 0 rfl rfl 2 (by decide) f28 (fun _ h9 => h9) rfl dX6_ofField_6 ?_
  refine lv_aload_n hx hb dX6_ofField_9 rfl (lv_at hl 0 rfl) ?_
  refine va_get (D := D) (ci := 5) (v := .ref d) (C := RX6) (T := TX6) (N := 7) hx hb hts i6 hown hK.1 hP 0 rfl rfl 1 (by decide) f21 (fun _ h9 => h9) rfl dX6_ofField_10 ?_
  refine va_getN (D := D) (ci := 4) (v := .ref r) (C := RX5) (T := TX5) (N := 6) hx hb hts i5 hown hK.1 hP 1 rfl rfl 0 (by decide) (zK.n79 hK _) (fun _ h9 => h9) rfl dX6_ofField_13 ?_
  refine lv_aload_n hx hb dX6_ofField_16 rfl (lv_at hl 0 rfl) ?_
  refine va_get (D := D) (ci := 5) (v := .int (iI chg)) (C := RX6) (T := TX6) (N := 7) hx hb hts i6 hown hK.1 hP 0 rfl rfl 5 (by decide) f46 (fun _ h9 => h9) rfl dX6_ofField_17 ?_
  refine zt_callVv C (As := [.ref r, .int (iI chg)]) (rest := []) (c_X3_find1 l D gi gc gr o q1 q2 q3 q4 q5 q6 cst F r chg) (cwV 2 hts gX6_ofField_X3_find rfl rfl rfl (by decide +kernel) ⟨Nat.le_of_ble_eq_true rfl, Nat.le_of_ble_eq_true rfl⟩) (zt_preV hK (hP.sub (ws' := [(o, .inr (2, [.ref q1, .ref q2, .ref q3, .ref q4, .ref q5, .ref q6, .int (iI cst), .int (iI F), .int (iI 1)]))]) [4] rfl) [.ref r, .int (iI chg)] 0 rfl rfl) rfl hl.1 rfl (Nat.le_of_ble_eq_true rfl) dX6_ofField_20 ⟨Nat.le_of_ble_eq_true rfl, Nat.le_of_ble_eq_true rfl⟩ (fun hr_2 => ?_)
  refine lv_iload_n hx hb dX6_ofField_23 rfl (lv_at hl 2 rfl) ?_
  refine lv_tableIn (off := 44) (tgt := 68) hx hb dX6_ofField_24 (by decide +kernel) (by decide +kernel) (by decide +kernel) (by decide) ?_
  refine lv_aload_n hx hb dX6_ofField_68 rfl (lv_at hl 0 rfl) ?_
  refine va_get (D := D) (ci := 5) (v := .ref o) (C := RX6) (T := TX6) (N := 7) hx hb hts i6 hown hK.1 hP 0 rfl rfl 2 (by decide) f28 (fun _ h9 => h9) rfl dX6_ofField_69 ?_
  refine va_getN (D := D) (ci := 2) (v := .ref q2) (C := RX3) (T := TX3) (N := 9) hx hb hts i3 hown hK.1 hP 4 rfl rfl 1 (by decide) (zK.n135 hK _) (fun _ h9 => h9) rfl dX6_ofField_72 ?_
  refine lv_iload_n hx hb dX6_ofField_75 rfl (lv_at hl 1 rfl) ?_
  refine zt_iald hx hb hK.1 hP 5 0 rfl rfl (by omega) (by omega) dX6_ofField_76 ?_
  exact hQ _ _ _ (rfl) dX6_ofField_77
set_option maxHeartbeats 4000000 in
set_option maxRecDepth 100000 in
theorem c_X6_ofField_2 (l : Launch) (D : va_G) (gi gc gr : ClassId) (h : Nat) (k1 : Nat) (d : Nat) (o : Nat) (w : Nat) (bu : Nat) (chg : Int) (rfd : Int) (r2 : Nat) (n1 : Nat) (n2 : Nat) (sg : Nat) (nn : Int) (r : Nat) (a : Nat) (t : Int) (g : Nat → Int) (q1 : Nat) (q2 : Nat) (q3 : Nat) (q4 : Nat) (q5 : Nat) (q6 : Nat) (cst : Int) (F : Int) (fo : Nat → Int) (f : Int) (ht : 0 ≤ t ∧ t ≤ 60) (hf : 0 ≤ f ∧ f < t) : Met l yX6_ofField wsX6_ofField { frames := 2, cells := 0, slots := 0, locals := 42 } (zPr D gi gc gr [(h, .inr (5, [.ref k1, .ref d, .ref o, .ref w, .ref bu, .int (iI chg), .int (iI rfd)])), (d, .inr (4, [.ref r, .ref r2, .ref n1, .ref n2, .ref sg, .int (iI nn)])), (r, .inr (3, [.ref a, .int (iI t)])), (a, aI gi 60 g), (o, .inr (2, [.ref q1, .ref q2, .ref q3, .ref q4, .ref q5, .ref q6, .int (iI cst), .int (iI F), .int (iI 1)])), (q3, aI gi 60 fo)] [.ref h, .int (iI f), .int (iI 2)]) (vp_Si (fun v => v = iI (fo f.toNat))) 0 0 (fun _ => False) := by
  refine zt_metRi (own := RX6) (cc := cX6_ofField) (maxL := 3) (by decide) rfl rfl (Nat.le_of_ble_eq_true rfl) ?_
  intro p e s m args below meth c Q C hK hP hQ ls hl
  have hx := C.1
  have hb := C.2.1
  have hml := C.2.2.1
  have hown := C.2.2.2.1
  have hts := C.2.2.2.2
  have i3 : ∀ w ∈ u_ws RX3 TX3 9, w ∈ wsX6_ofField := by decide +kernel
  have i5 : ∀ w ∈ u_ws RX5 TX5 6, w ∈ wsX6_ofField := by decide +kernel
  have i6 : ∀ w ∈ u_ws RX6 TX6 7, w ∈ wsX6_ofField := by decide +kernel
  have f21 := hts (.fieldLink RX6 21 "Threetwo" "strip" "LThreetwo$Strip;") (by decide +kernel)
  have f28 := hts (.fieldLink RX6 28 "Threetwo" "rhythm" "LThreetwo$Rhythm;") (by decide +kernel)
  have f46 := hts (.fieldLink RX6 46 "Threetwo" "changeNow" "I") (by decide +kernel)
  have hl : lv_has ls 3 [(0, .ref h), (1, .int (iI f)), (2, .int (iI 2))] := hl
  refine lv_aload_n hx hb dX6_ofField_0 rfl (lv_at hl 0 rfl) ?_
  refine lv_iload_n hx hb dX6_ofField_1 rfl (lv_at hl 1 rfl) ?_
  refine zt_callVv C (As := [.int (iI f)]) (rest := []) (c_X6_requireField l D gi gc gr h k1 d o w bu chg rfd r2 n1 n2 sg nn r a t f (by first | omega | assumption) (by first | omega | assumption)) (cwV 1 hts gX6_ofField_X6_requireField rfl rfl rfl (by decide +kernel) ⟨Nat.le_of_ble_eq_true rfl, Nat.le_of_ble_eq_true rfl⟩) (zt_preV hK (hP.sub (ws' := [(h, .inr (5, [.ref k1, .ref d, .ref o, .ref w, .ref bu, .int (iI chg), .int (iI rfd)])), (d, .inr (4, [.ref r, .ref r2, .ref n1, .ref n2, .ref sg, .int (iI nn)])), (r, .inr (3, [.ref a, .int (iI t)]))]) [0, 1, 2] rfl) [.int (iI f)] 0 rfl rfl) rfl hl.1 rfl (Nat.le_of_ble_eq_true rfl) dX6_ofField_2 ⟨Nat.le_of_ble_eq_true rfl, Nat.le_of_ble_eq_true rfl⟩ (fun hr_1 => ?_)
  refine lv_aload_n hx hb dX6_ofField_5 rfl (lv_at hl 0 rfl) ?_
  refine va_get (D := D) (ci := 5) (v := .ref o) (C := RX6) (T := TX6) (N := 7) hx hb hts i6 hown hK.1 hP 0 rfl rfl 2 (by decide) f28 (fun _ h9 => h9) rfl dX6_ofField_6 ?_
  refine lv_aload_n hx hb dX6_ofField_9 rfl (lv_at hl 0 rfl) ?_
  refine va_get (D := D) (ci := 5) (v := .ref d) (C := RX6) (T := TX6) (N := 7) hx hb hts i6 hown hK.1 hP 0 rfl rfl 1 (by decide) f21 (fun _ h9 => h9) rfl dX6_ofField_10 ?_
  refine va_getN (D := D) (ci := 4) (v := .ref r) (C := RX5) (T := TX5) (N := 6) hx hb hts i5 hown hK.1 hP 1 rfl rfl 0 (by decide) (zK.n79 hK _) (fun _ h9 => h9) rfl dX6_ofField_13 ?_
  refine lv_aload_n hx hb dX6_ofField_16 rfl (lv_at hl 0 rfl) ?_
  refine va_get (D := D) (ci := 5) (v := .int (iI chg)) (C := RX6) (T := TX6) (N := 7) hx hb hts i6 hown hK.1 hP 0 rfl rfl 5 (by decide) f46 (fun _ h9 => h9) rfl dX6_ofField_17 ?_
  refine zt_callVv C (As := [.ref r, .int (iI chg)]) (rest := []) (c_X3_find1 l D gi gc gr o q1 q2 q3 q4 q5 q6 cst F r chg) (cwV 2 hts gX6_ofField_X3_find rfl rfl rfl (by decide +kernel) ⟨Nat.le_of_ble_eq_true rfl, Nat.le_of_ble_eq_true rfl⟩) (zt_preV hK (hP.sub (ws' := [(o, .inr (2, [.ref q1, .ref q2, .ref q3, .ref q4, .ref q5, .ref q6, .int (iI cst), .int (iI F), .int (iI 1)]))]) [4] rfl) [.ref r, .int (iI chg)] 0 rfl rfl) rfl hl.1 rfl (Nat.le_of_ble_eq_true rfl) dX6_ofField_20 ⟨Nat.le_of_ble_eq_true rfl, Nat.le_of_ble_eq_true rfl⟩ (fun hr_2 => ?_)
  refine lv_iload_n hx hb dX6_ofField_23 rfl (lv_at hl 2 rfl) ?_
  refine lv_tableIn (off := 54) (tgt := 78) hx hb dX6_ofField_24 (by decide +kernel) (by decide +kernel) (by decide +kernel) (by decide) ?_
  refine lv_aload_n hx hb dX6_ofField_78 rfl (lv_at hl 0 rfl) ?_
  refine va_get (D := D) (ci := 5) (v := .ref o) (C := RX6) (T := TX6) (N := 7) hx hb hts i6 hown hK.1 hP 0 rfl rfl 2 (by decide) f28 (fun _ h9 => h9) rfl dX6_ofField_79 ?_
  refine va_getN (D := D) (ci := 2) (v := .ref q3) (C := RX3) (T := TX3) (N := 9) hx hb hts i3 hown hK.1 hP 4 rfl rfl 2 (by decide) (zK.n139 hK _) (fun _ h9 => h9) rfl dX6_ofField_82 ?_
  refine lv_iload_n hx hb dX6_ofField_85 rfl (lv_at hl 1 rfl) ?_
  refine zt_iald hx hb hK.1 hP 5 0 rfl rfl (by omega) (by omega) dX6_ofField_86 ?_
  exact hQ _ _ _ (rfl) dX6_ofField_87
set_option maxHeartbeats 4000000 in
set_option maxRecDepth 100000 in
theorem c_X6_ofField_3 (l : Launch) (D : va_G) (gi gc gr : ClassId) (h : Nat) (k1 : Nat) (d : Nat) (o : Nat) (w : Nat) (bu : Nat) (chg : Int) (rfd : Int) (r2 : Nat) (n1 : Nat) (n2 : Nat) (sg : Nat) (nn : Int) (r : Nat) (a : Nat) (t : Int) (g : Nat → Int) (q1 : Nat) (q2 : Nat) (q3 : Nat) (q4 : Nat) (q5 : Nat) (q6 : Nat) (cst : Int) (F : Int) (nf : Nat → Int) (f : Int) (ht : 0 ≤ t ∧ t ≤ 60) (hf : 0 ≤ f ∧ f < t) (hnn : 0 ≤ nn ∧ nn ≤ 512) : Met l yX6_ofField wsX6_ofField { frames := 2, cells := 0, slots := 0, locals := 42 } (zPr D gi gc gr [(h, .inr (5, [.ref k1, .ref d, .ref o, .ref w, .ref bu, .int (iI chg), .int (iI rfd)])), (d, .inr (4, [.ref r, .ref r2, .ref n1, .ref n2, .ref sg, .int (iI nn)])), (r, .inr (3, [.ref a, .int (iI t)])), (a, aI gi 60 g), (o, .inr (2, [.ref q1, .ref q2, .ref q3, .ref q4, .ref q5, .ref q6, .int (iI cst), .int (iI F), .int (iI 1)])), (n1, aI gi 512 nf)] [.ref h, .int (iI f), .int (iI 3)]) (vp_Si (fun v => v = iI (notL nf f nn.toNat 0))) 0 0 (fun _ => False) := by
  refine zt_metRi (own := RX6) (cc := cX6_ofField) (maxL := 3) (by decide) rfl rfl (Nat.le_of_ble_eq_true rfl) ?_
  intro p e s m args below meth c Q C hK hP hQ ls hl
  have hx := C.1
  have hb := C.2.1
  have hml := C.2.2.1
  have hown := C.2.2.2.1
  have hts := C.2.2.2.2
  have i5 : ∀ w ∈ u_ws RX5 TX5 6, w ∈ wsX6_ofField := by decide +kernel
  have i6 : ∀ w ∈ u_ws RX6 TX6 7, w ∈ wsX6_ofField := by decide +kernel
  have f21 := hts (.fieldLink RX6 21 "Threetwo" "strip" "LThreetwo$Strip;") (by decide +kernel)
  have f28 := hts (.fieldLink RX6 28 "Threetwo" "rhythm" "LThreetwo$Rhythm;") (by decide +kernel)
  have f46 := hts (.fieldLink RX6 46 "Threetwo" "changeNow" "I") (by decide +kernel)
  have hl : lv_has ls 3 [(0, .ref h), (1, .int (iI f)), (2, .int (iI 3))] := hl
  refine lv_aload_n hx hb dX6_ofField_0 rfl (lv_at hl 0 rfl) ?_
  refine lv_iload_n hx hb dX6_ofField_1 rfl (lv_at hl 1 rfl) ?_
  refine zt_callVv C (As := [.int (iI f)]) (rest := []) (c_X6_requireField l D gi gc gr h k1 d o w bu chg rfd r2 n1 n2 sg nn r a t f (by first | omega | assumption) (by first | omega | assumption)) (cwV 1 hts gX6_ofField_X6_requireField rfl rfl rfl (by decide +kernel) ⟨Nat.le_of_ble_eq_true rfl, Nat.le_of_ble_eq_true rfl⟩) (zt_preV hK (hP.sub (ws' := [(h, .inr (5, [.ref k1, .ref d, .ref o, .ref w, .ref bu, .int (iI chg), .int (iI rfd)])), (d, .inr (4, [.ref r, .ref r2, .ref n1, .ref n2, .ref sg, .int (iI nn)])), (r, .inr (3, [.ref a, .int (iI t)]))]) [0, 1, 2] rfl) [.int (iI f)] 0 rfl rfl) rfl hl.1 rfl (Nat.le_of_ble_eq_true rfl) dX6_ofField_2 ⟨Nat.le_of_ble_eq_true rfl, Nat.le_of_ble_eq_true rfl⟩ (fun hr_1 => ?_)
  refine lv_aload_n hx hb dX6_ofField_5 rfl (lv_at hl 0 rfl) ?_
  refine va_get (D := D) (ci := 5) (v := .ref o) (C := RX6) (T := TX6) (N := 7) hx hb hts i6 hown hK.1 hP 0 rfl rfl 2 (by decide) f28 (fun _ h9 => h9) rfl dX6_ofField_6 ?_
  refine lv_aload_n hx hb dX6_ofField_9 rfl (lv_at hl 0 rfl) ?_
  refine va_get (D := D) (ci := 5) (v := .ref d) (C := RX6) (T := TX6) (N := 7) hx hb hts i6 hown hK.1 hP 0 rfl rfl 1 (by decide) f21 (fun _ h9 => h9) rfl dX6_ofField_10 ?_
  refine va_getN (D := D) (ci := 4) (v := .ref r) (C := RX5) (T := TX5) (N := 6) hx hb hts i5 hown hK.1 hP 1 rfl rfl 0 (by decide) (zK.n79 hK _) (fun _ h9 => h9) rfl dX6_ofField_13 ?_
  refine lv_aload_n hx hb dX6_ofField_16 rfl (lv_at hl 0 rfl) ?_
  refine va_get (D := D) (ci := 5) (v := .int (iI chg)) (C := RX6) (T := TX6) (N := 7) hx hb hts i6 hown hK.1 hP 0 rfl rfl 5 (by decide) f46 (fun _ h9 => h9) rfl dX6_ofField_17 ?_
  refine zt_callVv C (As := [.ref r, .int (iI chg)]) (rest := []) (c_X3_find1 l D gi gc gr o q1 q2 q3 q4 q5 q6 cst F r chg) (cwV 2 hts gX6_ofField_X3_find rfl rfl rfl (by decide +kernel) ⟨Nat.le_of_ble_eq_true rfl, Nat.le_of_ble_eq_true rfl⟩) (zt_preV hK (hP.sub (ws' := [(o, .inr (2, [.ref q1, .ref q2, .ref q3, .ref q4, .ref q5, .ref q6, .int (iI cst), .int (iI F), .int (iI 1)]))]) [4] rfl) [.ref r, .int (iI chg)] 0 rfl rfl) rfl hl.1 rfl (Nat.le_of_ble_eq_true rfl) dX6_ofField_20 ⟨Nat.le_of_ble_eq_true rfl, Nat.le_of_ble_eq_true rfl⟩ (fun hr_2 => ?_)
  refine lv_iload_n hx hb dX6_ofField_23 rfl (lv_at hl 2 rfl) ?_
  refine lv_tableIn (off := 64) (tgt := 88) hx hb dX6_ofField_24 (by decide +kernel) (by decide +kernel) (by decide +kernel) (by decide) ?_
  refine lv_aload_n hx hb dX6_ofField_88 rfl (lv_at hl 0 rfl) ?_
  refine va_get (D := D) (ci := 5) (v := .ref d) (C := RX6) (T := TX6) (N := 7) hx hb hts i6 hown hK.1 hP 0 rfl rfl 1 (by decide) f21 (fun _ h9 => h9) rfl dX6_ofField_89 ?_
  refine lv_iload_n hx hb dX6_ofField_92 rfl (lv_at hl 1 rfl) ?_
  refine zt_callV C (As := [.int (iI f)]) (rest := []) (c_X5_isNoted l D gi gc gr d r2 n1 n2 sg nn r nf f (by first | omega | assumption)) (cwV 1 hts gX6_ofField_X5_isNoted rfl rfl rfl (by decide +kernel) ⟨Nat.le_of_ble_eq_true rfl, Nat.le_of_ble_eq_true rfl⟩) (zt_preV hK (hP.sub (ws' := [(d, .inr (4, [.ref r, .ref r2, .ref n1, .ref n2, .ref sg, .int (iI nn)])), (n1, aI gi 512 nf)]) [1, 5] rfl) [.int (iI f)] 0 rfl rfl) rfl hl.1 rfl (Nat.le_of_ble_eq_true rfl) dX6_ofField_93 ⟨Nat.le_of_ble_eq_true rfl, Nat.le_of_ble_eq_true rfl⟩ (fun r_3 hr_3 => ?_)
  obtain rfl := hr_3
  have hnb := notL_b nf f nn.toNat 0
  refine zt_if_eq (tgt := 103) hx hb dX6_ofField_96 (by decide) (by omega) (fun c_4 => ?_) (fun c_4 => ?_)
  · refine lv_iconst (v := iI (0)) hx hb dX6_ofField_103 (by decide +kernel) ?_
    exact hQ _ _ _ (congrArg iI (by omega)) dX6_ofField_104
  · refine lv_iconst (v := iI (1)) hx hb dX6_ofField_99 (by decide +kernel) ?_
    refine lv_goto (tgt := 104) hx hb dX6_ofField_100 (by decide) ?_
    exact hQ _ _ _ (congrArg iI (by omega)) dX6_ofField_104
set_option maxHeartbeats 4000000 in
set_option maxRecDepth 100000 in
theorem c_X6_found_0 (l : Launch) (D : va_G) (gi gc gr : ClassId) (h : Nat) (k1 : Nat) (d : Nat) (o : Nat) (w : Nat) (bu : Nat) (chg : Int) (rfd : Int) (r2 : Nat) (n1 : Nat) (n2 : Nat) (sg : Nat) (nn : Int) (r : Nat) (q1 : Nat) (q2 : Nat) (q3 : Nat) (q4 : Nat) (q5 : Nat) (q6 : Nat) (cst : Int) (F : Int) (fl : Nat → Int) (f : Int) (hf : 0 ≤ f ∧ f < F ∧ F ≤ 60) : Met l yX6_found wsX6_found { frames := 1, cells := 0, slots := 0, locals := 23 } (zPr D gi gc gr [(h, .inr (5, [.ref k1, .ref d, .ref o, .ref w, .ref bu, .int (iI chg), .int (iI rfd)])), (d, .inr (4, [.ref r, .ref r2, .ref n1, .ref n2, .ref sg, .int (iI nn)])), (o, .inr (2, [.ref q1, .ref q2, .ref q3, .ref q4, .ref q5, .ref q6, .int (iI cst), .int (iI F), .int (iI 1)])), (q6, aI gi 60 fl)] [.ref h, .int (iI f), .int (iI 0)]) (vp_Si (fun v => v = iI (fl f.toNat))) 0 0 (fun _ => False) := by
  refine zt_metRi (own := RX6) (cc := cX6_found) (maxL := 3) (by decide) rfl rfl (Nat.le_of_ble_eq_true rfl) ?_
  intro p e s m args below meth c Q C hK hP hQ ls hl
  have hx := C.1
  have hb := C.2.1
  have hml := C.2.2.1
  have hown := C.2.2.2.1
  have hts := C.2.2.2.2
  have i3 : ∀ w ∈ u_ws RX3 TX3 9, w ∈ wsX6_found := by decide +kernel
  have i5 : ∀ w ∈ u_ws RX5 TX5 6, w ∈ wsX6_found := by decide +kernel
  have i6 : ∀ w ∈ u_ws RX6 TX6 7, w ∈ wsX6_found := by decide +kernel
  have f21 := hts (.fieldLink RX6 21 "Threetwo" "strip" "LThreetwo$Strip;") (by decide +kernel)
  have f28 := hts (.fieldLink RX6 28 "Threetwo" "rhythm" "LThreetwo$Rhythm;") (by decide +kernel)
  have f46 := hts (.fieldLink RX6 46 "Threetwo" "changeNow" "I") (by decide +kernel)
  have hl : lv_has ls 3 [(0, .ref h), (1, .int (iI f)), (2, .int (iI 0))] := hl
  refine lv_aload_n hx hb dX6_found_0 rfl (lv_at hl 0 rfl) ?_
  refine va_get (D := D) (ci := 5) (v := .ref o) (C := RX6) (T := TX6) (N := 7) hx hb hts i6 hown hK.1 hP 0 rfl rfl 2 (by decide) f28 (fun _ h9 => h9) rfl dX6_found_1 ?_
  refine lv_aload_n hx hb dX6_found_4 rfl (lv_at hl 0 rfl) ?_
  refine va_get (D := D) (ci := 5) (v := .ref d) (C := RX6) (T := TX6) (N := 7) hx hb hts i6 hown hK.1 hP 0 rfl rfl 1 (by decide) f21 (fun _ h9 => h9) rfl dX6_found_5 ?_
  refine va_getN (D := D) (ci := 4) (v := .ref r) (C := RX5) (T := TX5) (N := 6) hx hb hts i5 hown hK.1 hP 1 rfl rfl 0 (by decide) (zK.n79 hK _) (fun _ h9 => h9) rfl dX6_found_8 ?_
  refine lv_aload_n hx hb dX6_found_11 rfl (lv_at hl 0 rfl) ?_
  refine va_get (D := D) (ci := 5) (v := .int (iI chg)) (C := RX6) (T := TX6) (N := 7) hx hb hts i6 hown hK.1 hP 0 rfl rfl 5 (by decide) f46 (fun _ h9 => h9) rfl dX6_found_12 ?_
  refine zt_callVv C (As := [.ref r, .int (iI chg)]) (rest := []) (c_X3_find1 l D gi gc gr o q1 q2 q3 q4 q5 q6 cst F r chg) (cwV 2 hts gX6_found_X3_find rfl rfl rfl (by decide +kernel) ⟨Nat.le_of_ble_eq_true rfl, Nat.le_of_ble_eq_true rfl⟩) (zt_preV hK (hP.sub (ws' := [(o, .inr (2, [.ref q1, .ref q2, .ref q3, .ref q4, .ref q5, .ref q6, .int (iI cst), .int (iI F), .int (iI 1)]))]) [2] rfl) [.ref r, .int (iI chg)] 0 rfl rfl) rfl hl.1 rfl (Nat.le_of_ble_eq_true rfl) dX6_found_15 ⟨Nat.le_of_ble_eq_true rfl, Nat.le_of_ble_eq_true rfl⟩ (fun hr_1 => ?_)
  refine lv_iload_n hx hb dX6_found_18 rfl (lv_at hl 1 rfl) ?_
  refine zt_if_lt (tgt := 33) hx hb dX6_found_19 (by decide) (by omega) (fun c_2 => absurd c_2 (by omega)) (fun c_2 => ?_)
  refine lv_iload_n hx hb dX6_found_22 rfl (lv_at hl 1 rfl) ?_
  refine lv_aload_n hx hb dX6_found_23 rfl (lv_at hl 0 rfl) ?_
  refine va_get (D := D) (ci := 5) (v := .ref o) (C := RX6) (T := TX6) (N := 7) hx hb hts i6 hown hK.1 hP 0 rfl rfl 2 (by decide) f28 (fun _ h9 => h9) rfl dX6_found_24 ?_
  refine va_getN (D := D) (ci := 2) (v := .int (iI F)) (C := RX3) (T := TX3) (N := 9) hx hb hts i3 hown hK.1 hP 2 rfl rfl 7 (by decide) (zK.n148 hK _) (fun _ h9 => h9) rfl dX6_found_27 ?_
  refine zt_icmp_lt (tgt := 43) hx hb dX6_found_30 (by decide) (by omega) (fun c_3 => ?_) (fun c_3 => absurd c_3 (by omega))
  refine lv_iload_n hx hb dX6_found_43 rfl (lv_at hl 2 rfl) ?_
  refine lv_tableIn (off := 28) (tgt := 72) hx hb dX6_found_44 (by decide +kernel) (by decide +kernel) (by decide +kernel) (by decide) ?_
  refine lv_aload_n hx hb dX6_found_72 rfl (lv_at hl 0 rfl) ?_
  refine va_get (D := D) (ci := 5) (v := .ref o) (C := RX6) (T := TX6) (N := 7) hx hb hts i6 hown hK.1 hP 0 rfl rfl 2 (by decide) f28 (fun _ h9 => h9) rfl dX6_found_73 ?_
  refine va_getN (D := D) (ci := 2) (v := .ref q6) (C := RX3) (T := TX3) (N := 9) hx hb hts i3 hown hK.1 hP 2 rfl rfl 5 (by decide) (zK.n156 hK _) (fun _ h9 => h9) rfl dX6_found_76 ?_
  refine lv_iload_n hx hb dX6_found_79 rfl (lv_at hl 1 rfl) ?_
  refine zt_iald hx hb hK.1 hP 3 0 rfl rfl (by omega) (by omega) dX6_found_80 ?_
  exact hQ _ _ _ (rfl) dX6_found_81
set_option maxHeartbeats 4000000 in
set_option maxRecDepth 100000 in
theorem c_X6_found_1 (l : Launch) (D : va_G) (gi gc gr : ClassId) (h : Nat) (k1 : Nat) (d : Nat) (o : Nat) (w : Nat) (bu : Nat) (chg : Int) (rfd : Int) (r2 : Nat) (n1 : Nat) (n2 : Nat) (sg : Nat) (nn : Int) (r : Nat) (q1 : Nat) (q2 : Nat) (q3 : Nat) (q4 : Nat) (q5 : Nat) (q6 : Nat) (cst : Int) (F : Int) (fi : Nat → Int) (f : Int) (hf : 0 ≤ f ∧ f < F ∧ F ≤ 60) : Met l yX6_found wsX6_found { frames := 1, cells := 0, slots := 0, locals := 23 } (zPr D gi gc gr [(h, .inr (5, [.ref k1, .ref d, .ref o, .ref w, .ref bu, .int (iI chg), .int (iI rfd)])), (d, .inr (4, [.ref r, .ref r2, .ref n1, .ref n2, .ref sg, .int (iI nn)])), (o, .inr (2, [.ref q1, .ref q2, .ref q3, .ref q4, .ref q5, .ref q6, .int (iI cst), .int (iI F), .int (iI 1)])), (q4, aI gi 60 fi)] [.ref h, .int (iI f), .int (iI 1)]) (vp_Si (fun v => v = iI (fi f.toNat))) 0 0 (fun _ => False) := by
  refine zt_metRi (own := RX6) (cc := cX6_found) (maxL := 3) (by decide) rfl rfl (Nat.le_of_ble_eq_true rfl) ?_
  intro p e s m args below meth c Q C hK hP hQ ls hl
  have hx := C.1
  have hb := C.2.1
  have hml := C.2.2.1
  have hown := C.2.2.2.1
  have hts := C.2.2.2.2
  have i3 : ∀ w ∈ u_ws RX3 TX3 9, w ∈ wsX6_found := by decide +kernel
  have i5 : ∀ w ∈ u_ws RX5 TX5 6, w ∈ wsX6_found := by decide +kernel
  have i6 : ∀ w ∈ u_ws RX6 TX6 7, w ∈ wsX6_found := by decide +kernel
  have f21 := hts (.fieldLink RX6 21 "Threetwo" "strip" "LThreetwo$Strip;") (by decide +kernel)
  have f28 := hts (.fieldLink RX6 28 "Threetwo" "rhythm" "LThreetwo$Rhythm;") (by decide +kernel)
  have f46 := hts (.fieldLink RX6 46 "Threetwo" "changeNow" "I") (by decide +kernel)
  have hl : lv_has ls 3 [(0, .ref h), (1, .int (iI f)), (2, .int (iI 1))] := hl
  refine lv_aload_n hx hb dX6_found_0 rfl (lv_at hl 0 rfl) ?_
  refine va_get (D := D) (ci := 5) (v := .ref o) (C := RX6) (T := TX6) (N := 7) hx hb hts i6 hown hK.1 hP 0 rfl rfl 2 (by decide) f28 (fun _ h9 => h9) rfl dX6_found_1 ?_
  refine lv_aload_n hx hb dX6_found_4 rfl (lv_at hl 0 rfl) ?_
  refine va_get (D := D) (ci := 5) (v := .ref d) (C := RX6) (T := TX6) (N := 7) hx hb hts i6 hown hK.1 hP 0 rfl rfl 1 (by decide) f21 (fun _ h9 => h9) rfl dX6_found_5 ?_
  refine va_getN (D := D) (ci := 4) (v := .ref r) (C := RX5) (T := TX5) (N := 6) hx hb hts i5 hown hK.1 hP 1 rfl rfl 0 (by decide) (zK.n79 hK _) (fun _ h9 => h9) rfl dX6_found_8 ?_
  refine lv_aload_n hx hb dX6_found_11 rfl (lv_at hl 0 rfl) ?_
  refine va_get (D := D) (ci := 5) (v := .int (iI chg)) (C := RX6) (T := TX6) (N := 7) hx hb hts i6 hown hK.1 hP 0 rfl rfl 5 (by decide) f46 (fun _ h9 => h9) rfl dX6_found_12 ?_
  refine zt_callVv C (As := [.ref r, .int (iI chg)]) (rest := []) (c_X3_find1 l D gi gc gr o q1 q2 q3 q4 q5 q6 cst F r chg) (cwV 2 hts gX6_found_X3_find rfl rfl rfl (by decide +kernel) ⟨Nat.le_of_ble_eq_true rfl, Nat.le_of_ble_eq_true rfl⟩) (zt_preV hK (hP.sub (ws' := [(o, .inr (2, [.ref q1, .ref q2, .ref q3, .ref q4, .ref q5, .ref q6, .int (iI cst), .int (iI F), .int (iI 1)]))]) [2] rfl) [.ref r, .int (iI chg)] 0 rfl rfl) rfl hl.1 rfl (Nat.le_of_ble_eq_true rfl) dX6_found_15 ⟨Nat.le_of_ble_eq_true rfl, Nat.le_of_ble_eq_true rfl⟩ (fun hr_1 => ?_)
  refine lv_iload_n hx hb dX6_found_18 rfl (lv_at hl 1 rfl) ?_
  refine zt_if_lt (tgt := 33) hx hb dX6_found_19 (by decide) (by omega) (fun c_2 => absurd c_2 (by omega)) (fun c_2 => ?_)
  refine lv_iload_n hx hb dX6_found_22 rfl (lv_at hl 1 rfl) ?_
  refine lv_aload_n hx hb dX6_found_23 rfl (lv_at hl 0 rfl) ?_
  refine va_get (D := D) (ci := 5) (v := .ref o) (C := RX6) (T := TX6) (N := 7) hx hb hts i6 hown hK.1 hP 0 rfl rfl 2 (by decide) f28 (fun _ h9 => h9) rfl dX6_found_24 ?_
  refine va_getN (D := D) (ci := 2) (v := .int (iI F)) (C := RX3) (T := TX3) (N := 9) hx hb hts i3 hown hK.1 hP 2 rfl rfl 7 (by decide) (zK.n148 hK _) (fun _ h9 => h9) rfl dX6_found_27 ?_
  refine zt_icmp_lt (tgt := 43) hx hb dX6_found_30 (by decide) (by omega) (fun c_3 => ?_) (fun c_3 => absurd c_3 (by omega))
  refine lv_iload_n hx hb dX6_found_43 rfl (lv_at hl 2 rfl) ?_
  refine lv_tableIn (off := 38) (tgt := 82) hx hb dX6_found_44 (by decide +kernel) (by decide +kernel) (by decide +kernel) (by decide) ?_
  refine lv_aload_n hx hb dX6_found_82 rfl (lv_at hl 0 rfl) ?_
  refine va_get (D := D) (ci := 5) (v := .ref o) (C := RX6) (T := TX6) (N := 7) hx hb hts i6 hown hK.1 hP 0 rfl rfl 2 (by decide) f28 (fun _ h9 => h9) rfl dX6_found_83 ?_
  refine va_getN (D := D) (ci := 2) (v := .ref q4) (C := RX3) (T := TX3) (N := 9) hx hb hts i3 hown hK.1 hP 2 rfl rfl 3 (by decide) (zK.n159 hK _) (fun _ h9 => h9) rfl dX6_found_86 ?_
  refine lv_iload_n hx hb dX6_found_89 rfl (lv_at hl 1 rfl) ?_
  refine zt_iald hx hb hK.1 hP 3 0 rfl rfl (by omega) (by omega) dX6_found_90 ?_
  exact hQ _ _ _ (rfl) dX6_found_91
set_option maxHeartbeats 4000000 in
set_option maxRecDepth 100000 in
theorem c_X6_found_2 (l : Launch) (D : va_G) (gi gc gr : ClassId) (h : Nat) (k1 : Nat) (d : Nat) (o : Nat) (w : Nat) (bu : Nat) (chg : Int) (rfd : Int) (r2 : Nat) (n1 : Nat) (n2 : Nat) (sg : Nat) (nn : Int) (r : Nat) (q1 : Nat) (q2 : Nat) (q3 : Nat) (q4 : Nat) (q5 : Nat) (q6 : Nat) (cst : Int) (F : Int) (le : Nat → Int) (f : Int) (hf : 0 ≤ f ∧ f < F ∧ F ≤ 60) : Met l yX6_found wsX6_found { frames := 1, cells := 0, slots := 0, locals := 23 } (zPr D gi gc gr [(h, .inr (5, [.ref k1, .ref d, .ref o, .ref w, .ref bu, .int (iI chg), .int (iI rfd)])), (d, .inr (4, [.ref r, .ref r2, .ref n1, .ref n2, .ref sg, .int (iI nn)])), (o, .inr (2, [.ref q1, .ref q2, .ref q3, .ref q4, .ref q5, .ref q6, .int (iI cst), .int (iI F), .int (iI 1)])), (q5, aI gi 60 le)] [.ref h, .int (iI f), .int (iI 2)]) (vp_Si (fun v => v = iI (le f.toNat))) 0 0 (fun _ => False) := by
  refine zt_metRi (own := RX6) (cc := cX6_found) (maxL := 3) (by decide) rfl rfl (Nat.le_of_ble_eq_true rfl) ?_
  intro p e s m args below meth c Q C hK hP hQ ls hl
  have hx := C.1
  have hb := C.2.1
  have hml := C.2.2.1
  have hown := C.2.2.2.1
  have hts := C.2.2.2.2
  have i3 : ∀ w ∈ u_ws RX3 TX3 9, w ∈ wsX6_found := by decide +kernel
  have i5 : ∀ w ∈ u_ws RX5 TX5 6, w ∈ wsX6_found := by decide +kernel
  have i6 : ∀ w ∈ u_ws RX6 TX6 7, w ∈ wsX6_found := by decide +kernel
  have f21 := hts (.fieldLink RX6 21 "Threetwo" "strip" "LThreetwo$Strip;") (by decide +kernel)
  have f28 := hts (.fieldLink RX6 28 "Threetwo" "rhythm" "LThreetwo$Rhythm;") (by decide +kernel)
  have f46 := hts (.fieldLink RX6 46 "Threetwo" "changeNow" "I") (by decide +kernel)
  have hl : lv_has ls 3 [(0, .ref h), (1, .int (iI f)), (2, .int (iI 2))] := hl
  refine lv_aload_n hx hb dX6_found_0 rfl (lv_at hl 0 rfl) ?_
  refine va_get (D := D) (ci := 5) (v := .ref o) (C := RX6) (T := TX6) (N := 7) hx hb hts i6 hown hK.1 hP 0 rfl rfl 2 (by decide) f28 (fun _ h9 => h9) rfl dX6_found_1 ?_
  refine lv_aload_n hx hb dX6_found_4 rfl (lv_at hl 0 rfl) ?_
  refine va_get (D := D) (ci := 5) (v := .ref d) (C := RX6) (T := TX6) (N := 7) hx hb hts i6 hown hK.1 hP 0 rfl rfl 1 (by decide) f21 (fun _ h9 => h9) rfl dX6_found_5 ?_
  refine va_getN (D := D) (ci := 4) (v := .ref r) (C := RX5) (T := TX5) (N := 6) hx hb hts i5 hown hK.1 hP 1 rfl rfl 0 (by decide) (zK.n79 hK _) (fun _ h9 => h9) rfl dX6_found_8 ?_
  refine lv_aload_n hx hb dX6_found_11 rfl (lv_at hl 0 rfl) ?_
  refine va_get (D := D) (ci := 5) (v := .int (iI chg)) (C := RX6) (T := TX6) (N := 7) hx hb hts i6 hown hK.1 hP 0 rfl rfl 5 (by decide) f46 (fun _ h9 => h9) rfl dX6_found_12 ?_
  refine zt_callVv C (As := [.ref r, .int (iI chg)]) (rest := []) (c_X3_find1 l D gi gc gr o q1 q2 q3 q4 q5 q6 cst F r chg) (cwV 2 hts gX6_found_X3_find rfl rfl rfl (by decide +kernel) ⟨Nat.le_of_ble_eq_true rfl, Nat.le_of_ble_eq_true rfl⟩) (zt_preV hK (hP.sub (ws' := [(o, .inr (2, [.ref q1, .ref q2, .ref q3, .ref q4, .ref q5, .ref q6, .int (iI cst), .int (iI F), .int (iI 1)]))]) [2] rfl) [.ref r, .int (iI chg)] 0 rfl rfl) rfl hl.1 rfl (Nat.le_of_ble_eq_true rfl) dX6_found_15 ⟨Nat.le_of_ble_eq_true rfl, Nat.le_of_ble_eq_true rfl⟩ (fun hr_1 => ?_)
  refine lv_iload_n hx hb dX6_found_18 rfl (lv_at hl 1 rfl) ?_
  refine zt_if_lt (tgt := 33) hx hb dX6_found_19 (by decide) (by omega) (fun c_2 => absurd c_2 (by omega)) (fun c_2 => ?_)
  refine lv_iload_n hx hb dX6_found_22 rfl (lv_at hl 1 rfl) ?_
  refine lv_aload_n hx hb dX6_found_23 rfl (lv_at hl 0 rfl) ?_
  refine va_get (D := D) (ci := 5) (v := .ref o) (C := RX6) (T := TX6) (N := 7) hx hb hts i6 hown hK.1 hP 0 rfl rfl 2 (by decide) f28 (fun _ h9 => h9) rfl dX6_found_24 ?_
  refine va_getN (D := D) (ci := 2) (v := .int (iI F)) (C := RX3) (T := TX3) (N := 9) hx hb hts i3 hown hK.1 hP 2 rfl rfl 7 (by decide) (zK.n148 hK _) (fun _ h9 => h9) rfl dX6_found_27 ?_
  refine zt_icmp_lt (tgt := 43) hx hb dX6_found_30 (by decide) (by omega) (fun c_3 => ?_) (fun c_3 => absurd c_3 (by omega))
  refine lv_iload_n hx hb dX6_found_43 rfl (lv_at hl 2 rfl) ?_
  refine lv_tableIn (off := 48) (tgt := 92) hx hb dX6_found_44 (by decide +kernel) (by decide +kernel) (by decide +kernel) (by decide) ?_
  refine lv_aload_n hx hb dX6_found_92 rfl (lv_at hl 0 rfl) ?_
  refine va_get (D := D) (ci := 5) (v := .ref o) (C := RX6) (T := TX6) (N := 7) hx hb hts i6 hown hK.1 hP 0 rfl rfl 2 (by decide) f28 (fun _ h9 => h9) rfl dX6_found_93 ?_
  refine va_getN (D := D) (ci := 2) (v := .ref q5) (C := RX3) (T := TX3) (N := 9) hx hb hts i3 hown hK.1 hP 2 rfl rfl 4 (by decide) (zK.n162 hK _) (fun _ h9 => h9) rfl dX6_found_96 ?_
  refine lv_iload_n hx hb dX6_found_99 rfl (lv_at hl 1 rfl) ?_
  refine zt_iald hx hb hK.1 hP 3 0 rfl rfl (by omega) (by omega) dX6_found_100 ?_
  exact hQ _ _ _ (rfl) dX6_found_101
