/-! ===== labels of pictures: what the two calls answer, and that each goes back ===== -/
def labF (q : Int) : Int := if q % 17982 < 1800 then q / 17982 * 10 * 10000 + q % 17982 / 30 * 100 + q % 17982 % 30 else (q / 17982 * 10 + (1 + (q % 17982 - 1800) / 1798)) * 10000 + (2 + (q % 17982 - 1800) % 1798) / 30 * 100 + (2 + (q % 17982 - 1800) % 1798) % 30
def picF (q : Int) : Int := if q < 0 then -1 else if q / 10000 > 59 ∨ q / 100 % 100 > 59 ∨ q % 100 ≥ 30 ∨ (q / 10000 % 10 ≠ 0 ∧ q / 100 % 100 = 0 ∧ q % 100 < 2) then -1 else q / 10000 * 1800 + q / 100 % 100 * 30 + q % 100 - 2 * (q / 10000 - q / 10000 / 10)
theorem picF_of {a b d : Int} (ha : 0 ≤ a ∧ a ≤ 59) (hb : 0 ≤ b ∧ b ≤ 59) (hd : 0 ≤ d ∧ d < 30) (h : a % 10 = 0 ∨ ¬ b = 0 ∨ 2 ≤ d) : picF (a * 10000 + b * 100 + d) = a * 1800 + b * 30 + d - 2 * (a - a / 10) := by
  have e1 : (a * 10000 + b * 100 + d) / 10000 = a := by omega
  have e2 : (a * 10000 + b * 100 + d) / 100 % 100 = b := by omega
  have e3 : (a * 10000 + b * 100 + d) % 100 = d := by omega
  unfold picF
  rw [if_neg (by omega), e1, e2, e3, if_neg (by omega)]
theorem picF_lab {q : Int} (h : 0 ≤ q ∧ q < 107892) : picF (labF q) = q := by
  obtain ⟨a, ea⟩ : ∃ a, a = q / 17982 := ⟨_, rfl⟩
  obtain ⟨b, eb⟩ : ∃ b, b = q % 17982 := ⟨_, rfl⟩
  have hq : q = 17982 * a + b := by omega
  unfold labF
  rw [← ea, ← eb]
  by_cases hc : b < 1800
  · rw [if_pos hc, picF_of (by omega) (by omega) (by omega) (by omega)]
    omega
  · rw [if_neg hc]
    obtain ⟨x, ex⟩ : ∃ x, x = (b - 1800) / 1798 := ⟨_, rfl⟩
    obtain ⟨y, ey⟩ : ∃ y, y = (b - 1800) % 1798 := ⟨_, rfl⟩
    have hy : b - 1800 = 1798 * x + y := by omega
    rw [← ex, ← ey, picF_of (by omega) (by omega) (by omega) (by omega)]
    omega
theorem labF_bd {q : Int} (h : 0 ≤ q ∧ q < 107892) : 0 ≤ labF q ∧ labF q < 1000000 := by
  unfold labF
  split <;> omega

set_option maxHeartbeats 4000000 in
set_option maxRecDepth 100000 in
/-- the label of a picture -/
theorem c_X1_labelOf (l : Launch) (D : va_G) (gi gc gr : ClassId) (q : Int) (h0 : 0 ≤ q ∧ q < 107892) : Met l yX1_labelOf wsX1_labelOf { frames := 0, cells := 0, slots := 0, locals := 0 } (zPr D gi gc gr [] [.int (iI q)]) (vp_Si (fun v => v = iI (labF q))) 0 0 (fun _ => False) := by
  refine zt_metRi (own := RX1) (cc := cX1_labelOf) (maxL := 4) (by decide) rfl rfl (Nat.le_of_ble_eq_true rfl) ?_
  intro p e s m args below meth c Q C hK hP hQ ls hl
  have hx := C.1
  have hb := C.2.1
  have hml := C.2.2.1
  have hown := C.2.2.2.1
  have hts := C.2.2.2.2
  have hl : lv_has ls 4 [(0, .int (iI q))] := hl
  refine lv_iload_n hx hb dX1_labelOf_0 rfl (lv_at hl 0 rfl) ?_
  refine lv_sipush (v := iI (17982)) hx hb dX1_labelOf_1 (by decide +kernel) ?_
  refine zt_idiv hx hb dX1_labelOf_4 (by omega) ?_
  refine lv_bipush (v := iI (10)) hx hb dX1_labelOf_5 (by decide +kernel) ?_
  refine zt_imul hx hb dX1_labelOf_7 ?_
  refine lv_istore_n (lv' := [(1, .int (iI ((q / 17982) * 10))), (0, .int (iI q))]) hx hb dX1_labelOf_8 rfl hl (by decide) rfl (fun ls hl => ?_)
  refine lv_iload_n hx hb dX1_labelOf_9 rfl (lv_at hl 1 rfl) ?_
  refine lv_sipush (v := iI (17982)) hx hb dX1_labelOf_10 (by decide +kernel) ?_
  refine zt_irem hx hb dX1_labelOf_13 (by omega) ?_
  refine lv_istore_n (lv' := [(2, .int (iI (q % 17982))), (1, .int (iI ((q / 17982) * 10))), (0, .int (iI q))]) hx hb dX1_labelOf_14 rfl hl (by decide) rfl (fun ls hl => ?_)
  refine lv_iload_n hx hb dX1_labelOf_15 rfl (lv_at hl 0 rfl) ?_
  refine lv_sipush (v := iI (1800)) hx hb dX1_labelOf_16 (by decide +kernel) ?_
  refine zt_icmp_lt (tgt := 46) hx hb dX1_labelOf_19 (by decide) (by omega) (fun c_1 => ?_) (fun c_1 => ?_)
  · refine lv_iload_n hx hb dX1_labelOf_46 rfl (lv_at hl 1 rfl) ?_
    refine lv_sipush (v := iI (10000)) hx hb dX1_labelOf_47 (by decide +kernel) ?_
    refine zt_imul hx hb dX1_labelOf_50 ?_
    refine lv_iload_n hx hb dX1_labelOf_51 rfl (lv_at hl 0 rfl) ?_
    refine lv_bipush (v := iI (30)) hx hb dX1_labelOf_52 (by decide +kernel) ?_
    refine zt_idiv hx hb dX1_labelOf_54 (by omega) ?_
    refine lv_bipush (v := iI (100)) hx hb dX1_labelOf_55 (by decide +kernel) ?_
    refine zt_imul hx hb dX1_labelOf_57 ?_
    refine zt_iadd hx hb dX1_labelOf_58 ?_
    refine lv_iload_n hx hb dX1_labelOf_59 rfl (lv_at hl 0 rfl) ?_
    refine lv_bipush (v := iI (30)) hx hb dX1_labelOf_60 (by decide +kernel) ?_
    refine zt_irem hx hb dX1_labelOf_62 (by omega) ?_
    refine zt_iadd hx hb dX1_labelOf_63 ?_
    exact hQ _ _ _ (congrArg iI (by unfold labF; split <;> omega)) dX1_labelOf_64
  · refine lv_iload_n hx hb dX1_labelOf_22 rfl (lv_at hl 0 rfl) ?_
    refine lv_sipush (v := iI (1800)) hx hb dX1_labelOf_23 (by decide +kernel) ?_
    refine zt_isub hx hb dX1_labelOf_26 ?_
    refine lv_istore_n (lv' := [(3, .int (iI ((q % 17982) - 1800))), (2, .int (iI (q % 17982))), (1, .int (iI ((q / 17982) * 10))), (0, .int (iI q))]) hx hb dX1_labelOf_27 rfl hl (by decide) rfl (fun ls hl => ?_)
    refine lv_iload_n hx hb dX1_labelOf_28 rfl (lv_at hl 2 rfl) ?_
    refine lv_iconst (v := iI (1)) hx hb dX1_labelOf_29 (by decide +kernel) ?_
    refine lv_iload_n hx hb dX1_labelOf_30 rfl (lv_at hl 0 rfl) ?_
    refine lv_sipush (v := iI (1798)) hx hb dX1_labelOf_31 (by decide +kernel) ?_
    refine zt_idiv hx hb dX1_labelOf_34 (by omega) ?_
    refine zt_iadd hx hb dX1_labelOf_35 ?_
    refine zt_iadd hx hb dX1_labelOf_36 ?_
    refine lv_istore_n (lv' := [(1, .int (iI (((q / 17982) * 10) + (1 + (((q % 17982) - 1800) / 1798))))), (3, .int (iI ((q % 17982) - 1800))), (2, .int (iI (q % 17982))), (0, .int (iI q))]) hx hb dX1_labelOf_37 rfl hl (by decide) rfl (fun ls hl => ?_)
    refine lv_iconst (v := iI (2)) hx hb dX1_labelOf_38 (by decide +kernel) ?_
    refine lv_iload_n hx hb dX1_labelOf_39 rfl (lv_at hl 1 rfl) ?_
    refine lv_sipush (v := iI (1798)) hx hb dX1_labelOf_40 (by decide +kernel) ?_
    refine zt_irem hx hb dX1_labelOf_43 (by omega) ?_
    refine zt_iadd hx hb dX1_labelOf_44 ?_
    refine lv_istore_n (lv' := [(2, .int (iI (2 + (((q % 17982) - 1800) % 1798)))), (1, .int (iI (((q / 17982) * 10) + (1 + (((q % 17982) - 1800) / 1798))))), (3, .int (iI ((q % 17982) - 1800))), (0, .int (iI q))]) hx hb dX1_labelOf_45 rfl hl (by decide) rfl (fun ls hl => ?_)
    refine lv_iload_n hx hb dX1_labelOf_46 rfl (lv_at hl 1 rfl) ?_
    refine lv_sipush (v := iI (10000)) hx hb dX1_labelOf_47 (by decide +kernel) ?_
    refine zt_imul hx hb dX1_labelOf_50 ?_
    refine lv_iload_n hx hb dX1_labelOf_51 rfl (lv_at hl 0 rfl) ?_
    refine lv_bipush (v := iI (30)) hx hb dX1_labelOf_52 (by decide +kernel) ?_
    refine zt_idiv hx hb dX1_labelOf_54 (by omega) ?_
    refine lv_bipush (v := iI (100)) hx hb dX1_labelOf_55 (by decide +kernel) ?_
    refine zt_imul hx hb dX1_labelOf_57 ?_
    refine zt_iadd hx hb dX1_labelOf_58 ?_
    refine lv_iload_n hx hb dX1_labelOf_59 rfl (lv_at hl 0 rfl) ?_
    refine lv_bipush (v := iI (30)) hx hb dX1_labelOf_60 (by decide +kernel) ?_
    refine zt_irem hx hb dX1_labelOf_62 (by omega) ?_
    refine zt_iadd hx hb dX1_labelOf_63 ?_
    exact hQ _ _ _ (congrArg iI (by unfold labF; split <;> omega)) dX1_labelOf_64
set_option maxHeartbeats 4000000 in
set_option maxRecDepth 100000 in
theorem c_X1_isLeftOut (l : Launch) (D : va_G) (gi gc gr : ClassId) (x1 : Int) (x2 : Int) (x3 : Int) (h0 : (0 ≤ x1 ∧ x1 < 1000000) ∧ (0 ≤ x2 ∧ x2 < 1000000) ∧ (0 ≤ x3 ∧ x3 < 1000000)) : Met l yX1_isLeftOut wsX1_isLeftOut { frames := 0, cells := 0, slots := 0, locals := 0 } (zPr D gi gc gr [] [.int (iI x1), .int (iI x2), .int (iI x3)]) (vp_Si (fun v => ∃ z : Int, v = iI z ∧ ((z = 1 ∧ x1 % 10 ≠ 0 ∧ x2 = 0 ∧ x3 < 2) ∨ (z = 0 ∧ (x1 % 10 = 0 ∨ ¬ x2 = 0 ∨ 2 ≤ x3))))) 0 0 (fun _ => False) := by
  refine zt_metRz (own := RX1) (cc := cX1_isLeftOut) (maxL := 3) (by decide) rfl rfl (Nat.le_of_ble_eq_true rfl) ?_
  intro p e s m args below meth c Q C hK hP hQ ls hl
  have hx := C.1
  have hb := C.2.1
  have hml := C.2.2.1
  have hown := C.2.2.2.1
  have hts := C.2.2.2.2
  have hl : lv_has ls 3 [(0, .int (iI x1)), (1, .int (iI x2)), (2, .int (iI x3))] := hl
  refine lv_iload_n hx hb dX1_isLeftOut_0 rfl (lv_at hl 0 rfl) ?_
  refine lv_bipush (v := iI (10)) hx hb dX1_isLeftOut_1 (by decide +kernel) ?_
  refine zt_irem hx hb dX1_isLeftOut_3 (by omega) ?_
  refine zt_if_eq (tgt := 20) hx hb dX1_isLeftOut_4 (by decide) (by omega) (fun c_1 => ?_) (fun c_1 => ?_)
  · refine lv_iconst (v := iI (0)) hx hb dX1_isLeftOut_20 (by decide +kernel) ?_
    exact hQ _ _ _ (by first | rfl | decide +kernel) (⟨_, rfl, by omega⟩) dX1_isLeftOut_21
  · refine lv_iload_n hx hb dX1_isLeftOut_7 rfl (lv_at hl 1 rfl) ?_
    refine zt_if_ne (tgt := 20) hx hb dX1_isLeftOut_8 (by decide) (by omega) (fun c_2 => ?_) (fun c_2 => ?_)
    · refine lv_iconst (v := iI (0)) hx hb dX1_isLeftOut_20 (by decide +kernel) ?_
      exact hQ _ _ _ (by first | rfl | decide +kernel) (⟨_, rfl, by omega⟩) dX1_isLeftOut_21
    · refine lv_iload_n hx hb dX1_isLeftOut_11 rfl (lv_at hl 2 rfl) ?_
      refine lv_iconst (v := iI (2)) hx hb dX1_isLeftOut_12 (by decide +kernel) ?_
      refine zt_icmp_ge (tgt := 20) hx hb dX1_isLeftOut_13 (by decide) (by omega) (fun c_3 => ?_) (fun c_3 => ?_)
      · refine lv_iconst (v := iI (0)) hx hb dX1_isLeftOut_20 (by decide +kernel) ?_
        exact hQ _ _ _ (by first | rfl | decide +kernel) (⟨_, rfl, by omega⟩) dX1_isLeftOut_21
      · refine lv_iconst (v := iI (1)) hx hb dX1_isLeftOut_16 (by decide +kernel) ?_
        refine lv_goto (tgt := 21) hx hb dX1_isLeftOut_17 (by decide) ?_
        exact hQ _ _ _ (by first | rfl | decide +kernel) (⟨_, rfl, by omega⟩) dX1_isLeftOut_21
set_option maxHeartbeats 4000000 in
set_option maxRecDepth 100000 in
/-- the picture of a label -/
theorem c_X1_pictureOf (l : Launch) (D : va_G) (gi gc gr : ClassId) (q : Int) (h0 : -2147483648 ≤ q ∧ q < 2147483648) : Met l yX1_pictureOf wsX1_pictureOf { frames := 1, cells := 0, slots := 0, locals := 22 } (zPr D gi gc gr [] [.int (iI q)]) (vp_Si (fun v => v = iI (picF q))) 0 0 (fun _ => False) := by
  refine zt_metRi (own := RX1) (cc := cX1_pictureOf) (maxL := 5) (by decide) rfl rfl (Nat.le_of_ble_eq_true rfl) ?_
  intro p e s m args below meth c Q C hK hP hQ ls hl
  have hx := C.1
  have hb := C.2.1
  have hml := C.2.2.1
  have hown := C.2.2.2.1
  have hts := C.2.2.2.2
  have hl : lv_has ls 5 [(0, .int (iI q))] := hl
  refine lv_iload_n hx hb dX1_pictureOf_0 rfl (lv_at hl 0 rfl) ?_
  refine zt_if_ge (tgt := 6) hx hb dX1_pictureOf_1 (by decide) (by omega) (fun c_1 => ?_) (fun c_1 => ?_)
  · refine lv_iload_n hx hb dX1_pictureOf_6 rfl (lv_at hl 0 rfl) ?_
    refine lv_sipush (v := iI (10000)) hx hb dX1_pictureOf_7 (by decide +kernel) ?_
    refine zt_idiv hx hb dX1_pictureOf_10 (by omega) ?_
    refine lv_istore_n (lv' := [(1, .int (iI (q / 10000))), (0, .int (iI q))]) hx hb dX1_pictureOf_11 rfl hl (by decide) rfl (fun ls hl => ?_)
    refine lv_iload_n hx hb dX1_pictureOf_12 rfl (lv_at hl 1 rfl) ?_
    refine lv_bipush (v := iI (100)) hx hb dX1_pictureOf_13 (by decide +kernel) ?_
    refine zt_idiv hx hb dX1_pictureOf_15 (by omega) ?_
    refine lv_bipush (v := iI (100)) hx hb dX1_pictureOf_16 (by decide +kernel) ?_
    refine zt_irem hx hb dX1_pictureOf_18 (by omega) ?_
    refine lv_istore_n (lv' := [(2, .int (iI ((q / 100) % 100))), (1, .int (iI (q / 10000))), (0, .int (iI q))]) hx hb dX1_pictureOf_19 rfl hl (by decide) rfl (fun ls hl => ?_)
    refine lv_iload_n hx hb dX1_pictureOf_20 rfl (lv_at hl 2 rfl) ?_
    refine lv_bipush (v := iI (100)) hx hb dX1_pictureOf_21 (by decide +kernel) ?_
    refine zt_irem hx hb dX1_pictureOf_23 (by omega) ?_
    refine lv_istore_n (lv' := [(3, .int (iI (q % 100))), (2, .int (iI ((q / 100) % 100))), (1, .int (iI (q / 10000))), (0, .int (iI q))]) hx hb dX1_pictureOf_24 rfl hl (by decide) rfl (fun ls hl => ?_)
    refine lv_iload_n hx hb dX1_pictureOf_25 rfl (lv_at hl 2 rfl) ?_
    refine lv_bipush (v := iI (59)) hx hb dX1_pictureOf_26 (by decide +kernel) ?_
    refine zt_icmp_gt (tgt := 52) hx hb dX1_pictureOf_28 (by decide) (by omega) (fun c_2 => ?_) (fun c_2 => ?_)
    · refine lv_iconst (v := iI (-1)) hx hb dX1_pictureOf_52 (by decide +kernel) ?_
      exact hQ _ _ _ (congrArg iI (by unfold picF; split <;> (try split) <;> omega)) dX1_pictureOf_53
    · refine lv_iload_n hx hb dX1_pictureOf_31 rfl (lv_at hl 1 rfl) ?_
      refine lv_bipush (v := iI (59)) hx hb dX1_pictureOf_32 (by decide +kernel) ?_
      refine zt_icmp_gt (tgt := 52) hx hb dX1_pictureOf_34 (by decide) (by omega) (fun c_3 => ?_) (fun c_3 => ?_)
      · refine lv_iconst (v := iI (-1)) hx hb dX1_pictureOf_52 (by decide +kernel) ?_
        exact hQ _ _ _ (congrArg iI (by unfold picF; split <;> (try split) <;> omega)) dX1_pictureOf_53
      · refine lv_iload_n hx hb dX1_pictureOf_37 rfl (lv_at hl 0 rfl) ?_
        refine lv_bipush (v := iI (30)) hx hb dX1_pictureOf_38 (by decide +kernel) ?_
        refine zt_icmp_ge (tgt := 52) hx hb dX1_pictureOf_40 (by decide) (by omega) (fun c_4 => ?_) (fun c_4 => ?_)
        · refine lv_iconst (v := iI (-1)) hx hb dX1_pictureOf_52 (by decide +kernel) ?_
          exact hQ _ _ _ (congrArg iI (by unfold picF; split <;> (try split) <;> omega)) dX1_pictureOf_53
        · refine lv_iload_n hx hb dX1_pictureOf_43 rfl (lv_at hl 2 rfl) ?_
          refine lv_iload_n hx hb dX1_pictureOf_44 rfl (lv_at hl 1 rfl) ?_
          refine lv_iload_n hx hb dX1_pictureOf_45 rfl (lv_at hl 0 rfl) ?_
          refine zt_callS C (As := [.int (iI (q / 10000)), .int (iI ((q / 100) % 100)), .int (iI (q % 100))]) (rest := []) (c_X1_isLeftOut l D gi gc gr (q / 10000) ((q / 100) % 100) (q % 100) (by first | omega | assumption)) (va_cwS 3 hts gX1_pictureOf_X1_isLeftOut rfl rfl rfl (by decide +kernel) ⟨Nat.le_of_ble_eq_true rfl, Nat.le_of_ble_eq_true rfl⟩) (zt_preS hK (hP.sub (ws' := []) [] rfl) [.int (iI (q / 10000)), .int (iI ((q / 100) % 100)), .int (iI (q % 100))]) rfl hl.1 rfl (Nat.le_of_ble_eq_true rfl) dX1_pictureOf_46 ⟨Nat.le_of_ble_eq_true rfl, Nat.le_of_ble_eq_true rfl⟩ (fun r_5 hr_5 => ?_)
          obtain ⟨z_6, rfl, hz_6⟩ := hr_5
          refine zt_if_eq (tgt := 54) hx hb dX1_pictureOf_49 (by decide) (by omega) (fun c_7 => ?_) (fun c_7 => ?_)
          · refine lv_iload_n hx hb dX1_pictureOf_54 rfl (lv_at hl 2 rfl) ?_
            refine lv_iload_n hx hb dX1_pictureOf_55 rfl (lv_at hl 2 rfl) ?_
            refine lv_bipush (v := iI (10)) hx hb dX1_pictureOf_56 (by decide +kernel) ?_
            refine zt_idiv hx hb dX1_pictureOf_58 (by omega) ?_
            refine zt_isub hx hb dX1_pictureOf_59 ?_
            refine lv_istore (lv' := [(4, .int (iI ((q / 10000) - ((q / 10000) / 10)))), (3, .int (iI (q % 100))), (2, .int (iI ((q / 100) % 100))), (1, .int (iI (q / 10000))), (0, .int (iI q))]) hx hb dX1_pictureOf_60 hl (by decide) rfl (fun ls hl => ?_)
            refine lv_iload_n hx hb dX1_pictureOf_62 rfl (lv_at hl 3 rfl) ?_
            refine lv_sipush (v := iI (1800)) hx hb dX1_pictureOf_63 (by decide +kernel) ?_
            refine zt_imul hx hb dX1_pictureOf_66 ?_
            refine lv_iload_n hx hb dX1_pictureOf_67 rfl (lv_at hl 2 rfl) ?_
            refine lv_bipush (v := iI (30)) hx hb dX1_pictureOf_68 (by decide +kernel) ?_
            refine zt_imul hx hb dX1_pictureOf_70 ?_
            refine zt_iadd hx hb dX1_pictureOf_71 ?_
            refine lv_iload_n hx hb dX1_pictureOf_72 rfl (lv_at hl 1 rfl) ?_
            refine zt_iadd hx hb dX1_pictureOf_73 ?_
            refine lv_iconst (v := iI (2)) hx hb dX1_pictureOf_74 (by decide +kernel) ?_
            refine lv_iload hx hb dX1_pictureOf_75 (lv_at hl 0 rfl) ?_
            refine zt_imul hx hb dX1_pictureOf_77 ?_
            refine zt_isub hx hb dX1_pictureOf_78 ?_
            exact hQ _ _ _ (congrArg iI (by unfold picF; split <;> (try split) <;> omega)) dX1_pictureOf_79
          · refine lv_iconst (v := iI (-1)) hx hb dX1_pictureOf_52 (by decide +kernel) ?_
            exact hQ _ _ _ (congrArg iI (by unfold picF; split <;> (try split) <;> omega)) dX1_pictureOf_53
  · refine lv_iconst (v := iI (-1)) hx hb dX1_pictureOf_4 (by decide +kernel) ?_
    exact hQ _ _ _ (congrArg iI (by unfold picF; split <;> (try split) <;> omega)) dX1_pictureOf_5
set_option maxHeartbeats 4000000 in
set_option maxRecDepth 100000 in
theorem c_X1_goesBack (l : Launch) (D : va_G) (gi gc gr : ClassId) (q : Int) (h0 : 0 ≤ q ∧ q < 107892) : Met l yX1_goesBack wsX1_goesBack { frames := 2, cells := 0, slots := 0, locals := 46 } (zPr D gi gc gr [] [.int (iI q)]) (vp_Si (fun v => v = iI 1)) 0 0 (fun _ => False) := by
  refine zt_metRz (own := RX1) (cc := cX1_goesBack) (maxL := 1) (by decide) rfl rfl (Nat.le_of_ble_eq_true rfl) ?_
  intro p e s m args below meth c Q C hK hP hQ ls hl
  have hx := C.1
  have hb := C.2.1
  have hml := C.2.2.1
  have hown := C.2.2.2.1
  have hts := C.2.2.2.2
  have hl : lv_has ls 1 [(0, .int (iI q))] := hl
  refine lv_iload_n hx hb dX1_goesBack_0 rfl (lv_at hl 0 rfl) ?_
  refine zt_callS C (As := [.int (iI q)]) (rest := []) (c_X1_labelOf l D gi gc gr q (by first | omega | assumption)) (va_cwS 1 hts gX1_goesBack_X1_labelOf rfl rfl rfl (by decide +kernel) ⟨Nat.le_of_ble_eq_true rfl, Nat.le_of_ble_eq_true rfl⟩) (zt_preS hK (hP.sub (ws' := []) [] rfl) [.int (iI q)]) rfl hl.1 rfl (Nat.le_of_ble_eq_true rfl) dX1_goesBack_1 ⟨Nat.le_of_ble_eq_true rfl, Nat.le_of_ble_eq_true rfl⟩ (fun r_1 hr_1 => ?_)
  obtain rfl := hr_1
  refine zt_callS C (As := [.int (iI (labF q))]) (rest := []) (c_X1_pictureOf l D gi gc gr (labF q) (by have := labF_bd h0; omega)) (va_cwS 1 hts gX1_goesBack_X1_pictureOf rfl rfl rfl (by decide +kernel) ⟨Nat.le_of_ble_eq_true rfl, Nat.le_of_ble_eq_true rfl⟩) (zt_preS hK (hP.sub (ws' := []) [] rfl) [.int (iI (labF q))]) rfl hl.1 rfl (Nat.le_of_ble_eq_true rfl) dX1_goesBack_4 ⟨Nat.le_of_ble_eq_true rfl, Nat.le_of_ble_eq_true rfl⟩ (fun r_2 hr_2 => ?_)
  obtain rfl := hr_2
  have hback := picF_lab h0
  refine lv_iload_n hx hb dX1_goesBack_7 rfl (lv_at hl 0 rfl) ?_
  refine zt_icmp_ne (tgt := 15) hx hb dX1_goesBack_8 (by decide) (by omega) (fun c_3 => absurd c_3 (by omega)) (fun c_3 => ?_)
  refine lv_iconst (v := iI (1)) hx hb dX1_goesBack_11 (by decide +kernel) ?_
  refine lv_goto (tgt := 16) hx hb dX1_goesBack_12 (by decide) ?_
  exact hQ _ _ _ (by first | rfl | decide +kernel) (rfl) dX1_goesBack_16
