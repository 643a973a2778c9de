/-! ===== the rhythm: what is needed of it: the found frames cover the fields, one behind the other ===== -/
def Cov (F j : Int) (fi le : Nat → Int) : Prop := ((F = 0 ∧ j = 0) ∨ (0 < F ∧ F ≤ j ∧ fi 0 = 0 ∧ fi (F - 1).toNat + le (F - 1).toNat = j)) ∧ (∀ k : Nat, (k : Int) + 1 < F → fi (k + 1) = fi k + le k) ∧ ∀ k : Nat, (k : Int) < F → 0 ≤ fi k ∧ 1 ≤ le k ∧ fi k + le k ≤ j
theorem Cov_0 (fi le : Nat → Int) : Cov 0 0 fi le := ⟨Or.inl ⟨rfl, rfl⟩, fun k h => absurd h (by omega), fun k h => absurd h (by omega)⟩
theorem Cov_new {F j : Int} {fi le : Nat → Int} (h : Cov F j fi le) (hj : 0 ≤ j) : Cov (F + 1) (j + 1) (uP fi F.toNat j) (uP le ((F + 1) - 1).toNat ((j - j) + 1)) := by
  obtain ⟨h1, h2, h3⟩ := h
  have hF : 0 ≤ F := by omega
  have e1 : ((F + 1) - 1).toNat = F.toNat := by rw [show (F + 1) - 1 = F by omega]
  rw [e1]
  refine ⟨Or.inr ⟨by omega, by omega, ?_, ?_⟩, fun k hk => ?_, fun k hk => ?_⟩
  · by_cases e : (0 : Nat) = F.toNat
    · rw [← e, uP_s]
      omega
    · rw [uP_n e]
      omega
  · rw [e1, uP_s, uP_s]
    omega
  · have e2 : k ≠ F.toNat := by omega
    rw [uP_n e2, uP_n e2]
    by_cases e : k + 1 = F.toNat
    · rw [e, uP_s]
      have e3 : (F - 1).toNat = k := by omega
      rw [e3] at h1
      omega
    · rw [uP_n e]
      exact h2 k (by omega)
  · by_cases e : k = F.toNat
    · rw [e, uP_s, uP_s]
      omega
    · rw [uP_n e, uP_n e]
      have := h3 k (by omega)
      omega
theorem Cov_more {F j st : Int} {fi le : Nat → Int} (h : Cov F j fi le) (hF : 0 < F) (hst : st = fi (F - 1).toNat) : Cov F (j + 1) fi (uP le (F - 1).toNat ((j - st) + 1)) := by
  obtain ⟨h1, h2, h3⟩ := h
  refine ⟨Or.inr ⟨hF, by omega, by omega, ?_⟩, fun k hk => ?_, fun k hk => ?_⟩
  · rw [uP_s]
    omega
  · rw [uP_n (show k ≠ (F - 1).toNat by omega)]
    exact h2 k hk
  · have h4 := h3 k hk
    by_cases e : k = (F - 1).toNat
    · rw [e, uP_s]
      rw [e] at h4
      omega
    · rw [uP_n e]
      omega
theorem uP_all {g : Nat → Int} {lo hi j z : Int} (hj : 0 ≤ j) (h : ∀ k : Nat, (k : Int) < j → lo ≤ g k ∧ g k < hi) (hz : lo ≤ z ∧ z < hi) : ∀ k : Nat, (k : Int) < j + 1 → lo ≤ uP g j.toNat z k ∧ uP g j.toNat z k < hi := by
  intro k hk
  by_cases e : k = j.toNat
  · rw [e, uP_s]
    exact hz
  · rw [uP_n e]
    exact h k (by omega)

set_option maxHeartbeats 4000000 in
set_option maxRecDepth 100000 in
theorem c_X3_forget (l : Launch) (D : va_G) (gi gc gr : ClassId) (sz : Nat) (o : Nat) (q1 : Nat) (q2 : Nat) (q3 : Nat) (q4 : Nat) (q5 : Nat) (q6 : Nat) (cst : Int) (F : Int) (kn : Int) : Met l yX3_forget wsX3_forget { frames := 0, cells := 0, slots := 0, locals := 0 } (zPw D gi gc gr [(o, .inr (2, [.ref q1, .ref q2, .ref q3, .ref q4, .ref q5, .ref q6, .int (iI cst), .int (iI F), .int (iI kn)]))] sz [.ref o]) (va_Qv (S := Unit) (fun _ => True) (zB D (va_A [(o, .inr (2, [.ref q1, .ref q2, .ref q3, .ref q4, .ref q5, .ref q6, .int (iI cst), .int (iI F), .int (iI kn)]))] sz) (fun _ => [(o, .inr (2, [.ref q1, .ref q2, .ref q3, .ref q4, .ref q5, .ref q6, .int (iI cst), .int (iI F), .int (iI 0)]))])) (va_A [(o, .inr (2, [.ref q1, .ref q2, .ref q3, .ref q4, .ref q5, .ref q6, .int (iI cst), .int (iI F), .int (iI kn)]))] sz)) 0 0 (va_A [(o, .inr (2, [.ref q1, .ref q2, .ref q3, .ref q4, .ref q5, .ref q6, .int (iI cst), .int (iI F), .int (iI kn)]))] sz) := by
  refine zt_metWv (own := RX3) (cc := cX3_forget) (maxL := 1) (by decide) rfl rfl (Nat.le_of_ble_eq_true rfl) ?_
  intro p e s m args below meth c Q A C hK hP hD hS hA _ hQ ls hl
  have hx := C.1
  have hb := C.2.1
  have hml := C.2.2.1
  have hown := C.2.2.2.1
  have hts := C.2.2.2.2
  have i3 : ∀ w ∈ u_ws RX3 TX3 9, w ∈ wsX3_forget := by decide +kernel
  have f37 := hts (.fieldLink RX3 37 "Threetwo$Rhythm" "known" "Z") (by decide +kernel)
  have hl : lv_has ls 1 [(0, .ref o)] := hl
  refine lv_aload_n hx hb dX3_forget_0 rfl (lv_at hl 0 rfl) ?_
  refine lv_iconst (v := iI (0)) hx hb dX3_forget_1 (by decide +kernel) ?_
  refine va_put (D := D) (ci := 2) (v := .int (iI 0)) (ty := .boolean) (C := RX3) (T := TX3) (N := 9) hx hb hts i3 tyX3 tyX3_ok nmX3 hown hK.1 hP hD hS 0 rfl rfl 8 (by decide) f37 (fun _ h9 => h9) rfl (by decide +kernel) rfl rfl (Nat.le_of_ble_eq_true rfl) dX3_forget_2 (fun H locs hP hD hS => ?_)
  have hP : va_P D vwCl [(o, .inr (2, [.ref q1, .ref q2, .ref q3, .ref q4, .ref q5, .ref q6, .int (iI cst), .int (iI F), .int (iI 0)]))] H := hP
  have hD : va_D A [(o, .inr (2, [.ref q1, .ref q2, .ref q3, .ref q4, .ref q5, .ref q6, .int (iI cst), .int (iI F), .int (iI 0)]))] := hD
  exact hQ () _ _ _ _ (by trivial) hP hD hS dX3_forget_5
set_option maxHeartbeats 4000000 in
set_option maxRecDepth 100000 in
theorem c_X3_step (l : Launch) (D : va_G) (gi gc gr : ClassId) (x1 : Int) (x2 : Int) (al : Int) (ch : Int) (h1 : 0 ≤ x1 ∧ x1 < 5) (h2 : 0 ≤ x2 ∧ x2 < 5) (hal : al = 0 ∨ al = 1) : Met l yX3_step wsX3_step { frames := 0, cells := 0, slots := 0, locals := 0 } (zPr D gi gc gr [] [.int (iI x1), .int (iI x2), .int (iI al), .int (iI ch)]) (vp_Si (fun v => ∃ z : Int, v = iI z ∧ True)) 0 0 (fun _ => False) := by
  refine zt_metRi (own := RX3) (cc := cX3_step) (maxL := 4) (by decide) rfl rfl (Nat.le_of_ble_eq_true rfl) ?_
  intro p e s m args below meth c Q C hK hP hQ ls hl
  have hx := C.1
  have hb := C.2.1
  have hml := C.2.2.1
  have hown := C.2.2.2.1
  have hts := C.2.2.2.2
  have hl : lv_has ls 4 [(0, .int (iI x1)), (1, .int (iI x2)), (2, .int (iI al)), (3, .int (iI ch))] := hl
  refine lv_iload_n hx hb dX3_step_0 rfl (lv_at hl 1 rfl) ?_
  refine lv_iload_n hx hb dX3_step_1 rfl (lv_at hl 0 rfl) ?_
  refine lv_iconst (v := iI (1)) hx hb dX3_step_2 (by decide +kernel) ?_
  refine zt_iadd hx hb dX3_step_3 ?_
  refine lv_iconst (v := iI (5)) hx hb dX3_step_4 (by decide +kernel) ?_
  refine zt_irem hx hb dX3_step_5 (by omega) ?_
  refine zt_icmp_eq (tgt := 11) hx hb dX3_step_6 (by decide) (by omega) (fun c_1 => ?_) (fun c_1 => ?_)
  · refine lv_iload_n hx hb dX3_step_11 rfl (lv_at hl 1 rfl) ?_
    refine zt_if_eq (tgt := 20) hx hb dX3_step_12 (by decide) (by omega) (fun c_2 => ?_) (fun c_2 => ?_)
    · refine lv_iload_n hx hb dX3_step_20 rfl (lv_at hl 2 rfl) ?_
      refine zt_if_eq (tgt := 28) hx hb dX3_step_21 (by decide) (by omega) (fun c_3 => ?_) (fun c_3 => ?_)
      · refine lv_iconst (v := iI (0)) hx hb dX3_step_28 (by decide +kernel) ?_
        exact hQ _ _ _ (⟨_, rfl, trivial⟩) dX3_step_29
      · refine lv_iconst (v := iI (1)) hx hb dX3_step_24 (by decide +kernel) ?_
        refine lv_goto (tgt := 29) hx hb dX3_step_25 (by decide) ?_
        exact hQ _ _ _ (⟨_, rfl, trivial⟩) dX3_step_29
    · refine lv_iload_n hx hb dX3_step_15 rfl (lv_at hl 1 rfl) ?_
      refine lv_iconst (v := iI (2)) hx hb dX3_step_16 (by decide +kernel) ?_
      refine zt_icmp_ne (tgt := 30) hx hb dX3_step_17 (by decide) (by omega) (fun c_4 => ?_) (fun c_4 => ?_)
      · refine lv_iload_n hx hb dX3_step_30 rfl (lv_at hl 2 rfl) ?_
        refine zt_if_eq (tgt := 38) hx hb dX3_step_31 (by decide) (by omega) (fun c_5 => ?_) (fun c_5 => ?_)
        · refine lv_iconst (v := iI (3)) hx hb dX3_step_38 (by decide +kernel) ?_
          exact hQ _ _ _ (⟨_, rfl, trivial⟩) dX3_step_39
        · refine lv_iconst (v := iI (0)) hx hb dX3_step_34 (by decide +kernel) ?_
          refine lv_goto (tgt := 39) hx hb dX3_step_35 (by decide) ?_
          exact hQ _ _ _ (⟨_, rfl, trivial⟩) dX3_step_39
      · refine lv_iload_n hx hb dX3_step_20 rfl (lv_at hl 2 rfl) ?_
        refine zt_if_eq (tgt := 28) hx hb dX3_step_21 (by decide) (by omega) (fun c_6 => ?_) (fun c_6 => ?_)
        · refine lv_iconst (v := iI (0)) hx hb dX3_step_28 (by decide +kernel) ?_
          exact hQ _ _ _ (⟨_, rfl, trivial⟩) dX3_step_29
        · refine lv_iconst (v := iI (1)) hx hb dX3_step_24 (by decide +kernel) ?_
          refine lv_goto (tgt := 29) hx hb dX3_step_25 (by decide) ?_
          exact hQ _ _ _ (⟨_, rfl, trivial⟩) dX3_step_29
  · refine lv_iload_n hx hb dX3_step_9 rfl (lv_at hl 3 rfl) ?_
    exact hQ _ _ _ (⟨_, rfl, trivial⟩) dX3_step_10
set_option maxHeartbeats 4000000 in
set_option maxRecDepth 100000 in
theorem c_X3_bestFirst (l : Launch) (D : va_G) (gi gc gr : ClassId) (o : Nat) (q1 : Nat) (q2 : Nat) (q3 : Nat) (q4 : Nat) (q5 : Nat) (q6 : Nat) (cst : Int) (F : Int) (kn : Int) (bh : Nat → Int) : Met l yX3_bestFirst wsX3_bestFirst { frames := 0, cells := 0, slots := 0, locals := 0 } (zPr D gi gc gr [(o, .inr (2, [.ref q1, .ref q2, .ref q3, .ref q4, .ref q5, .ref q6, .int (iI cst), .int (iI F), .int (iI kn)])), (q1, aI gi 300 bh)] [.ref o]) (vp_Si (fun v => ∃ z : Int, v = iI z ∧ (0 ≤ z ∧ z < 5))) 0 0 (fun _ => False) := by
  refine zt_metRi (own := RX3) (cc := cX3_bestFirst) (maxL := 3) (by decide) rfl rfl (Nat.le_of_ble_eq_true rfl) ?_
  intro p e s m args below meth c Q C hK hP hQ ls hl
  have hx := C.1
  have hb := C.2.1
  have hml := C.2.2.1
  have hown := C.2.2.2.1
  have hts := C.2.2.2.2
  have i3 : ∀ w ∈ u_ws RX3 TX3 9, w ∈ wsX3_bestFirst := by decide +kernel
  have f11 := hts (.fieldLink RX3 11 "Threetwo$Rhythm" "behind" "[I") (by decide +kernel)
  have hl : lv_has ls 3 [(0, .ref o)] := hl
  refine lv_iconst (v := iI (0)) hx hb dX3_bestFirst_0 (by decide +kernel) ?_
  refine lv_istore_n (lv' := [(1, .int (iI 0)), (0, .ref o)]) hx hb dX3_bestFirst_1 rfl hl (by decide) rfl (fun ls hl => ?_)
  refine lv_iconst (v := iI (1)) hx hb dX3_bestFirst_2 (by decide +kernel) ?_
  refine lv_istore_n (lv' := [(2, .int (iI 1)), (1, .int (iI 0)), (0, .ref o)]) hx hb dX3_bestFirst_3 rfl hl (by decide) rfl (fun ls hl => ?_)
  have loop_4 : ∀ (n_4 : Nat) (x : Int) (y : Int) (hxy : (0 ≤ x ∧ x < 5) ∧ 1 ≤ y ∧ y ≤ 5) (hm_4 : 5 - y < (n_4 : Int)) (ls : Array Slot) (hl : lv_has ls 3 [(0, .ref o), (1, .int (iI x)), (2, .int (iI y))]), W p l e { frames := 0, cells := 0, slots := 0, locals := 0 } s m args below meth c s.heap [] 0 0 Q (F0 m 4 ls []) := by
    intro n_4
    induction n_4 with
    | zero => intro x y hxy hm_4 ls hl; exact absurd hm_4 (by omega)
    | succ n_4 ih_4 =>
      intro x y hxy hm_4 ls hl
      refine lv_iload_n hx hb dX3_bestFirst_4 rfl (lv_at hl 2 rfl) ?_
      refine lv_iconst (v := iI (5)) hx hb dX3_bestFirst_5 (by decide +kernel) ?_
      refine zt_icmp_ge (tgt := 32) hx hb dX3_bestFirst_6 (by decide) (by omega) (fun c_1 => ?_) (fun c_1 => ?_)
      · refine lv_iload_n hx hb dX3_bestFirst_32 rfl (lv_at hl 1 rfl) ?_
        exact hQ _ _ _ (⟨_, rfl, by omega⟩) dX3_bestFirst_33
      · refine lv_aload_n hx hb dX3_bestFirst_9 rfl (lv_at hl 0 rfl) ?_
        refine va_get (D := D) (ci := 2) (v := .ref q1) (C := RX3) (T := TX3) (N := 9) hx hb hts i3 hown hK.1 hP 0 rfl rfl 0 (by decide) f11 (fun _ h9 => h9) rfl dX3_bestFirst_10 ?_
        refine lv_iload_n hx hb dX3_bestFirst_13 rfl (lv_at hl 2 rfl) ?_
        refine zt_iald hx hb hK.1 hP 1 0 rfl rfl (by omega) (by omega) dX3_bestFirst_14 ?_
        refine lv_aload_n hx hb dX3_bestFirst_15 rfl (lv_at hl 0 rfl) ?_
        refine va_get (D := D) (ci := 2) (v := .ref q1) (C := RX3) (T := TX3) (N := 9) hx hb hts i3 hown hK.1 hP 0 rfl rfl 0 (by decide) f11 (fun _ h9 => h9) rfl dX3_bestFirst_16 ?_
        refine lv_iload_n hx hb dX3_bestFirst_19 rfl (lv_at hl 1 rfl) ?_
        refine zt_iald hx hb hK.1 hP 1 0 rfl rfl (by omega) (by omega) dX3_bestFirst_20 ?_
        refine lv_icmp_ge (tgt := 26) hx hb dX3_bestFirst_21 (by decide) (fun c_2 => ?_) (fun c_2 => ?_)
        · refine lv_iinc (v := iI (y + 1)) (lv' := [(2, .int (iI (y + 1))), (0, .ref o), (1, .int (iI x))]) hx hb dX3_bestFirst_26 hl (k := 2) rfl (iI_add _ _) (by decide) rfl (fun ls hl => ?_)
          refine lv_goto (tgt := 4) hx hb dX3_bestFirst_29 (by decide) ?_
          exact ih_4 x (y + 1) (by omega) (by omega) ls (lv_sub hl [1, 2, 0] rfl)
        · refine lv_iload_n hx hb dX3_bestFirst_24 rfl (lv_at hl 2 rfl) ?_
          refine lv_istore_n (lv' := [(1, .int (iI y)), (0, .ref o), (2, .int (iI y))]) hx hb dX3_bestFirst_25 rfl hl (by decide) rfl (fun ls hl => ?_)
          refine lv_iinc (v := iI (y + 1)) (lv' := [(2, .int (iI (y + 1))), (1, .int (iI y)), (0, .ref o)]) hx hb dX3_bestFirst_26 hl (k := 2) rfl (iI_add _ _) (by decide) rfl (fun ls hl => ?_)
          refine lv_goto (tgt := 4) hx hb dX3_bestFirst_29 (by decide) ?_
          exact ih_4 y (y + 1) (by omega) (by omega) ls (lv_sub hl [2, 1, 0] rfl)
  exact loop_4 ((5 - 1 : Int).toNat + 1) 0 1 (by omega) (by omega) ls (lv_sub hl [2, 1, 0] rfl)
set_option maxHeartbeats 4000000 in
set_option maxRecDepth 100000 in
theorem c_X3_bestNext (l : Launch) (D : va_G) (gi gc gr : ClassId) (o : Nat) (q1 : Nat) (q2 : Nat) (q3 : Nat) (q4 : Nat) (q5 : Nat) (q6 : Nat) (cst : Int) (F : Int) (kn : Int) (bh : Nat → Int) (f : Int) (x1 : Int) (al : Int) (ch : Int) (hf : 0 ≤ f ∧ f ≤ 58) (h1 : 0 ≤ x1 ∧ x1 < 5) (hal : al = 0 ∨ al = 1) : Met l yX3_bestNext wsX3_bestNext { frames := 1, cells := 0, slots := 0, locals := 23 } (zPr D gi gc gr [(o, .inr (2, [.ref q1, .ref q2, .ref q3, .ref q4, .ref q5, .ref q6, .int (iI cst), .int (iI F), .int (iI kn)])), (q1, aI gi 300 bh)] [.ref o, .int (iI f), .int (iI x1), .int (iI al), .int (iI ch)]) (vp_Si (fun v => ∃ z : Int, v = iI z ∧ (0 ≤ z ∧ z < 5))) 0 0 (fun _ => False) := by
  refine zt_metRi (own := RX3) (cc := cX3_bestNext) (maxL := 10) (by decide) rfl rfl (Nat.le_of_ble_eq_true rfl) ?_
  intro p e s m args below meth c Q C hK hP hQ ls hl
  have hx := C.1
  have hb := C.2.1
  have hml := C.2.2.1
  have hown := C.2.2.2.1
  have hts := C.2.2.2.2
  have i3 : ∀ w ∈ u_ws RX3 TX3 9, w ∈ wsX3_bestNext := by decide +kernel
  have f11 := hts (.fieldLink RX3 11 "Threetwo$Rhythm" "behind" "[I") (by decide +kernel)
  have hl : lv_has ls 10 [(0, .ref o), (1, .int (iI f)), (2, .int (iI x1)), (3, .int (iI al)), (4, .int (iI ch))] := hl
  refine lv_iload_n hx hb dX3_bestNext_0 rfl (lv_at hl 1 rfl) ?_
  refine lv_iconst (v := iI (1)) hx hb dX3_bestNext_1 (by decide +kernel) ?_
  refine zt_iadd hx hb dX3_bestNext_2 ?_
  refine lv_iconst (v := iI (5)) hx hb dX3_bestNext_3 (by decide +kernel) ?_
  refine zt_imul hx hb dX3_bestNext_4 ?_
  refine lv_istore (lv' := [(5, .int (iI ((f + 1) * 5))), (0, .ref o), (1, .int (iI f)), (2, .int (iI x1)), (3, .int (iI al)), (4, .int (iI ch))]) hx hb dX3_bestNext_5 hl (by decide) rfl (fun ls hl => ?_)
  refine lv_iconst (v := iI (0)) hx hb dX3_bestNext_7 (by decide +kernel) ?_
  refine lv_istore (lv' := [(6, .int (iI 0)), (5, .int (iI ((f + 1) * 5))), (0, .ref o), (1, .int (iI f)), (2, .int (iI x1)), (3, .int (iI al)), (4, .int (iI ch))]) hx hb dX3_bestNext_8 hl (by decide) rfl (fun ls hl => ?_)
  refine lv_iload_n hx hb dX3_bestNext_10 rfl (lv_at hl 4 rfl) ?_
  refine lv_iconst (v := iI (0)) hx hb dX3_bestNext_11 (by decide +kernel) ?_
  refine lv_iload_n hx hb dX3_bestNext_12 rfl (lv_at hl 5 rfl) ?_
  refine lv_iload hx hb dX3_bestNext_13 (lv_at hl 6 rfl) ?_
  refine zt_callS C (As := [.int (iI x1), .int (iI 0), .int (iI al), .int (iI ch)]) (rest := []) (c_X3_step l D gi gc gr x1 0 al ch (by first | omega | assumption) (by first | omega | assumption) (by first | omega | assumption)) (va_cwS 4 hts gX3_bestNext_X3_step rfl rfl rfl (by decide +kernel) ⟨Nat.le_of_ble_eq_true rfl, Nat.le_of_ble_eq_true rfl⟩) (zt_preS hK (hP.sub (ws' := []) [] rfl) [.int (iI x1), .int (iI 0), .int (iI al), .int (iI ch)]) rfl hl.1 rfl (Nat.le_of_ble_eq_true rfl) dX3_bestNext_15 ⟨Nat.le_of_ble_eq_true rfl, Nat.le_of_ble_eq_true rfl⟩ (fun r_1 hr_1 => ?_)
  obtain ⟨z_2, rfl, hz_2⟩ := hr_1
  refine lv_aload_n hx hb dX3_bestNext_18 rfl (lv_at hl 2 rfl) ?_
  refine va_get (D := D) (ci := 2) (v := .ref q1) (C := RX3) (T := TX3) (N := 9) hx hb hts i3 hown hK.1 hP 0 rfl rfl 0 (by decide) f11 (fun _ h9 => h9) rfl dX3_bestNext_19 ?_
  refine lv_iload hx hb dX3_bestNext_22 (lv_at hl 1 rfl) ?_
  refine zt_iald hx hb hK.1 hP 1 0 rfl rfl (by omega) (by omega) dX3_bestNext_24 ?_
  refine zt_iadd hx hb dX3_bestNext_25 ?_
  refine lv_istore (lv' := [(7, .int (iI (z_2 + (bh ((f + 1) * 5).toNat)))), (6, .int (iI 0)), (5, .int (iI ((f + 1) * 5))), (0, .ref o), (1, .int (iI f)), (2, .int (iI x1)), (3, .int (iI al)), (4, .int (iI ch))]) hx hb dX3_bestNext_26 hl (by decide) rfl (fun ls hl => ?_)
  refine lv_iconst (v := iI (1)) hx hb dX3_bestNext_28 (by decide +kernel) ?_
  refine lv_istore (lv' := [(8, .int (iI 1)), (7, .int (iI (z_2 + (bh ((f + 1) * 5).toNat)))), (6, .int (iI 0)), (5, .int (iI ((f + 1) * 5))), (0, .ref o), (1, .int (iI f)), (2, .int (iI x1)), (3, .int (iI al)), (4, .int (iI ch))]) hx hb dX3_bestNext_29 hl (by decide) rfl (fun ls hl => ?_)
  have loop_31 : ∀ (n_31 : Nat) (x : Int) (w : Int) (y : Int) (hxy : (0 ≤ x ∧ x < 5) ∧ 1 ≤ y ∧ y ≤ 5) (hm_31 : 5 - y < (n_31 : Int)) (ls : Array Slot) (hl : lv_has ls 10 [(0, .ref o), (1, .int (iI f)), (2, .int (iI x1)), (3, .int (iI al)), (4, .int (iI ch)), (5, .int (iI ((f + 1) * 5))), (6, .int (iI x)), (7, .int (iI w)), (8, .int (iI y))]), W p l e { frames := 1, cells := 0, slots := 0, locals := 23 } s m args below meth c s.heap [] 0 0 Q (F0 m 31 ls []) := by
    intro n_31
    induction n_31 with
    | zero => intro x w y hxy hm_31 ls hl; exact absurd hm_31 (by omega)
    | succ n_31 ih_31 =>
      intro x w y hxy hm_31 ls hl
      refine lv_iload hx hb dX3_bestNext_31 (lv_at hl 8 rfl) ?_
      refine lv_iconst (v := iI (5)) hx hb dX3_bestNext_33 (by decide +kernel) ?_
      refine zt_icmp_ge (tgt := 80) hx hb dX3_bestNext_34 (by decide) (by omega) (fun c_3 => ?_) (fun c_3 => ?_)
      · refine lv_iload hx hb dX3_bestNext_80 (lv_at hl 6 rfl) ?_
        exact hQ _ _ _ (⟨_, rfl, by omega⟩) dX3_bestNext_82
      · refine lv_iload_n hx hb dX3_bestNext_37 rfl (lv_at hl 2 rfl) ?_
        refine lv_iload hx hb dX3_bestNext_38 (lv_at hl 8 rfl) ?_
        refine lv_iload_n hx hb dX3_bestNext_40 rfl (lv_at hl 3 rfl) ?_
        refine lv_iload hx hb dX3_bestNext_41 (lv_at hl 4 rfl) ?_
        refine zt_callS C (As := [.int (iI x1), .int (iI y), .int (iI al), .int (iI ch)]) (rest := []) (c_X3_step l D gi gc gr x1 y al ch (by first | omega | assumption) (by first | omega | assumption) (by first | omega | assumption)) (va_cwS 4 hts gX3_bestNext_X3_step rfl rfl rfl (by decide +kernel) ⟨Nat.le_of_ble_eq_true rfl, Nat.le_of_ble_eq_true rfl⟩) (zt_preS hK (hP.sub (ws' := []) [] rfl) [.int (iI x1), .int (iI y), .int (iI al), .int (iI ch)]) rfl hl.1 rfl (Nat.le_of_ble_eq_true rfl) dX3_bestNext_43 ⟨Nat.le_of_ble_eq_true rfl, Nat.le_of_ble_eq_true rfl⟩ (fun r_4 hr_4 => ?_)
        obtain ⟨z_5, rfl, hz_5⟩ := hr_4
        refine lv_aload_n hx hb dX3_bestNext_46 rfl (lv_at hl 0 rfl) ?_
        refine va_get (D := D) (ci := 2) (v := .ref q1) (C := RX3) (T := TX3) (N := 9) hx hb hts i3 hown hK.1 hP 0 rfl rfl 0 (by decide) f11 (fun _ h9 => h9) rfl dX3_bestNext_47 ?_
        refine lv_iload hx hb dX3_bestNext_50 (lv_at hl 5 rfl) ?_
        refine lv_iload hx hb dX3_bestNext_52 (lv_at hl 8 rfl) ?_
        refine zt_iadd hx hb dX3_bestNext_54 ?_
        refine zt_iald hx hb hK.1 hP 1 0 rfl rfl (by omega) (by omega) dX3_bestNext_55 ?_
        refine zt_iadd hx hb dX3_bestNext_56 ?_
        refine lv_istore (lv' := [(9, .int (iI (z_5 + (bh (((f + 1) * 5) + y).toNat)))), (0, .ref o), (1, .int (iI f)), (2, .int (iI x1)), (3, .int (iI al)), (4, .int (iI ch)), (5, .int (iI ((f + 1) * 5))), (6, .int (iI x)), (7, .int (iI w)), (8, .int (iI y))]) hx hb dX3_bestNext_57 hl (by decide) rfl (fun ls hl => ?_)
        refine lv_iload hx hb dX3_bestNext_59 (lv_at hl 0 rfl) ?_
        refine lv_iload hx hb dX3_bestNext_61 (lv_at hl 8 rfl) ?_
        refine lv_icmp_ge (tgt := 74) hx hb dX3_bestNext_63 (by decide) (fun c_6 => ?_) (fun c_6 => ?_)
        · refine lv_iinc (v := iI (y + 1)) (lv' := [(8, .int (iI (y + 1))), (9, .int (iI (z_5 + (bh (((f + 1) * 5) + y).toNat)))), (0, .ref o), (1, .int (iI f)), (2, .int (iI x1)), (3, .int (iI al)), (4, .int (iI ch)), (5, .int (iI ((f + 1) * 5))), (6, .int (iI x)), (7, .int (iI w))]) hx hb dX3_bestNext_74 hl (k := 9) rfl (iI_add _ _) (by decide) rfl (fun ls hl => ?_)
          refine lv_goto (tgt := 31) hx hb dX3_bestNext_77 (by decide) ?_
          exact ih_31 x w (y + 1) (by omega) (by omega) ls (lv_sub hl [2, 3, 4, 5, 6, 7, 8, 9, 0] rfl)
        · refine lv_iload hx hb dX3_bestNext_66 (lv_at hl 9 rfl) ?_
          refine lv_istore (lv' := [(6, .int (iI y)), (9, .int (iI (z_5 + (bh (((f + 1) * 5) + y).toNat)))), (0, .ref o), (1, .int (iI f)), (2, .int (iI x1)), (3, .int (iI al)), (4, .int (iI ch)), (5, .int (iI ((f + 1) * 5))), (7, .int (iI w)), (8, .int (iI y))]) hx hb dX3_bestNext_68 hl (by decide) rfl (fun ls hl => ?_)
          refine lv_iload hx hb dX3_bestNext_70 (lv_at hl 1 rfl) ?_
          refine lv_istore (lv' := [(7, .int (iI (z_5 + (bh (((f + 1) * 5) + y).toNat)))), (6, .int (iI y)), (9, .int (iI (z_5 + (bh (((f + 1) * 5) + y).toNat)))), (0, .ref o), (1, .int (iI f)), (2, .int (iI x1)), (3, .int (iI al)), (4, .int (iI ch)), (5, .int (iI ((f + 1) * 5))), (8, .int (iI y))]) hx hb dX3_bestNext_72 hl (by decide) rfl (fun ls hl => ?_)
          refine lv_iinc (v := iI (y + 1)) (lv' := [(8, .int (iI (y + 1))), (7, .int (iI (z_5 + (bh (((f + 1) * 5) + y).toNat)))), (6, .int (iI y)), (9, .int (iI (z_5 + (bh (((f + 1) * 5) + y).toNat)))), (0, .ref o), (1, .int (iI f)), (2, .int (iI x1)), (3, .int (iI al)), (4, .int (iI ch)), (5, .int (iI ((f + 1) * 5)))]) hx hb dX3_bestNext_74 hl (k := 9) rfl (iI_add _ _) (by decide) rfl (fun ls hl => ?_)
          refine lv_goto (tgt := 31) hx hb dX3_bestNext_77 (by decide) ?_
          exact ih_31 y (z_5 + (bh (((f + 1) * 5) + y).toNat)) (y + 1) (by omega) (by omega) ls (lv_sub hl [4, 5, 6, 7, 8, 9, 2, 1, 0] rfl)
  exact loop_31 ((5 - 1 : Int).toNat + 1) 0 (z_2 + (bh ((f + 1) * 5).toNat)) 1 (by omega) (by omega) ls (lv_sub hl [4, 5, 6, 7, 8, 3, 2, 1, 0] rfl)
set_option maxHeartbeats 16000000 in
set_option maxRecDepth 100000 in
theorem c_X3_leastCost (l : Launch) (D : va_G) (gi gc gr : ClassId) (sz : Nat) (o : Nat) (q1 : Nat) (q2 : Nat) (q3 : Nat) (q4 : Nat) (q5 : Nat) (q6 : Nat) (cst : Int) (F : Int) (kn : Int) (bh : Nat → Int) (r : Nat) (a : Nat) (t : Int) (g : Nat → Int) (ch : Int) (ht : 0 ≤ t ∧ t ≤ 60) : Met l yX3_leastCost wsX3_leastCost { frames := 2, cells := 0, slots := 0, locals := 52 } (zPw D gi gc gr [(o, .inr (2, [.ref q1, .ref q2, .ref q3, .ref q4, .ref q5, .ref q6, .int (iI cst), .int (iI F), .int (iI kn)])), (q1, aI gi 300 bh), (r, .inr (3, [.ref a, .int (iI t)])), (a, aI gi 60 g)] sz [.ref o, .ref r, .int (iI ch)]) (va_Qi (S := Nat → Int) (fun v _ => ∃ z : Int, v = iI z) (zB D (va_A [(o, .inr (2, [.ref q1, .ref q2, .ref q3, .ref q4, .ref q5, .ref q6, .int (iI cst), .int (iI F), .int (iI kn)])), (q1, aI gi 300 bh), (r, .inr (3, [.ref a, .int (iI t)])), (a, aI gi 60 g)] sz) (fun u => [(o, .inr (2, [.ref q1, .ref q2, .ref q3, .ref q4, .ref q5, .ref q6, .int (iI cst), .int (iI F), .int (iI kn)])), (q1, aI gi 300 u), (r, .inr (3, [.ref a, .int (iI t)])), (a, aI gi 60 g)])) (va_A [(o, .inr (2, [.ref q1, .ref q2, .ref q3, .ref q4, .ref q5, .ref q6, .int (iI cst), .int (iI F), .int (iI kn)])), (q1, aI gi 300 bh), (r, .inr (3, [.ref a, .int (iI t)])), (a, aI gi 60 g)] sz)) 0 0 (va_A [(o, .inr (2, [.ref q1, .ref q2, .ref q3, .ref q4, .ref q5, .ref q6, .int (iI cst), .int (iI F), .int (iI kn)])), (q1, aI gi 300 bh), (r, .inr (3, [.ref a, .int (iI t)])), (a, aI gi 60 g)] sz) := by
  refine zt_metWi (own := RX3) (cc := cX3_leastCost) (maxL := 8) (by decide) rfl rfl (Nat.le_of_ble_eq_true rfl) ?_
  intro p e s m args below meth c Q A C hK hP hD hS hA _ hQ ls hl
  have hx := C.1
  have hb := C.2.1
  have hml := C.2.2.1
  have hown := C.2.2.2.1
  have hts := C.2.2.2.2
  have i3 : ∀ w ∈ u_ws RX3 TX3 9, w ∈ wsX3_leastCost := by decide +kernel
  have f11 := hts (.fieldLink RX3 11 "Threetwo$Rhythm" "behind" "[I") (by decide +kernel)
  have hl : lv_has ls 8 [(0, .ref o), (1, .ref r), (2, .int (iI ch))] := hl
  refine lv_aload_n hx hb dX3_leastCost_0 rfl (lv_at hl 1 rfl) ?_
  refine zt_callV C (As := []) (rest := []) (c_X4_many l D gi gc gr r a t) (cwV 0 hts gX3_leastCost_X4_many rfl rfl rfl (by decide +kernel) ⟨Nat.le_of_ble_eq_true rfl, Nat.le_of_ble_eq_true rfl⟩) (zt_preV hK (hP.sub (ws' := [(r, .inr (3, [.ref a, .int (iI t)]))]) [2] rfl) [] 0 rfl rfl) rfl hl.1 rfl (Nat.le_of_ble_eq_true rfl) dX3_leastCost_1 ⟨Nat.le_of_ble_eq_true rfl, Nat.le_of_ble_eq_true rfl⟩ (fun r_1 hr_1 => ?_)
  obtain rfl := hr_1
  refine lv_iconst (v := iI (1)) hx hb dX3_leastCost_4 (by decide +kernel) ?_
  refine zt_isub hx hb dX3_leastCost_5 ?_
  refine lv_istore_n (lv' := [(3, .int (iI (t - 1))), (0, .ref o), (1, .ref r), (2, .int (iI ch))]) hx hb dX3_leastCost_6 rfl hl (by decide) rfl (fun ls hl => ?_)
  refine lv_iload_n hx hb dX3_leastCost_7 rfl (lv_at hl 0 rfl) ?_
  refine zt_if_ge (tgt := 13) hx hb dX3_leastCost_8 (by decide) (by omega) (fun c_2 => ?_) (fun c_2 => ?_)
  · refine lv_iconst (v := iI (0)) hx hb dX3_leastCost_13 (by decide +kernel) ?_
    refine lv_istore (lv' := [(4, .int (iI 0)), (3, .int (iI (t - 1))), (0, .ref o), (1, .ref r), (2, .int (iI ch))]) hx hb dX3_leastCost_14 hl (by decide) rfl (fun ls hl => ?_)
    have loop_16 : ∀ (n_16 : Nat) (x : Int) (b1 : Nat → Int) (hx0 : 0 ≤ x ∧ x ≤ 5) (hm_16 : 5 - x < (n_16 : Int)) (H : Heap) (locs : List Loc) (hP : va_P D vwCl [(o, .inr (2, [.ref q1, .ref q2, .ref q3, .ref q4, .ref q5, .ref q6, .int (iI cst), .int (iI F), .int (iI kn)])), (q1, aI gi 300 b1), (r, .inr (3, [.ref a, .int (iI t)])), (a, aI gi 60 g)] H) (hD : va_D A [(o, .inr (2, [.ref q1, .ref q2, .ref q3, .ref q4, .ref q5, .ref q6, .int (iI cst), .int (iI F), .int (iI kn)])), (q1, aI gi 300 b1), (r, .inr (3, [.ref a, .int (iI t)])), (a, aI gi 60 g)]) (hS : va_S A s.heap H locs) (ls : Array Slot) (hl : lv_has ls 8 [(0, .ref o), (1, .ref r), (2, .int (iI ch)), (3, .int (iI (t - 1))), (4, .int (iI x))]), W p l e { frames := 2, cells := 0, slots := 0, locals := 52 } s m args below meth c H locs 0 0 Q (F0 m 16 ls []) := by
      intro n_16
      induction n_16 with
      | zero => intro x b1 hx0 hm_16 H locs hP hD hS ls hl; exact absurd hm_16 (by omega)
      | succ n_16 ih_16 =>
        intro x b1 hx0 hm_16 H locs hP hD hS ls hl
        refine lv_iload hx hb dX3_leastCost_16 (lv_at hl 4 rfl) ?_
        refine lv_iconst (v := iI (5)) hx hb dX3_leastCost_18 (by decide +kernel) ?_
        refine zt_icmp_ge (tgt := 40) hx hb dX3_leastCost_19 (by decide) (by omega) (fun c_3 => ?_) (fun c_3 => ?_)
        · refine lv_iload_n hx hb dX3_leastCost_40 rfl (lv_at hl 3 rfl) ?_
          refine lv_iconst (v := iI (1)) hx hb dX3_leastCost_41 (by decide +kernel) ?_
          refine zt_isub hx hb dX3_leastCost_42 ?_
          refine lv_istore (lv' := [(4, .int (iI ((t - 1) - 1))), (0, .ref o), (1, .ref r), (2, .int (iI ch)), (3, .int (iI (t - 1)))]) hx hb dX3_leastCost_43 hl (by decide) rfl (fun ls hl => ?_)
          have loop_45 : ∀ (n_45 : Nat) (f : Int) (b2 : Nat → Int) (hf0 : -1 ≤ f ∧ f < t - 1) (hm_45 : f + 1 < (n_45 : Int)) (H : Heap) (locs : List Loc) (hP : va_P D vwCl [(o, .inr (2, [.ref q1, .ref q2, .ref q3, .ref q4, .ref q5, .ref q6, .int (iI cst), .int (iI F), .int (iI kn)])), (q1, aI gi 300 b2), (r, .inr (3, [.ref a, .int (iI t)])), (a, aI gi 60 g)] H) (hD : va_D A [(o, .inr (2, [.ref q1, .ref q2, .ref q3, .ref q4, .ref q5, .ref q6, .int (iI cst), .int (iI F), .int (iI kn)])), (q1, aI gi 300 b2), (r, .inr (3, [.ref a, .int (iI t)])), (a, aI gi 60 g)]) (hS : va_S A s.heap H locs) (ls : Array Slot) (hl : lv_has ls 8 [(0, .ref o), (1, .ref r), (2, .int (iI ch)), (4, .int (iI f))]), W p l e { frames := 2, cells := 0, slots := 0, locals := 52 } s m args below meth c H locs 0 0 Q (F0 m 45 ls []) := by
            intro n_45
            induction n_45 with
            | zero => intro f b2 hf0 hm_45 H locs hP hD hS ls hl; exact absurd hm_45 (by omega)
            | succ n_45 ih_45 =>
              intro f b2 hf0 hm_45 H locs hP hD hS ls hl
              refine lv_iload hx hb dX3_leastCost_45 (lv_at hl 3 rfl) ?_
              refine zt_if_lt (tgt := 145) hx hb dX3_leastCost_47 (by decide) (by omega) (fun c_4 => ?_) (fun c_4 => ?_)
              · refine lv_aload_n hx hb dX3_leastCost_145 rfl (lv_at hl 0 rfl) ?_
                refine va_get (D := D) (ci := 2) (v := .ref q1) (C := RX3) (T := TX3) (N := 9) hx hb hts i3 hown hK.1 hP 0 rfl rfl 0 (by decide) f11 (fun _ h9 => h9) rfl dX3_leastCost_146 ?_
                refine lv_aload_n hx hb dX3_leastCost_149 rfl (lv_at hl 0 rfl) ?_
                refine zt_callV C (As := []) (rest := [.ref q1]) (c_X3_bestFirst l D gi gc gr o q1 q2 q3 q4 q5 q6 cst F kn b2) (cwV 0 hts gX3_leastCost_X3_bestFirst rfl rfl rfl (by decide +kernel) ⟨Nat.le_of_ble_eq_true rfl, Nat.le_of_ble_eq_true rfl⟩) (zt_preV hK (hP.sub (ws' := [(o, .inr (2, [.ref q1, .ref q2, .ref q3, .ref q4, .ref q5, .ref q6, .int (iI cst), .int (iI F), .int (iI kn)])), (q1, aI gi 300 b2)]) [0, 1] rfl) [] 0 rfl rfl) rfl hl.1 rfl (Nat.le_of_ble_eq_true rfl) dX3_leastCost_150 ⟨Nat.le_of_ble_eq_true rfl, Nat.le_of_ble_eq_true rfl⟩ (fun r_5 hr_5 => ?_)
                obtain ⟨z_6, rfl, hz_6⟩ := hr_5
                refine zt_iald hx hb hK.1 hP 1 0 rfl rfl (by omega) (by omega) dX3_leastCost_153 ?_
                exact hQ b2 _ _ _ _ _ (⟨_, rfl⟩) hP hD hS dX3_leastCost_154
              · refine lv_aload_n hx hb dX3_leastCost_50 rfl (lv_at hl 1 rfl) ?_
                refine lv_iload hx hb dX3_leastCost_51 (lv_at hl 3 rfl) ?_
                refine zt_callV C (As := [.int (iI f)]) (rest := []) (c_X4_at l D gi gc gr r a 60 t g f (by first | omega | assumption) (by first | omega | assumption) (by first | omega | assumption)) (cwV 1 hts gX3_leastCost_X4_at rfl rfl rfl (by decide +kernel) ⟨Nat.le_of_ble_eq_true rfl, Nat.le_of_ble_eq_true rfl⟩) (zt_preV hK (hP.sub (ws' := [(r, .inr (3, [.ref a, .int (iI t)])), (a, aI gi 60 g)]) [2, 3] rfl) [.int (iI f)] 0 rfl rfl) rfl hl.1 rfl (Nat.le_of_ble_eq_true rfl) dX3_leastCost_53 ⟨Nat.le_of_ble_eq_true rfl, Nat.le_of_ble_eq_true rfl⟩ (fun r_7 hr_7 => ?_)
                obtain rfl := hr_7
                refine lv_aload_n hx hb dX3_leastCost_56 rfl (lv_at hl 1 rfl) ?_
                refine lv_iload hx hb dX3_leastCost_57 (lv_at hl 3 rfl) ?_
                refine lv_iconst (v := iI (1)) hx hb dX3_leastCost_59 (by decide +kernel) ?_
                refine zt_iadd hx hb dX3_leastCost_60 ?_
                refine zt_callV C (As := [.int (iI (f + 1))]) (rest := [.int (iI (g f.toNat))]) (c_X4_at l D gi gc gr r a 60 t g (f + 1) (by first | omega | assumption) (by first | omega | assumption) (by first | omega | assumption)) (cwV 1 hts gX3_leastCost_X4_at rfl rfl rfl (by decide +kernel) ⟨Nat.le_of_ble_eq_true rfl, Nat.le_of_ble_eq_true rfl⟩) (zt_preV hK (hP.sub (ws' := [(r, .inr (3, [.ref a, .int (iI t)])), (a, aI gi 60 g)]) [2, 3] rfl) [.int (iI (f + 1))] 0 rfl rfl) rfl hl.1 rfl (Nat.le_of_ble_eq_true rfl) dX3_leastCost_61 ⟨Nat.le_of_ble_eq_true rfl, Nat.le_of_ble_eq_true rfl⟩ (fun r_8 hr_8 => ?_)
                obtain rfl := hr_8
                refine lv_icmp_ne (tgt := 71) hx hb dX3_leastCost_64 (by decide) (fun c_9 => ?_) (fun c_9 => ?_)
                · refine lv_iconst (v := iI (0)) hx hb dX3_leastCost_71 (by decide +kernel) ?_
                  refine lv_istore (lv' := [(5, .int (iI 0)), (0, .ref o), (1, .ref r), (2, .int (iI ch)), (4, .int (iI f))]) hx hb dX3_leastCost_72 hl (by decide) rfl (fun ls hl => ?_)
                  refine lv_iconst (v := iI (0)) hx hb dX3_leastCost_74 (by decide +kernel) ?_
                  refine lv_istore (lv' := [(6, .int (iI 0)), (5, .int (iI 0)), (0, .ref o), (1, .ref r), (2, .int (iI ch)), (4, .int (iI f))]) hx hb dX3_leastCost_75 hl (by decide) rfl (fun ls hl => ?_)
                  have loop_77 : ∀ (n_77 : Nat) (al : Int) (x : Int) (b3 : Nat → Int) (hal : al = 0 ∨ al = 1) (hx0 : 0 ≤ x ∧ x ≤ 5) (hm_77 : 5 - x < (n_77 : Int)) (H : Heap) (locs : List Loc) (hP : va_P D vwCl [(o, .inr (2, [.ref q1, .ref q2, .ref q3, .ref q4, .ref q5, .ref q6, .int (iI cst), .int (iI F), .int (iI kn)])), (q1, aI gi 300 b3), (r, .inr (3, [.ref a, .int (iI t)])), (a, aI gi 60 g)] H) (hD : va_D A [(o, .inr (2, [.ref q1, .ref q2, .ref q3, .ref q4, .ref q5, .ref q6, .int (iI cst), .int (iI F), .int (iI kn)])), (q1, aI gi 300 b3), (r, .inr (3, [.ref a, .int (iI t)])), (a, aI gi 60 g)]) (hS : va_S A s.heap H locs) (ls : Array Slot) (hl : lv_has ls 8 [(0, .ref o), (1, .ref r), (2, .int (iI ch)), (4, .int (iI f)), (5, .int (iI al)), (6, .int (iI x))]), W p l e { frames := 2, cells := 0, slots := 0, locals := 52 } s m args below meth c H locs 0 0 Q (F0 m 77 ls []) := by
                    intro n_77
                    induction n_77 with
                    | zero => intro al x b3 hal hx0 hm_77 H locs hP hD hS ls hl; exact absurd hm_77 (by omega)
                    | succ n_77 ih_77 =>
                      intro al x b3 hal hx0 hm_77 H locs hP hD hS ls hl
                      refine lv_iload hx hb dX3_leastCost_77 (lv_at hl 5 rfl) ?_
                      refine lv_iconst (v := iI (5)) hx hb dX3_leastCost_79 (by decide +kernel) ?_
                      refine zt_icmp_ge (tgt := 139) hx hb dX3_leastCost_80 (by decide) (by omega) (fun c_10 => ?_) (fun c_10 => ?_)
                      · refine lv_iinc (v := iI (f + (-1))) (lv' := [(4, .int (iI (f + (-1)))), (0, .ref o), (1, .ref r), (2, .int (iI ch)), (5, .int (iI al)), (6, .int (iI x))]) hx hb dX3_leastCost_139 hl (k := 3) rfl (iI_add _ _) (by decide) rfl (fun ls hl => ?_)
                        refine lv_goto (tgt := 45) hx hb dX3_leastCost_142 (by decide) ?_
                        exact ih_45 (f + (-1)) b3 (by omega) (by omega) H locs hP hD hS ls (lv_sub hl [1, 2, 3, 0] rfl)
                      · refine lv_aload_n hx hb dX3_leastCost_83 rfl (lv_at hl 0 rfl) ?_
                        refine lv_iload hx hb dX3_leastCost_84 (lv_at hl 3 rfl) ?_
                        refine lv_iload hx hb dX3_leastCost_86 (lv_at hl 5 rfl) ?_
                        refine lv_iload hx hb dX3_leastCost_88 (lv_at hl 4 rfl) ?_
                        refine lv_iload_n hx hb dX3_leastCost_90 rfl (lv_at hl 2 rfl) ?_
                        refine zt_callV C (As := [.int (iI f), .int (iI x), .int (iI al), .int (iI ch)]) (rest := []) (c_X3_bestNext l D gi gc gr o q1 q2 q3 q4 q5 q6 cst F kn b3 f x al ch (by first | omega | assumption) (by first | omega | assumption) (by first | omega | assumption)) (cwV 4 hts gX3_leastCost_X3_bestNext rfl rfl rfl (by decide +kernel) ⟨Nat.le_of_ble_eq_true rfl, Nat.le_of_ble_eq_true rfl⟩) (zt_preV hK (hP.sub (ws' := [(o, .inr (2, [.ref q1, .ref q2, .ref q3, .ref q4, .ref q5, .ref q6, .int (iI cst), .int (iI F), .int (iI kn)])), (q1, aI gi 300 b3)]) [0, 1] rfl) [.int (iI f), .int (iI x), .int (iI al), .int (iI ch)] 0 rfl rfl) rfl hl.1 rfl (Nat.le_of_ble_eq_true rfl) dX3_leastCost_91 ⟨Nat.le_of_ble_eq_true rfl, Nat.le_of_ble_eq_true rfl⟩ (fun r_11 hr_11 => ?_)
                        obtain ⟨z_12, rfl, hz_12⟩ := hr_11
                        refine lv_istore (lv' := [(7, .int (iI z_12)), (0, .ref o), (1, .ref r), (2, .int (iI ch)), (4, .int (iI f)), (5, .int (iI al)), (6, .int (iI x))]) hx hb dX3_leastCost_94 hl (by decide) rfl (fun ls hl => ?_)
                        refine lv_aload_n hx hb dX3_leastCost_96 rfl (lv_at hl 1 rfl) ?_
                        refine va_get (D := D) (ci := 2) (v := .ref q1) (C := RX3) (T := TX3) (N := 9) hx hb hts i3 hown hK.1 hP 0 rfl rfl 0 (by decide) f11 (fun _ h9 => h9) rfl dX3_leastCost_97 ?_
                        refine lv_iload hx hb dX3_leastCost_100 (lv_at hl 4 rfl) ?_
                        refine lv_iconst (v := iI (5)) hx hb dX3_leastCost_102 (by decide +kernel) ?_
                        refine zt_imul hx hb dX3_leastCost_103 ?_
                        refine lv_iload hx hb dX3_leastCost_104 (lv_at hl 6 rfl) ?_
                        refine zt_iadd hx hb dX3_leastCost_106 ?_
                        refine lv_iload hx hb dX3_leastCost_107 (lv_at hl 6 rfl) ?_
                        refine lv_iload hx hb dX3_leastCost_109 (lv_at hl 0 rfl) ?_
                        refine lv_iload hx hb dX3_leastCost_111 (lv_at hl 5 rfl) ?_
                        refine lv_iload_n hx hb dX3_leastCost_113 rfl (lv_at hl 3 rfl) ?_
                        refine zt_callS C (As := [.int (iI x), .int (iI z_12), .int (iI al), .int (iI ch)]) (rest := [.int (iI ((f * 5) + x)), .ref q1]) (c_X3_step l D gi gc gr x z_12 al ch (by first | omega | assumption) (by first | omega | assumption) (by first | omega | assumption)) (va_cwS 4 hts gX3_leastCost_X3_step rfl rfl rfl (by decide +kernel) ⟨Nat.le_of_ble_eq_true rfl, Nat.le_of_ble_eq_true rfl⟩) (zt_preS hK (hP.sub (ws' := []) [] rfl) [.int (iI x), .int (iI z_12), .int (iI al), .int (iI ch)]) rfl hl.1 rfl (Nat.le_of_ble_eq_true rfl) dX3_leastCost_114 ⟨Nat.le_of_ble_eq_true rfl, Nat.le_of_ble_eq_true rfl⟩ (fun r_13 hr_13 => ?_)
                        obtain ⟨z_14, rfl, hz_14⟩ := hr_13
                        refine lv_aload_n hx hb dX3_leastCost_117 rfl (lv_at hl 1 rfl) ?_
                        refine va_get (D := D) (ci := 2) (v := .ref q1) (C := RX3) (T := TX3) (N := 9) hx hb hts i3 hown hK.1 hP 0 rfl rfl 0 (by decide) f11 (fun _ h9 => h9) rfl dX3_leastCost_118 ?_
                        refine lv_iload hx hb dX3_leastCost_121 (lv_at hl 4 rfl) ?_
                        refine lv_iconst (v := iI (1)) hx hb dX3_leastCost_123 (by decide +kernel) ?_
                        refine zt_iadd hx hb dX3_leastCost_124 ?_
                        refine lv_iconst (v := iI (5)) hx hb dX3_leastCost_125 (by decide +kernel) ?_
                        refine zt_imul hx hb dX3_leastCost_126 ?_
                        refine lv_iload hx hb dX3_leastCost_127 (lv_at hl 0 rfl) ?_
                        refine zt_iadd hx hb dX3_leastCost_129 ?_
                        refine zt_iald hx hb hK.1 hP 1 0 rfl rfl (by omega) (by omega) dX3_leastCost_130 ?_
                        refine zt_iadd hx hb dX3_leastCost_131 ?_
                        refine zt_iast (g := b3) (x := z_14 + (b3 (((f + 1) * 5) + z_12).toNat)) hx hb hK.1 hP hD hS 1 0 rfl rfl (by omega) (by omega) dX3_leastCost_132 (fun H locs hP hD hS => ?_)
                        have hP : va_P D vwCl [(o, .inr (2, [.ref q1, .ref q2, .ref q3, .ref q4, .ref q5, .ref q6, .int (iI cst), .int (iI F), .int (iI kn)])), (q1, aI gi 300 (uP b3 ((f * 5) + x).toNat (z_14 + (b3 (((f + 1) * 5) + z_12).toNat)))), (r, .inr (3, [.ref a, .int (iI t)])), (a, aI gi 60 g)] H := hP
                        have hD : va_D A [(o, .inr (2, [.ref q1, .ref q2, .ref q3, .ref q4, .ref q5, .ref q6, .int (iI cst), .int (iI F), .int (iI kn)])), (q1, aI gi 300 (uP b3 ((f * 5) + x).toNat (z_14 + (b3 (((f + 1) * 5) + z_12).toNat)))), (r, .inr (3, [.ref a, .int (iI t)])), (a, aI gi 60 g)] := hD
                        refine lv_iinc (v := iI (x + 1)) (lv' := [(6, .int (iI (x + 1))), (7, .int (iI z_12)), (0, .ref o), (1, .ref r), (2, .int (iI ch)), (4, .int (iI f)), (5, .int (iI al))]) hx hb dX3_leastCost_133 hl (k := 6) rfl (iI_add _ _) (by decide) rfl (fun ls hl => ?_)
                        refine lv_goto (tgt := 77) hx hb dX3_leastCost_136 (by decide) ?_
                        exact ih_77 al (x + 1) (uP b3 ((f * 5) + x).toNat (z_14 + (b3 (((f + 1) * 5) + z_12).toNat))) (by omega) (by omega) (by omega) H locs hP hD hS ls (lv_sub hl [2, 3, 4, 5, 6, 0] rfl)
                  exact loop_77 ((5 - 0 : Int).toNat + 1) 0 0 b2 (by omega) (by omega) (by omega) H locs hP hD hS ls (lv_sub hl [2, 3, 4, 5, 1, 0] rfl)
                · refine lv_iconst (v := iI (1)) hx hb dX3_leastCost_67 (by decide +kernel) ?_
                  refine lv_goto (tgt := 72) hx hb dX3_leastCost_68 (by decide) ?_
                  refine lv_istore (lv' := [(5, .int (iI 1)), (0, .ref o), (1, .ref r), (2, .int (iI ch)), (4, .int (iI f))]) hx hb dX3_leastCost_72 hl (by decide) rfl (fun ls hl => ?_)
                  refine lv_iconst (v := iI (0)) hx hb dX3_leastCost_74 (by decide +kernel) ?_
                  refine lv_istore (lv' := [(6, .int (iI 0)), (5, .int (iI 1)), (0, .ref o), (1, .ref r), (2, .int (iI ch)), (4, .int (iI f))]) hx hb dX3_leastCost_75 hl (by decide) rfl (fun ls hl => ?_)
                  have loop_77 : ∀ (n_77 : Nat) (al : Int) (x : Int) (b3 : Nat → Int) (hal : al = 0 ∨ al = 1) (hx0 : 0 ≤ x ∧ x ≤ 5) (hm_77 : 5 - x < (n_77 : Int)) (H : Heap) (locs : List Loc) (hP : va_P D vwCl [(o, .inr (2, [.ref q1, .ref q2, .ref q3, .ref q4, .ref q5, .ref q6, .int (iI cst), .int (iI F), .int (iI kn)])), (q1, aI gi 300 b3), (r, .inr (3, [.ref a, .int (iI t)])), (a, aI gi 60 g)] H) (hD : va_D A [(o, .inr (2, [.ref q1, .ref q2, .ref q3, .ref q4, .ref q5, .ref q6, .int (iI cst), .int (iI F), .int (iI kn)])), (q1, aI gi 300 b3), (r, .inr (3, [.ref a, .int (iI t)])), (a, aI gi 60 g)]) (hS : va_S A s.heap H locs) (ls : Array Slot) (hl : lv_has ls 8 [(0, .ref o), (1, .ref r), (2, .int (iI ch)), (4, .int (iI f)), (5, .int (iI al)), (6, .int (iI x))]), W p l e { frames := 2, cells := 0, slots := 0, locals := 52 } s m args below meth c H locs 0 0 Q (F0 m 77 ls []) := by
                    intro n_77
                    induction n_77 with
                    | zero => intro al x b3 hal hx0 hm_77 H locs hP hD hS ls hl; exact absurd hm_77 (by omega)
                    | succ n_77 ih_77 =>
                      intro al x b3 hal hx0 hm_77 H locs hP hD hS ls hl
                      refine lv_iload hx hb dX3_leastCost_77 (lv_at hl 5 rfl) ?_
                      refine lv_iconst (v := iI (5)) hx hb dX3_leastCost_79 (by decide +kernel) ?_
                      refine zt_icmp_ge (tgt := 139) hx hb dX3_leastCost_80 (by decide) (by omega) (fun c_15 => ?_) (fun c_15 => ?_)
                      · refine lv_iinc (v := iI (f + (-1))) (lv' := [(4, .int (iI (f + (-1)))), (0, .ref o), (1, .ref r), (2, .int (iI ch)), (5, .int (iI al)), (6, .int (iI x))]) hx hb dX3_leastCost_139 hl (k := 3) rfl (iI_add _ _) (by decide) rfl (fun ls hl => ?_)
                        refine lv_goto (tgt := 45) hx hb dX3_leastCost_142 (by decide) ?_
                        exact ih_45 (f + (-1)) b3 (by omega) (by omega) H locs hP hD hS ls (lv_sub hl [1, 2, 3, 0] rfl)
                      · refine lv_aload_n hx hb dX3_leastCost_83 rfl (lv_at hl 0 rfl) ?_
                        refine lv_iload hx hb dX3_leastCost_84 (lv_at hl 3 rfl) ?_
                        refine lv_iload hx hb dX3_leastCost_86 (lv_at hl 5 rfl) ?_
                        refine lv_iload hx hb dX3_leastCost_88 (lv_at hl 4 rfl) ?_
                        refine lv_iload_n hx hb dX3_leastCost_90 rfl (lv_at hl 2 rfl) ?_
                        refine zt_callV C (As := [.int (iI f), .int (iI x), .int (iI al), .int (iI ch)]) (rest := []) (c_X3_bestNext l D gi gc gr o q1 q2 q3 q4 q5 q6 cst F kn b3 f x al ch (by first | omega | assumption) (by first | omega | assumption) (by first | omega | assumption)) (cwV 4 hts gX3_leastCost_X3_bestNext rfl rfl rfl (by decide +kernel) ⟨Nat.le_of_ble_eq_true rfl, Nat.le_of_ble_eq_true rfl⟩) (zt_preV hK (hP.sub (ws' := [(o, .inr (2, [.ref q1, .ref q2, .ref q3, .ref q4, .ref q5, .ref q6, .int (iI cst), .int (iI F), .int (iI kn)])), (q1, aI gi 300 b3)]) [0, 1] rfl) [.int (iI f), .int (iI x), .int (iI al), .int (iI ch)] 0 rfl rfl) rfl hl.1 rfl (Nat.le_of_ble_eq_true rfl) dX3_leastCost_91 ⟨Nat.le_of_ble_eq_true rfl, Nat.le_of_ble_eq_true rfl⟩ (fun r_16 hr_16 => ?_)
                        obtain ⟨z_17, rfl, hz_17⟩ := hr_16
                        refine lv_istore (lv' := [(7, .int (iI z_17)), (0, .ref o), (1, .ref r), (2, .int (iI ch)), (4, .int (iI f)), (5, .int (iI al)), (6, .int (iI x))]) hx hb dX3_leastCost_94 hl (by decide) rfl (fun ls hl => ?_)
                        refine lv_aload_n hx hb dX3_leastCost_96 rfl (lv_at hl 1 rfl) ?_
                        refine va_get (D := D) (ci := 2) (v := .ref q1) (C := RX3) (T := TX3) (N := 9) hx hb hts i3 hown hK.1 hP 0 rfl rfl 0 (by decide) f11 (fun _ h9 => h9) rfl dX3_leastCost_97 ?_
                        refine lv_iload hx hb dX3_leastCost_100 (lv_at hl 4 rfl) ?_
                        refine lv_iconst (v := iI (5)) hx hb dX3_leastCost_102 (by decide +kernel) ?_
                        refine zt_imul hx hb dX3_leastCost_103 ?_
                        refine lv_iload hx hb dX3_leastCost_104 (lv_at hl 6 rfl) ?_
                        refine zt_iadd hx hb dX3_leastCost_106 ?_
                        refine lv_iload hx hb dX3_leastCost_107 (lv_at hl 6 rfl) ?_
                        refine lv_iload hx hb dX3_leastCost_109 (lv_at hl 0 rfl) ?_
                        refine lv_iload hx hb dX3_leastCost_111 (lv_at hl 5 rfl) ?_
                        refine lv_iload_n hx hb dX3_leastCost_113 rfl (lv_at hl 3 rfl) ?_
                        refine zt_callS C (As := [.int (iI x), .int (iI z_17), .int (iI al), .int (iI ch)]) (rest := [.int (iI ((f * 5) + x)), .ref q1]) (c_X3_step l D gi gc gr x z_17 al ch (by first | omega | assumption) (by first | omega | assumption) (by first | omega | assumption)) (va_cwS 4 hts gX3_leastCost_X3_step rfl rfl rfl (by decide +kernel) ⟨Nat.le_of_ble_eq_true rfl, Nat.le_of_ble_eq_true rfl⟩) (zt_preS hK (hP.sub (ws' := []) [] rfl) [.int (iI x), .int (iI z_17), .int (iI al), .int (iI ch)]) rfl hl.1 rfl (Nat.le_of_ble_eq_true rfl) dX3_leastCost_114 ⟨Nat.le_of_ble_eq_true rfl, Nat.le_of_ble_eq_true rfl⟩ (fun r_18 hr_18 => ?_)
                        obtain ⟨z_19, rfl, hz_19⟩ := hr_18
                        refine lv_aload_n hx hb dX3_leastCost_117 rfl (lv_at hl 1 rfl) ?_
                        refine va_get (D := D) (ci := 2) (v := .ref q1) (C := RX3) (T := TX3) (N := 9) hx hb hts i3 hown hK.1 hP 0 rfl rfl 0 (by decide) f11 (fun _ h9 => h9) rfl dX3_leastCost_118 ?_
                        refine lv_iload hx hb dX3_leastCost_121 (lv_at hl 4 rfl) ?_
                        refine lv_iconst (v := iI (1)) hx hb dX3_leastCost_123 (by decide +kernel) ?_
                        refine zt_iadd hx hb dX3_leastCost_124 ?_
                        refine lv_iconst (v := iI (5)) hx hb dX3_leastCost_125 (by decide +kernel) ?_
                        refine zt_imul hx hb dX3_leastCost_126 ?_
                        refine lv_iload hx hb dX3_leastCost_127 (lv_at hl 0 rfl) ?_
                        refine zt_iadd hx hb dX3_leastCost_129 ?_
                        refine zt_iald hx hb hK.1 hP 1 0 rfl rfl (by omega) (by omega) dX3_leastCost_130 ?_
                        refine zt_iadd hx hb dX3_leastCost_131 ?_
                        refine zt_iast (g := b3) (x := z_19 + (b3 (((f + 1) * 5) + z_17).toNat)) hx hb hK.1 hP hD hS 1 0 rfl rfl (by omega) (by omega) dX3_leastCost_132 (fun H locs hP hD hS => ?_)
                        have hP : va_P D vwCl [(o, .inr (2, [.ref q1, .ref q2, .ref q3, .ref q4, .ref q5, .ref q6, .int (iI cst), .int (iI F), .int (iI kn)])), (q1, aI gi 300 (uP b3 ((f * 5) + x).toNat (z_19 + (b3 (((f + 1) * 5) + z_17).toNat)))), (r, .inr (3, [.ref a, .int (iI t)])), (a, aI gi 60 g)] H := hP
                        have hD : va_D A [(o, .inr (2, [.ref q1, .ref q2, .ref q3, .ref q4, .ref q5, .ref q6, .int (iI cst), .int (iI F), .int (iI kn)])), (q1, aI gi 300 (uP b3 ((f * 5) + x).toNat (z_19 + (b3 (((f + 1) * 5) + z_17).toNat)))), (r, .inr (3, [.ref a, .int (iI t)])), (a, aI gi 60 g)] := hD
                        refine lv_iinc (v := iI (x + 1)) (lv' := [(6, .int (iI (x + 1))), (7, .int (iI z_17)), (0, .ref o), (1, .ref r), (2, .int (iI ch)), (4, .int (iI f)), (5, .int (iI al))]) hx hb dX3_leastCost_133 hl (k := 6) rfl (iI_add _ _) (by decide) rfl (fun ls hl => ?_)
                        refine lv_goto (tgt := 77) hx hb dX3_leastCost_136 (by decide) ?_
                        exact ih_77 al (x + 1) (uP b3 ((f * 5) + x).toNat (z_19 + (b3 (((f + 1) * 5) + z_17).toNat))) (by omega) (by omega) (by omega) H locs hP hD hS ls (lv_sub hl [2, 3, 4, 5, 6, 0] rfl)
                  exact loop_77 ((5 - 0 : Int).toNat + 1) 1 0 b2 (by omega) (by omega) (by omega) H locs hP hD hS ls (lv_sub hl [2, 3, 4, 5, 1, 0] rfl)
          exact loop_45 ((((t - 1) - 1) + 1 : Int).toNat + 1) ((t - 1) - 1) b1 (by omega) (by omega) H locs hP hD hS ls (lv_sub hl [1, 2, 3, 0] rfl)
        · refine lv_aload_n hx hb dX3_leastCost_22 rfl (lv_at hl 0 rfl) ?_
          refine va_get (D := D) (ci := 2) (v := .ref q1) (C := RX3) (T := TX3) (N := 9) hx hb hts i3 hown hK.1 hP 0 rfl rfl 0 (by decide) f11 (fun _ h9 => h9) rfl dX3_leastCost_23 ?_
          refine lv_iload_n hx hb dX3_leastCost_26 rfl (lv_at hl 3 rfl) ?_
          refine lv_iconst (v := iI (5)) hx hb dX3_leastCost_27 (by decide +kernel) ?_
          refine zt_imul hx hb dX3_leastCost_28 ?_
          refine lv_iload hx hb dX3_leastCost_29 (lv_at hl 4 rfl) ?_
          refine zt_iadd hx hb dX3_leastCost_31 ?_
          refine lv_iconst (v := iI (0)) hx hb dX3_leastCost_32 (by decide +kernel) ?_
          refine zt_iast (g := b1) (x := 0) hx hb hK.1 hP hD hS 1 0 rfl rfl (by omega) (by omega) dX3_leastCost_33 (fun H locs hP hD hS => ?_)
          have hP : va_P D vwCl [(o, .inr (2, [.ref q1, .ref q2, .ref q3, .ref q4, .ref q5, .ref q6, .int (iI cst), .int (iI F), .int (iI kn)])), (q1, aI gi 300 (uP b1 (((t - 1) * 5) + x).toNat 0)), (r, .inr (3, [.ref a, .int (iI t)])), (a, aI gi 60 g)] H := hP
          have hD : va_D A [(o, .inr (2, [.ref q1, .ref q2, .ref q3, .ref q4, .ref q5, .ref q6, .int (iI cst), .int (iI F), .int (iI kn)])), (q1, aI gi 300 (uP b1 (((t - 1) * 5) + x).toNat 0)), (r, .inr (3, [.ref a, .int (iI t)])), (a, aI gi 60 g)] := hD
          refine lv_iinc (v := iI (x + 1)) (lv' := [(4, .int (iI (x + 1))), (0, .ref o), (1, .ref r), (2, .int (iI ch)), (3, .int (iI (t - 1)))]) hx hb dX3_leastCost_34 hl (k := 4) rfl (iI_add _ _) (by decide) rfl (fun ls hl => ?_)
          refine lv_goto (tgt := 16) hx hb dX3_leastCost_37 (by decide) ?_
          exact ih_16 (x + 1) (uP b1 (((t - 1) * 5) + x).toNat 0) (by omega) (by omega) H locs hP hD hS ls (lv_sub hl [1, 2, 3, 4, 0] rfl)
    exact loop_16 ((5 - 0 : Int).toNat + 1) 0 bh (by omega) (by omega) s.heap [] hP hD hS ls (lv_sub hl [2, 3, 4, 1, 0] rfl)
  · refine lv_iconst (v := iI (0)) hx hb dX3_leastCost_11 (by decide +kernel) ?_
    exact hQ bh _ _ _ _ _ (⟨_, rfl⟩) hP hD hS dX3_leastCost_12
set_option maxHeartbeats 16000000 in
set_option maxRecDepth 100000 in
theorem c_X3_tracePath (l : Launch) (D : va_G) (gi gc gr : ClassId) (sz : Nat) (o : Nat) (q1 : Nat) (q2 : Nat) (q3 : Nat) (q4 : Nat) (q5 : Nat) (q6 : Nat) (cst : Int) (F : Int) (kn : Int) (bh : Nat → Int) (pl : Nat → Int) (r : Nat) (a : Nat) (t : Int) (g : Nat → Int) (ch : Int) (ht : 0 ≤ t ∧ t ≤ 60) : Met l yX3_tracePath wsX3_tracePath { frames := 2, cells := 0, slots := 0, locals := 52 } (zPw D gi gc gr [(o, .inr (2, [.ref q1, .ref q2, .ref q3, .ref q4, .ref q5, .ref q6, .int (iI cst), .int (iI F), .int (iI kn)])), (q1, aI gi 300 bh), (q2, aI gi 60 pl), (r, .inr (3, [.ref a, .int (iI t)])), (a, aI gi 60 g)] sz [.ref o, .ref r, .int (iI ch)]) (va_Qv (S := Nat → Int) (fun u => ∀ k : Nat, (k : Int) < t → 0 ≤ u k ∧ u k < 5) (zB D (va_A [(o, .inr (2, [.ref q1, .ref q2, .ref q3, .ref q4, .ref q5, .ref q6, .int (iI cst), .int (iI F), .int (iI kn)])), (q1, aI gi 300 bh), (q2, aI gi 60 pl), (r, .inr (3, [.ref a, .int (iI t)])), (a, aI gi 60 g)] sz) (fun u => [(o, .inr (2, [.ref q1, .ref q2, .ref q3, .ref q4, .ref q5, .ref q6, .int (iI cst), .int (iI F), .int (iI kn)])), (q1, aI gi 300 bh), (q2, aI gi 60 u), (r, .inr (3, [.ref a, .int (iI t)])), (a, aI gi 60 g)])) (va_A [(o, .inr (2, [.ref q1, .ref q2, .ref q3, .ref q4, .ref q5, .ref q6, .int (iI cst), .int (iI F), .int (iI kn)])), (q1, aI gi 300 bh), (q2, aI gi 60 pl), (r, .inr (3, [.ref a, .int (iI t)])), (a, aI gi 60 g)] sz)) 0 0 (va_A [(o, .inr (2, [.ref q1, .ref q2, .ref q3, .ref q4, .ref q5, .ref q6, .int (iI cst), .int (iI F), .int (iI kn)])), (q1, aI gi 300 bh), (q2, aI gi 60 pl), (r, .inr (3, [.ref a, .int (iI t)])), (a, aI gi 60 g)] sz) := by
  refine zt_metWv (own := RX3) (cc := cX3_tracePath) (maxL := 5) (by decide) rfl rfl (Nat.le_of_ble_eq_true rfl) ?_
  intro p e s m args below meth c Q A C hK hP hD hS hA _ hQ ls hl
  have hx := C.1
  have hb := C.2.1
  have hml := C.2.2.1
  have hown := C.2.2.2.1
  have hts := C.2.2.2.2
  have i3 : ∀ w ∈ u_ws RX3 TX3 9, w ∈ wsX3_tracePath := by decide +kernel
  have f15 := hts (.fieldLink RX3 15 "Threetwo$Rhythm" "places" "[I") (by decide +kernel)
  have hl : lv_has ls 5 [(0, .ref o), (1, .ref r), (2, .int (iI ch))] := hl
  refine lv_iconst (v := iI (0)) hx hb dX3_tracePath_0 (by decide +kernel) ?_
  refine lv_istore_n (lv' := [(3, .int (iI 0)), (0, .ref o), (1, .ref r), (2, .int (iI ch))]) hx hb dX3_tracePath_1 rfl hl (by decide) rfl (fun ls hl => ?_)
  have loop_2 : ∀ (n_2 : Nat) (j : Int) (p1 : Nat → Int) (hj : 0 ≤ j ∧ j ≤ t) (hpl : ∀ k : Nat, (k : Int) < j → 0 ≤ p1 k ∧ p1 k < 5) (hm_2 : t - j < (n_2 : Int)) (H : Heap) (locs : List Loc) (hP : va_P D vwCl [(o, .inr (2, [.ref q1, .ref q2, .ref q3, .ref q4, .ref q5, .ref q6, .int (iI cst), .int (iI F), .int (iI kn)])), (q1, aI gi 300 bh), (q2, aI gi 60 p1), (r, .inr (3, [.ref a, .int (iI t)])), (a, aI gi 60 g)] H) (hD : va_D A [(o, .inr (2, [.ref q1, .ref q2, .ref q3, .ref q4, .ref q5, .ref q6, .int (iI cst), .int (iI F), .int (iI kn)])), (q1, aI gi 300 bh), (q2, aI gi 60 p1), (r, .inr (3, [.ref a, .int (iI t)])), (a, aI gi 60 g)]) (hS : va_S A s.heap H locs) (ls : Array Slot) (hl : lv_has ls 5 [(0, .ref o), (1, .ref r), (2, .int (iI ch)), (3, .int (iI j))]), W p l e { frames := 2, cells := 0, slots := 0, locals := 52 } s m args below meth c H locs 0 0 Q (F0 m 2 ls []) := by
    intro n_2
    induction n_2 with
    | zero => intro j p1 hj hpl hm_2 H locs hP hD hS ls hl; exact absurd hm_2 (by omega)
    | succ n_2 ih_2 =>
      intro j p1 hj hpl hm_2 H locs hP hD hS ls hl
      refine lv_iload_n hx hb dX3_tracePath_2 rfl (lv_at hl 3 rfl) ?_
      refine lv_aload_n hx hb dX3_tracePath_3 rfl (lv_at hl 1 rfl) ?_
      refine zt_callV C (As := []) (rest := [.int (iI j)]) (c_X4_many l D gi gc gr r a t) (cwV 0 hts gX3_tracePath_X4_many rfl rfl rfl (by decide +kernel) ⟨Nat.le_of_ble_eq_true rfl, Nat.le_of_ble_eq_true rfl⟩) (zt_preV hK (hP.sub (ws' := [(r, .inr (3, [.ref a, .int (iI t)]))]) [3] rfl) [] 0 rfl rfl) rfl hl.1 rfl (Nat.le_of_ble_eq_true rfl) dX3_tracePath_4 ⟨Nat.le_of_ble_eq_true rfl, Nat.le_of_ble_eq_true rfl⟩ (fun r_1 hr_1 => ?_)
      obtain rfl := hr_1
      refine zt_icmp_ge (tgt := 79) hx hb dX3_tracePath_7 (by decide) (by omega) (fun c_2 => ?_) (fun c_2 => ?_)
      · exact hQ p1 _ _ _ _ (by intro k hk; exact hpl k (by omega)) hP hD hS dX3_tracePath_79
      · refine lv_iload_n hx hb dX3_tracePath_10 rfl (lv_at hl 3 rfl) ?_
        refine zt_if_ne (tgt := 27) hx hb dX3_tracePath_11 (by decide) (by omega) (fun c_3 => ?_) (fun c_3 => ?_)
        · refine lv_aload_n hx hb dX3_tracePath_27 rfl (lv_at hl 1 rfl) ?_
          refine lv_iload_n hx hb dX3_tracePath_28 rfl (lv_at hl 3 rfl) ?_
          refine lv_iconst (v := iI (1)) hx hb dX3_tracePath_29 (by decide +kernel) ?_
          refine zt_isub hx hb dX3_tracePath_30 ?_
          refine zt_callV C (As := [.int (iI (j - 1))]) (rest := []) (c_X4_at l D gi gc gr r a 60 t g (j - 1) (by first | omega | assumption) (by first | omega | assumption) (by first | omega | assumption)) (cwV 1 hts gX3_tracePath_X4_at rfl rfl rfl (by decide +kernel) ⟨Nat.le_of_ble_eq_true rfl, Nat.le_of_ble_eq_true rfl⟩) (zt_preV hK (hP.sub (ws' := [(r, .inr (3, [.ref a, .int (iI t)])), (a, aI gi 60 g)]) [3, 4] rfl) [.int (iI (j - 1))] 0 rfl rfl) rfl hl.1 rfl (Nat.le_of_ble_eq_true rfl) dX3_tracePath_31 ⟨Nat.le_of_ble_eq_true rfl, Nat.le_of_ble_eq_true rfl⟩ (fun r_4 hr_4 => ?_)
          obtain rfl := hr_4
          refine lv_aload_n hx hb dX3_tracePath_34 rfl (lv_at hl 1 rfl) ?_
          refine lv_iload_n hx hb dX3_tracePath_35 rfl (lv_at hl 3 rfl) ?_
          refine zt_callV C (As := [.int (iI j)]) (rest := [.int (iI (g (j - 1).toNat))]) (c_X4_at l D gi gc gr r a 60 t g j (by first | omega | assumption) (by first | omega | assumption) (by first | omega | assumption)) (cwV 1 hts gX3_tracePath_X4_at rfl rfl rfl (by decide +kernel) ⟨Nat.le_of_ble_eq_true rfl, Nat.le_of_ble_eq_true rfl⟩) (zt_preV hK (hP.sub (ws' := [(r, .inr (3, [.ref a, .int (iI t)])), (a, aI gi 60 g)]) [3, 4] rfl) [.int (iI j)] 0 rfl rfl) rfl hl.1 rfl (Nat.le_of_ble_eq_true rfl) dX3_tracePath_36 ⟨Nat.le_of_ble_eq_true rfl, Nat.le_of_ble_eq_true rfl⟩ (fun r_5 hr_5 => ?_)
          obtain rfl := hr_5
          refine lv_icmp_ne (tgt := 46) hx hb dX3_tracePath_39 (by decide) (fun c_6 => ?_) (fun c_6 => ?_)
          · refine lv_iconst (v := iI (0)) hx hb dX3_tracePath_46 (by decide +kernel) ?_
            refine lv_istore (lv' := [(4, .int (iI 0)), (0, .ref o), (1, .ref r), (2, .int (iI ch)), (3, .int (iI j))]) hx hb dX3_tracePath_47 hl (by decide) rfl (fun ls hl => ?_)
            refine lv_aload_n hx hb dX3_tracePath_49 rfl (lv_at hl 1 rfl) ?_
            refine va_get (D := D) (ci := 2) (v := .ref q2) (C := RX3) (T := TX3) (N := 9) hx hb hts i3 hown hK.1 hP 0 rfl rfl 1 (by decide) f15 (fun _ h9 => h9) rfl dX3_tracePath_50 ?_
            refine lv_iload_n hx hb dX3_tracePath_53 rfl (lv_at hl 4 rfl) ?_
            refine lv_aload_n hx hb dX3_tracePath_54 rfl (lv_at hl 1 rfl) ?_
            refine lv_iload_n hx hb dX3_tracePath_55 rfl (lv_at hl 4 rfl) ?_
            refine lv_iconst (v := iI (1)) hx hb dX3_tracePath_56 (by decide +kernel) ?_
            refine zt_isub hx hb dX3_tracePath_57 ?_
            have hpj := hpl (j - 1).toNat (by omega)
            refine lv_aload_n hx hb dX3_tracePath_58 rfl (lv_at hl 1 rfl) ?_
            refine va_get (D := D) (ci := 2) (v := .ref q2) (C := RX3) (T := TX3) (N := 9) hx hb hts i3 hown hK.1 hP 0 rfl rfl 1 (by decide) f15 (fun _ h9 => h9) rfl dX3_tracePath_59 ?_
            refine lv_iload_n hx hb dX3_tracePath_62 rfl (lv_at hl 4 rfl) ?_
            refine lv_iconst (v := iI (1)) hx hb dX3_tracePath_63 (by decide +kernel) ?_
            refine zt_isub hx hb dX3_tracePath_64 ?_
            refine zt_iald hx hb hK.1 hP 2 0 rfl rfl (by omega) (by omega) dX3_tracePath_65 ?_
            refine lv_iload hx hb dX3_tracePath_66 (lv_at hl 0 rfl) ?_
            refine lv_iload_n hx hb dX3_tracePath_68 rfl (lv_at hl 3 rfl) ?_
            refine zt_callV C (As := [.int (iI (j - 1)), .int (iI (p1 (j - 1).toNat)), .int (iI 0), .int (iI ch)]) (rest := [.int (iI j), .ref q2]) (c_X3_bestNext l D gi gc gr o q1 q2 q3 q4 q5 q6 cst F kn bh (j - 1) (p1 (j - 1).toNat) 0 ch (by first | omega | assumption) (by first | omega | assumption) (by first | omega | assumption)) (cwV 4 hts gX3_tracePath_X3_bestNext rfl rfl rfl (by decide +kernel) ⟨Nat.le_of_ble_eq_true rfl, Nat.le_of_ble_eq_true rfl⟩) (zt_preV hK (hP.sub (ws' := [(o, .inr (2, [.ref q1, .ref q2, .ref q3, .ref q4, .ref q5, .ref q6, .int (iI cst), .int (iI F), .int (iI kn)])), (q1, aI gi 300 bh)]) [0, 1] rfl) [.int (iI (j - 1)), .int (iI (p1 (j - 1).toNat)), .int (iI 0), .int (iI ch)] 0 rfl rfl) rfl hl.1 rfl (Nat.le_of_ble_eq_true rfl) dX3_tracePath_69 ⟨Nat.le_of_ble_eq_true rfl, Nat.le_of_ble_eq_true rfl⟩ (fun r_7 hr_7 => ?_)
            obtain ⟨z_8, rfl, hz_8⟩ := hr_7
            refine zt_iast (g := p1) (x := z_8) hx hb hK.1 hP hD hS 2 0 rfl rfl (by omega) (by omega) dX3_tracePath_72 (fun H locs hP hD hS => ?_)
            have hP : va_P D vwCl [(o, .inr (2, [.ref q1, .ref q2, .ref q3, .ref q4, .ref q5, .ref q6, .int (iI cst), .int (iI F), .int (iI kn)])), (q1, aI gi 300 bh), (q2, aI gi 60 (uP p1 j.toNat z_8)), (r, .inr (3, [.ref a, .int (iI t)])), (a, aI gi 60 g)] H := hP
            have hD : va_D A [(o, .inr (2, [.ref q1, .ref q2, .ref q3, .ref q4, .ref q5, .ref q6, .int (iI cst), .int (iI F), .int (iI kn)])), (q1, aI gi 300 bh), (q2, aI gi 60 (uP p1 j.toNat z_8)), (r, .inr (3, [.ref a, .int (iI t)])), (a, aI gi 60 g)] := hD
            refine lv_iinc (v := iI (j + 1)) (lv' := [(3, .int (iI (j + 1))), (4, .int (iI 0)), (0, .ref o), (1, .ref r), (2, .int (iI ch))]) hx hb dX3_tracePath_73 hl (k := 4) rfl (iI_add _ _) (by decide) rfl (fun ls hl => ?_)
            refine lv_goto (tgt := 2) hx hb dX3_tracePath_76 (by decide) ?_
            exact ih_2 (j + 1) (uP p1 j.toNat z_8) (by omega) (uP_all hj.1 hpl (by omega)) (by omega) H locs hP hD hS ls (lv_sub hl [2, 3, 4, 0] rfl)
          · refine lv_iconst (v := iI (1)) hx hb dX3_tracePath_42 (by decide +kernel) ?_
            refine lv_goto (tgt := 47) hx hb dX3_tracePath_43 (by decide) ?_
            refine lv_istore (lv' := [(4, .int (iI 1)), (0, .ref o), (1, .ref r), (2, .int (iI ch)), (3, .int (iI j))]) hx hb dX3_tracePath_47 hl (by decide) rfl (fun ls hl => ?_)
            refine lv_aload_n hx hb dX3_tracePath_49 rfl (lv_at hl 1 rfl) ?_
            refine va_get (D := D) (ci := 2) (v := .ref q2) (C := RX3) (T := TX3) (N := 9) hx hb hts i3 hown hK.1 hP 0 rfl rfl 1 (by decide) f15 (fun _ h9 => h9) rfl dX3_tracePath_50 ?_
            refine lv_iload_n hx hb dX3_tracePath_53 rfl (lv_at hl 4 rfl) ?_
            refine lv_aload_n hx hb dX3_tracePath_54 rfl (lv_at hl 1 rfl) ?_
            refine lv_iload_n hx hb dX3_tracePath_55 rfl (lv_at hl 4 rfl) ?_
            refine lv_iconst (v := iI (1)) hx hb dX3_tracePath_56 (by decide +kernel) ?_
            refine zt_isub hx hb dX3_tracePath_57 ?_
            have hpj := hpl (j - 1).toNat (by omega)
            refine lv_aload_n hx hb dX3_tracePath_58 rfl (lv_at hl 1 rfl) ?_
            refine va_get (D := D) (ci := 2) (v := .ref q2) (C := RX3) (T := TX3) (N := 9) hx hb hts i3 hown hK.1 hP 0 rfl rfl 1 (by decide) f15 (fun _ h9 => h9) rfl dX3_tracePath_59 ?_
            refine lv_iload_n hx hb dX3_tracePath_62 rfl (lv_at hl 4 rfl) ?_
            refine lv_iconst (v := iI (1)) hx hb dX3_tracePath_63 (by decide +kernel) ?_
            refine zt_isub hx hb dX3_tracePath_64 ?_
            refine zt_iald hx hb hK.1 hP 2 0 rfl rfl (by omega) (by omega) dX3_tracePath_65 ?_
            refine lv_iload hx hb dX3_tracePath_66 (lv_at hl 0 rfl) ?_
            refine lv_iload_n hx hb dX3_tracePath_68 rfl (lv_at hl 3 rfl) ?_
            refine zt_callV C (As := [.int (iI (j - 1)), .int (iI (p1 (j - 1).toNat)), .int (iI 1), .int (iI ch)]) (rest := [.int (iI j), .ref q2]) (c_X3_bestNext l D gi gc gr o q1 q2 q3 q4 q5 q6 cst F kn bh (j - 1) (p1 (j - 1).toNat) 1 ch (by first | omega | assumption) (by first | omega | assumption) (by first | omega | assumption)) (cwV 4 hts gX3_tracePath_X3_bestNext rfl rfl rfl (by decide +kernel) ⟨Nat.le_of_ble_eq_true rfl, Nat.le_of_ble_eq_true rfl⟩) (zt_preV hK (hP.sub (ws' := [(o, .inr (2, [.ref q1, .ref q2, .ref q3, .ref q4, .ref q5, .ref q6, .int (iI cst), .int (iI F), .int (iI kn)])), (q1, aI gi 300 bh)]) [0, 1] rfl) [.int (iI (j - 1)), .int (iI (p1 (j - 1).toNat)), .int (iI 1), .int (iI ch)] 0 rfl rfl) rfl hl.1 rfl (Nat.le_of_ble_eq_true rfl) dX3_tracePath_69 ⟨Nat.le_of_ble_eq_true rfl, Nat.le_of_ble_eq_true rfl⟩ (fun r_9 hr_9 => ?_)
            obtain ⟨z_10, rfl, hz_10⟩ := hr_9
            refine zt_iast (g := p1) (x := z_10) hx hb hK.1 hP hD hS 2 0 rfl rfl (by omega) (by omega) dX3_tracePath_72 (fun H locs hP hD hS => ?_)
            have hP : va_P D vwCl [(o, .inr (2, [.ref q1, .ref q2, .ref q3, .ref q4, .ref q5, .ref q6, .int (iI cst), .int (iI F), .int (iI kn)])), (q1, aI gi 300 bh), (q2, aI gi 60 (uP p1 j.toNat z_10)), (r, .inr (3, [.ref a, .int (iI t)])), (a, aI gi 60 g)] H := hP
            have hD : va_D A [(o, .inr (2, [.ref q1, .ref q2, .ref q3, .ref q4, .ref q5, .ref q6, .int (iI cst), .int (iI F), .int (iI kn)])), (q1, aI gi 300 bh), (q2, aI gi 60 (uP p1 j.toNat z_10)), (r, .inr (3, [.ref a, .int (iI t)])), (a, aI gi 60 g)] := hD
            refine lv_iinc (v := iI (j + 1)) (lv' := [(3, .int (iI (j + 1))), (4, .int (iI 1)), (0, .ref o), (1, .ref r), (2, .int (iI ch))]) hx hb dX3_tracePath_73 hl (k := 4) rfl (iI_add _ _) (by decide) rfl (fun ls hl => ?_)
            refine lv_goto (tgt := 2) hx hb dX3_tracePath_76 (by decide) ?_
            exact ih_2 (j + 1) (uP p1 j.toNat z_10) (by omega) (uP_all hj.1 hpl (by omega)) (by omega) H locs hP hD hS ls (lv_sub hl [2, 3, 4, 0] rfl)
        · refine lv_aload_n hx hb dX3_tracePath_14 rfl (lv_at hl 0 rfl) ?_
          refine va_get (D := D) (ci := 2) (v := .ref q2) (C := RX3) (T := TX3) (N := 9) hx hb hts i3 hown hK.1 hP 0 rfl rfl 1 (by decide) f15 (fun _ h9 => h9) rfl dX3_tracePath_15 ?_
          refine lv_iload_n hx hb dX3_tracePath_18 rfl (lv_at hl 3 rfl) ?_
          refine lv_aload_n hx hb dX3_tracePath_19 rfl (lv_at hl 0 rfl) ?_
          refine zt_callV C (As := []) (rest := [.int (iI j), .ref q2]) (c_X3_bestFirst l D gi gc gr o q1 q2 q3 q4 q5 q6 cst F kn bh) (cwV 0 hts gX3_tracePath_X3_bestFirst rfl rfl rfl (by decide +kernel) ⟨Nat.le_of_ble_eq_true rfl, Nat.le_of_ble_eq_true rfl⟩) (zt_preV hK (hP.sub (ws' := [(o, .inr (2, [.ref q1, .ref q2, .ref q3, .ref q4, .ref q5, .ref q6, .int (iI cst), .int (iI F), .int (iI kn)])), (q1, aI gi 300 bh)]) [0, 1] rfl) [] 0 rfl rfl) rfl hl.1 rfl (Nat.le_of_ble_eq_true rfl) dX3_tracePath_20 ⟨Nat.le_of_ble_eq_true rfl, Nat.le_of_ble_eq_true rfl⟩ (fun r_11 hr_11 => ?_)
          obtain ⟨z_12, rfl, hz_12⟩ := hr_11
          refine zt_iast (g := p1) (x := z_12) hx hb hK.1 hP hD hS 2 0 rfl rfl (by omega) (by omega) dX3_tracePath_23 (fun H locs hP hD hS => ?_)
          have hP : va_P D vwCl [(o, .inr (2, [.ref q1, .ref q2, .ref q3, .ref q4, .ref q5, .ref q6, .int (iI cst), .int (iI F), .int (iI kn)])), (q1, aI gi 300 bh), (q2, aI gi 60 (uP p1 j.toNat z_12)), (r, .inr (3, [.ref a, .int (iI t)])), (a, aI gi 60 g)] H := hP
          have hD : va_D A [(o, .inr (2, [.ref q1, .ref q2, .ref q3, .ref q4, .ref q5, .ref q6, .int (iI cst), .int (iI F), .int (iI kn)])), (q1, aI gi 300 bh), (q2, aI gi 60 (uP p1 j.toNat z_12)), (r, .inr (3, [.ref a, .int (iI t)])), (a, aI gi 60 g)] := hD
          refine lv_goto (tgt := 73) hx hb dX3_tracePath_24 (by decide) ?_
          refine lv_iinc (v := iI (j + 1)) (lv' := [(3, .int (iI (j + 1))), (0, .ref o), (1, .ref r), (2, .int (iI ch))]) hx hb dX3_tracePath_73 hl (k := 3) rfl (iI_add _ _) (by decide) rfl (fun ls hl => ?_)
          refine lv_goto (tgt := 2) hx hb dX3_tracePath_76 (by decide) ?_
          exact ih_2 (j + 1) (uP p1 j.toNat z_12) (by omega) (uP_all hj.1 hpl (by omega)) (by omega) H locs hP hD hS ls (lv_sub hl [1, 2, 3, 0] rfl)
  exact loop_2 ((t - 0 : Int).toNat + 1) 0 pl (by omega) (fun k hk => absurd hk (by omega)) (by omega) s.heap [] hP hD hS ls (lv_sub hl [1, 2, 3, 0] rfl)
set_option maxHeartbeats 4000000 in
set_option maxRecDepth 100000 in
theorem c_X3_beginsFrame (l : Launch) (D : va_G) (gi gc gr : ClassId) (o : Nat) (q1 : Nat) (q2 : Nat) (q3 : Nat) (q4 : Nat) (q5 : Nat) (q6 : Nat) (cst : Int) (F : Int) (kn : Int) (pl : Nat → Int) (f : Int) (hf : 0 ≤ f ∧ f < 60) (hp1 : 0 ≤ pl f.toNat ∧ pl f.toNat < 5) (hp2 : 0 < f → 0 ≤ pl (f - 1).toNat ∧ pl (f - 1).toNat < 5) : Met l yX3_beginsFrame wsX3_beginsFrame { frames := 0, cells := 0, slots := 0, locals := 0 } (zPr D gi gc gr [(o, .inr (2, [.ref q1, .ref q2, .ref q3, .ref q4, .ref q5, .ref q6, .int (iI cst), .int (iI F), .int (iI kn)])), (q2, aI gi 60 pl)] [.ref o, .int (iI f)]) (vp_Si (fun v => ∃ z : Int, v = iI z ∧ ((z = 0 ∧ 0 < f) ∨ z = 1))) 0 0 (fun _ => False) := by
  refine zt_metRz (own := RX3) (cc := cX3_beginsFrame) (maxL := 3) (by decide) rfl rfl (Nat.le_of_ble_eq_true rfl) ?_
  intro p e s m args below meth c Q C hK hP hQ ls hl
  have hx := C.1
  have hb := C.2.1
  have hml := C.2.2.1
  have hown := C.2.2.2.1
  have hts := C.2.2.2.2
  have i3 : ∀ w ∈ u_ws RX3 TX3 9, w ∈ wsX3_beginsFrame := by decide +kernel
  have f15 := hts (.fieldLink RX3 15 "Threetwo$Rhythm" "places" "[I") (by decide +kernel)
  have hl : lv_has ls 3 [(0, .ref o), (1, .int (iI f))] := hl
  refine lv_aload_n hx hb dX3_beginsFrame_0 rfl (lv_at hl 0 rfl) ?_
  refine va_get (D := D) (ci := 2) (v := .ref q2) (C := RX3) (T := TX3) (N := 9) hx hb hts i3 hown hK.1 hP 0 rfl rfl 1 (by decide) f15 (fun _ h9 => h9) rfl dX3_beginsFrame_1 ?_
  refine lv_iload_n hx hb dX3_beginsFrame_4 rfl (lv_at hl 1 rfl) ?_
  refine zt_iald hx hb hK.1 hP 1 0 rfl rfl (by omega) (by omega) dX3_beginsFrame_5 ?_
  refine lv_istore_n (lv' := [(2, .int (iI (pl f.toNat))), (0, .ref o), (1, .int (iI f))]) hx hb dX3_beginsFrame_6 rfl hl (by decide) rfl (fun ls hl => ?_)
  refine lv_iload_n hx hb dX3_beginsFrame_7 rfl (lv_at hl 2 rfl) ?_
  refine zt_if_eq (tgt := 36) hx hb dX3_beginsFrame_8 (by decide) (by omega) (fun c_1 => ?_) (fun c_1 => ?_)
  · refine lv_iconst (v := iI (1)) hx hb dX3_beginsFrame_36 (by decide +kernel) ?_
    refine lv_goto (tgt := 41) hx hb dX3_beginsFrame_37 (by decide) ?_
    exact hQ _ _ _ (by first | rfl | decide +kernel) (⟨_, rfl, by omega⟩) dX3_beginsFrame_41
  · refine lv_iload_n hx hb dX3_beginsFrame_11 rfl (lv_at hl 0 rfl) ?_
    refine zt_if_eq (tgt := 36) hx hb dX3_beginsFrame_12 (by decide) (by omega) (fun c_2 => ?_) (fun c_2 => ?_)
    · refine lv_iconst (v := iI (1)) hx hb dX3_beginsFrame_36 (by decide +kernel) ?_
      refine lv_goto (tgt := 41) hx hb dX3_beginsFrame_37 (by decide) ?_
      exact hQ _ _ _ (by first | rfl | decide +kernel) (⟨_, rfl, by omega⟩) dX3_beginsFrame_41
    · refine lv_iload_n hx hb dX3_beginsFrame_15 rfl (lv_at hl 0 rfl) ?_
      refine lv_iconst (v := iI (2)) hx hb dX3_beginsFrame_16 (by decide +kernel) ?_
      refine zt_icmp_eq (tgt := 36) hx hb dX3_beginsFrame_17 (by decide) (by omega) (fun c_3 => ?_) (fun c_3 => ?_)
      · refine lv_iconst (v := iI (1)) hx hb dX3_beginsFrame_36 (by decide +kernel) ?_
        refine lv_goto (tgt := 41) hx hb dX3_beginsFrame_37 (by decide) ?_
        exact hQ _ _ _ (by first | rfl | decide +kernel) (⟨_, rfl, by omega⟩) dX3_beginsFrame_41
      · refine lv_iload_n hx hb dX3_beginsFrame_20 rfl (lv_at hl 0 rfl) ?_
        refine lv_aload_n hx hb dX3_beginsFrame_21 rfl (lv_at hl 1 rfl) ?_
        refine va_get (D := D) (ci := 2) (v := .ref q2) (C := RX3) (T := TX3) (N := 9) hx hb hts i3 hown hK.1 hP 0 rfl rfl 1 (by decide) f15 (fun _ h9 => h9) rfl dX3_beginsFrame_22 ?_
        refine lv_iload_n hx hb dX3_beginsFrame_25 rfl (lv_at hl 2 rfl) ?_
        refine lv_iconst (v := iI (1)) hx hb dX3_beginsFrame_26 (by decide +kernel) ?_
        refine zt_isub hx hb dX3_beginsFrame_27 ?_
        refine zt_iald hx hb hK.1 hP 1 0 rfl rfl (by omega) (by omega) dX3_beginsFrame_28 ?_
        have hp3 := hp2 (by omega)
        refine lv_iconst (v := iI (1)) hx hb dX3_beginsFrame_29 (by decide +kernel) ?_
        refine zt_iadd hx hb dX3_beginsFrame_30 ?_
        refine lv_iconst (v := iI (5)) hx hb dX3_beginsFrame_31 (by decide +kernel) ?_
        refine zt_irem hx hb dX3_beginsFrame_32 (by omega) ?_
        refine zt_icmp_eq (tgt := 40) hx hb dX3_beginsFrame_33 (by decide) (by omega) (fun c_4 => ?_) (fun c_4 => ?_)
        · refine lv_iconst (v := iI (0)) hx hb dX3_beginsFrame_40 (by decide +kernel) ?_
          exact hQ _ _ _ (by first | rfl | decide +kernel) (⟨_, rfl, by omega⟩) dX3_beginsFrame_41
        · refine lv_iconst (v := iI (1)) hx hb dX3_beginsFrame_36 (by decide +kernel) ?_
          refine lv_goto (tgt := 41) hx hb dX3_beginsFrame_37 (by decide) ?_
          exact hQ _ _ _ (by first | rfl | decide +kernel) (⟨_, rfl, by omega⟩) dX3_beginsFrame_41
set_option maxHeartbeats 16000000 in
set_option maxRecDepth 100000 in
theorem c_X3_gatherFrames (l : Launch) (D : va_G) (gi gc gr : ClassId) (sz : Nat) (o : Nat) (q1 : Nat) (q2 : Nat) (q3 : Nat) (q4 : Nat) (q5 : Nat) (q6 : Nat) (cst : Int) (F : Int) (kn : Int) (pl : Nat → Int) (fo : Nat → Int) (fi : Nat → Int) (le : Nat → Int) (x : Int) (hx0 : 0 ≤ x ∧ x ≤ 60) (hpl : ∀ k : Nat, (k : Int) < x → 0 ≤ pl k ∧ pl k < 5) : Met l yX3_gatherFrames wsX3_gatherFrames { frames := 1, cells := 0, slots := 0, locals := 22 } (zPw D gi gc gr [(o, .inr (2, [.ref q1, .ref q2, .ref q3, .ref q4, .ref q5, .ref q6, .int (iI cst), .int (iI F), .int (iI kn)])), (q2, aI gi 60 pl), (q3, aI gi 60 fo), (q4, aI gi 60 fi), (q5, aI gi 60 le)] sz [.ref o, .int (iI x)]) (va_Qv (S := Int × (Nat → Int) × (Nat → Int) × (Nat → Int)) (fun u => Cov u.1 x u.2.2.1 u.2.2.2) (zB D (va_A [(o, .inr (2, [.ref q1, .ref q2, .ref q3, .ref q4, .ref q5, .ref q6, .int (iI cst), .int (iI F), .int (iI kn)])), (q2, aI gi 60 pl), (q3, aI gi 60 fo), (q4, aI gi 60 fi), (q5, aI gi 60 le)] sz) (fun u => [(o, .inr (2, [.ref q1, .ref q2, .ref q3, .ref q4, .ref q5, .ref q6, .int (iI cst), .int (iI u.1), .int (iI kn)])), (q2, aI gi 60 pl), (q3, aI gi 60 u.2.1), (q4, aI gi 60 u.2.2.1), (q5, aI gi 60 u.2.2.2)])) (va_A [(o, .inr (2, [.ref q1, .ref q2, .ref q3, .ref q4, .ref q5, .ref q6, .int (iI cst), .int (iI F), .int (iI kn)])), (q2, aI gi 60 pl), (q3, aI gi 60 fo), (q4, aI gi 60 fi), (q5, aI gi 60 le)] sz)) 0 0 (va_A [(o, .inr (2, [.ref q1, .ref q2, .ref q3, .ref q4, .ref q5, .ref q6, .int (iI cst), .int (iI F), .int (iI kn)])), (q2, aI gi 60 pl), (q3, aI gi 60 fo), (q4, aI gi 60 fi), (q5, aI gi 60 le)] sz) := by
  refine zt_metWv (own := RX3) (cc := cX3_gatherFrames) (maxL := 4) (by decide) rfl rfl (Nat.le_of_ble_eq_true rfl) ?_
  intro p e s m args below meth c Q A C hK hP hD hS hA _ hQ ls hl
  have hx := C.1
  have hb := C.2.1
  have hml := C.2.2.1
  have hown := C.2.2.2.1
  have hts := C.2.2.2.2
  have i3 : ∀ w ∈ u_ws RX3 TX3 9, w ∈ wsX3_gatherFrames := by decide +kernel
  have f18 := hts (.fieldLink RX3 18 "Threetwo$Rhythm" "frameOf" "[I") (by decide +kernel)
  have f21 := hts (.fieldLink RX3 21 "Threetwo$Rhythm" "firsts" "[I") (by decide +kernel)
  have f24 := hts (.fieldLink RX3 24 "Threetwo$Rhythm" "lengths" "[I") (by decide +kernel)
  have f34 := hts (.fieldLink RX3 34 "Threetwo$Rhythm" "frames" "I") (by decide +kernel)
  have hl : lv_has ls 4 [(0, .ref o), (1, .int (iI x))] := hl
  refine lv_aload_n hx hb dX3_gatherFrames_0 rfl (lv_at hl 0 rfl) ?_
  refine lv_iconst (v := iI (0)) hx hb dX3_gatherFrames_1 (by decide +kernel) ?_
  refine va_put (D := D) (ci := 2) (v := .int (iI 0)) (ty := .int) (C := RX3) (T := TX3) (N := 9) hx hb hts i3 tyX3 tyX3_ok nmX3 hown hK.1 hP hD hS 0 rfl rfl 7 (by decide) f34 (fun _ h9 => h9) rfl (by decide +kernel) rfl rfl (Nat.le_of_ble_eq_true rfl) dX3_gatherFrames_2 (fun H locs hP hD hS => ?_)
  have hP : va_P D vwCl [(o, .inr (2, [.ref q1, .ref q2, .ref q3, .ref q4, .ref q5, .ref q6, .int (iI cst), .int (iI 0), .int (iI kn)])), (q2, aI gi 60 pl), (q3, aI gi 60 fo), (q4, aI gi 60 fi), (q5, aI gi 60 le)] H := hP
  have hD : va_D A [(o, .inr (2, [.ref q1, .ref q2, .ref q3, .ref q4, .ref q5, .ref q6, .int (iI cst), .int (iI 0), .int (iI kn)])), (q2, aI gi 60 pl), (q3, aI gi 60 fo), (q4, aI gi 60 fi), (q5, aI gi 60 le)] := hD
  refine lv_iconst (v := iI (0)) hx hb dX3_gatherFrames_5 (by decide +kernel) ?_
  refine lv_istore_n (lv' := [(2, .int (iI 0)), (0, .ref o), (1, .int (iI x))]) hx hb dX3_gatherFrames_6 rfl hl (by decide) rfl (fun ls hl => ?_)
  refine lv_iconst (v := iI (0)) hx hb dX3_gatherFrames_7 (by decide +kernel) ?_
  refine lv_istore_n (lv' := [(3, .int (iI 0)), (2, .int (iI 0)), (0, .ref o), (1, .int (iI x))]) hx hb dX3_gatherFrames_8 rfl hl (by decide) rfl (fun ls hl => ?_)
  have loop_9 : ∀ (n_9 : Nat) (sta : Int) (j : Int) (F1 : Int) (o1 : Nat → Int) (i1 : Nat → Int) (l1 : Nat → Int) (hj : 0 ≤ j ∧ j ≤ x) (hcv : Cov F1 j i1 l1) (hst : 0 < F1 → sta = i1 (F1 - 1).toNat) (hm_9 : x - j < (n_9 : Int)) (H : Heap) (locs : List Loc) (hP : va_P D vwCl [(o, .inr (2, [.ref q1, .ref q2, .ref q3, .ref q4, .ref q5, .ref q6, .int (iI cst), .int (iI F1), .int (iI kn)])), (q2, aI gi 60 pl), (q3, aI gi 60 o1), (q4, aI gi 60 i1), (q5, aI gi 60 l1)] H) (hD : va_D A [(o, .inr (2, [.ref q1, .ref q2, .ref q3, .ref q4, .ref q5, .ref q6, .int (iI cst), .int (iI F1), .int (iI kn)])), (q2, aI gi 60 pl), (q3, aI gi 60 o1), (q4, aI gi 60 i1), (q5, aI gi 60 l1)]) (hS : va_S A s.heap H locs) (ls : Array Slot) (hl : lv_has ls 4 [(0, .ref o), (1, .int (iI x)), (2, .int (iI sta)), (3, .int (iI j))]), W p l e { frames := 1, cells := 0, slots := 0, locals := 22 } s m args below meth c H locs 0 0 Q (F0 m 9 ls []) := by
    intro n_9
    induction n_9 with
    | zero => intro sta j F1 o1 i1 l1 hj hcv hst hm_9 H locs hP hD hS ls hl; exact absurd hm_9 (by omega)
    | succ n_9 ih_9 =>
      intro sta j F1 o1 i1 l1 hj hcv hst hm_9 H locs hP hD hS ls hl
      refine lv_iload_n hx hb dX3_gatherFrames_9 rfl (lv_at hl 3 rfl) ?_
      refine lv_iload_n hx hb dX3_gatherFrames_10 rfl (lv_at hl 1 rfl) ?_
      refine zt_icmp_ge (tgt := 78) hx hb dX3_gatherFrames_11 (by decide) (by omega) (fun c_1 => ?_) (fun c_1 => ?_)
      · exact hQ (F1, o1, i1, l1) _ _ _ _ (by rw [show x = j by omega]; exact hcv) hP hD hS dX3_gatherFrames_78
      · refine lv_aload_n hx hb dX3_gatherFrames_14 rfl (lv_at hl 0 rfl) ?_
        refine lv_iload_n hx hb dX3_gatherFrames_15 rfl (lv_at hl 3 rfl) ?_
        have hp1 := hpl j.toNat (by omega)
        have hp2 : 0 < j → 0 ≤ pl (j - 1).toNat ∧ pl (j - 1).toNat < 5 := fun _ => hpl (j - 1).toNat (by omega)
        have hcv1 := hcv.1
        refine zt_callV C (As := [.int (iI j)]) (rest := []) (c_X3_beginsFrame l D gi gc gr o q1 q2 q3 q4 q5 q6 cst F1 kn pl j (by first | omega | assumption) (by first | omega | assumption) (by first | omega | assumption)) (cwV 1 hts gX3_gatherFrames_X3_beginsFrame rfl rfl rfl (by decide +kernel) ⟨Nat.le_of_ble_eq_true rfl, Nat.le_of_ble_eq_true rfl⟩) (zt_preV hK (hP.sub (ws' := [(o, .inr (2, [.ref q1, .ref q2, .ref q3, .ref q4, .ref q5, .ref q6, .int (iI cst), .int (iI F1), .int (iI kn)])), (q2, aI gi 60 pl)]) [0, 1] rfl) [.int (iI j)] 0 rfl rfl) rfl hl.1 rfl (Nat.le_of_ble_eq_true rfl) dX3_gatherFrames_16 ⟨Nat.le_of_ble_eq_true rfl, Nat.le_of_ble_eq_true rfl⟩ (fun r_2 hr_2 => ?_)
        obtain ⟨z_3, rfl, hz_3⟩ := hr_2
        refine zt_if_eq (tgt := 44) hx hb dX3_gatherFrames_19 (by decide) (by omega) (fun c_4 => ?_) (fun c_4 => ?_)
        · refine lv_aload_n hx hb dX3_gatherFrames_44 rfl (lv_at hl 0 rfl) ?_
          refine va_get (D := D) (ci := 2) (v := .ref q3) (C := RX3) (T := TX3) (N := 9) hx hb hts i3 hown hK.1 hP 0 rfl rfl 2 (by decide) f18 (fun _ h9 => h9) rfl dX3_gatherFrames_45 ?_
          refine lv_iload_n hx hb dX3_gatherFrames_48 rfl (lv_at hl 3 rfl) ?_
          refine lv_aload_n hx hb dX3_gatherFrames_49 rfl (lv_at hl 0 rfl) ?_
          refine va_get (D := D) (ci := 2) (v := .int (iI F1)) (C := RX3) (T := TX3) (N := 9) hx hb hts i3 hown hK.1 hP 0 rfl rfl 7 (by decide) f34 (fun _ h9 => h9) rfl dX3_gatherFrames_50 ?_
          refine lv_iconst (v := iI (1)) hx hb dX3_gatherFrames_53 (by decide +kernel) ?_
          refine zt_isub hx hb dX3_gatherFrames_54 ?_
          refine zt_iast (g := o1) (x := F1 - 1) hx hb hK.1 hP hD hS 2 0 rfl rfl (by omega) (by omega) dX3_gatherFrames_55 (fun H locs hP hD hS => ?_)
          have hP : va_P D vwCl [(o, .inr (2, [.ref q1, .ref q2, .ref q3, .ref q4, .ref q5, .ref q6, .int (iI cst), .int (iI F1), .int (iI kn)])), (q2, aI gi 60 pl), (q3, aI gi 60 (uP o1 j.toNat (F1 - 1))), (q4, aI gi 60 i1), (q5, aI gi 60 l1)] H := hP
          have hD : va_D A [(o, .inr (2, [.ref q1, .ref q2, .ref q3, .ref q4, .ref q5, .ref q6, .int (iI cst), .int (iI F1), .int (iI kn)])), (q2, aI gi 60 pl), (q3, aI gi 60 (uP o1 j.toNat (F1 - 1))), (q4, aI gi 60 i1), (q5, aI gi 60 l1)] := hD
          refine lv_aload_n hx hb dX3_gatherFrames_56 rfl (lv_at hl 0 rfl) ?_
          refine va_get (D := D) (ci := 2) (v := .ref q5) (C := RX3) (T := TX3) (N := 9) hx hb hts i3 hown hK.1 hP 0 rfl rfl 4 (by decide) f24 (fun _ h9 => h9) rfl dX3_gatherFrames_57 ?_
          refine lv_aload_n hx hb dX3_gatherFrames_60 rfl (lv_at hl 0 rfl) ?_
          refine va_get (D := D) (ci := 2) (v := .int (iI F1)) (C := RX3) (T := TX3) (N := 9) hx hb hts i3 hown hK.1 hP 0 rfl rfl 7 (by decide) f34 (fun _ h9 => h9) rfl dX3_gatherFrames_61 ?_
          refine lv_iconst (v := iI (1)) hx hb dX3_gatherFrames_64 (by decide +kernel) ?_
          refine zt_isub hx hb dX3_gatherFrames_65 ?_
          refine lv_iload_n hx hb dX3_gatherFrames_66 rfl (lv_at hl 3 rfl) ?_
          refine lv_iload_n hx hb dX3_gatherFrames_67 rfl (lv_at hl 2 rfl) ?_
          refine zt_isub hx hb dX3_gatherFrames_68 ?_
          refine lv_iconst (v := iI (1)) hx hb dX3_gatherFrames_69 (by decide +kernel) ?_
          refine zt_iadd hx hb dX3_gatherFrames_70 ?_
          refine zt_iast (g := l1) (x := (j - sta) + 1) hx hb hK.1 hP hD hS 4 0 rfl rfl (by omega) (by omega) dX3_gatherFrames_71 (fun H locs hP hD hS => ?_)
          have hP : va_P D vwCl [(o, .inr (2, [.ref q1, .ref q2, .ref q3, .ref q4, .ref q5, .ref q6, .int (iI cst), .int (iI F1), .int (iI kn)])), (q2, aI gi 60 pl), (q3, aI gi 60 (uP o1 j.toNat (F1 - 1))), (q4, aI gi 60 i1), (q5, aI gi 60 (uP l1 (F1 - 1).toNat ((j - sta) + 1)))] H := hP
          have hD : va_D A [(o, .inr (2, [.ref q1, .ref q2, .ref q3, .ref q4, .ref q5, .ref q6, .int (iI cst), .int (iI F1), .int (iI kn)])), (q2, aI gi 60 pl), (q3, aI gi 60 (uP o1 j.toNat (F1 - 1))), (q4, aI gi 60 i1), (q5, aI gi 60 (uP l1 (F1 - 1).toNat ((j - sta) + 1)))] := hD
          refine lv_iinc (v := iI (j + 1)) (lv' := [(3, .int (iI (j + 1))), (0, .ref o), (1, .int (iI x)), (2, .int (iI sta))]) hx hb dX3_gatherFrames_72 hl (k := 3) rfl (iI_add _ _) (by decide) rfl (fun ls hl => ?_)
          refine lv_goto (tgt := 9) hx hb dX3_gatherFrames_75 (by decide) ?_
          exact ih_9 sta (j + 1) F1 (uP o1 j.toNat (F1 - 1)) i1 (uP l1 (F1 - 1).toNat ((j - sta) + 1)) (by omega) (by first | exact Cov_new hcv hj.1 | exact Cov_more hcv (by omega) (hst (by omega))) (by first | (intro _; rw [show ((F1 + 1) - 1).toNat = F1.toNat by omega, uP_s]) | exact hst) (by omega) H locs hP hD hS ls (lv_sub hl [1, 2, 3, 0] rfl)
        · refine lv_iload_n hx hb dX3_gatherFrames_22 rfl (lv_at hl 3 rfl) ?_
          refine lv_istore_n (lv' := [(2, .int (iI j)), (0, .ref o), (1, .int (iI x)), (3, .int (iI j))]) hx hb dX3_gatherFrames_23 rfl hl (by decide) rfl (fun ls hl => ?_)
          refine lv_aload_n hx hb dX3_gatherFrames_24 rfl (lv_at hl 1 rfl) ?_
          refine va_get (D := D) (ci := 2) (v := .ref q4) (C := RX3) (T := TX3) (N := 9) hx hb hts i3 hown hK.1 hP 0 rfl rfl 3 (by decide) f21 (fun _ h9 => h9) rfl dX3_gatherFrames_25 ?_
          refine lv_aload_n hx hb dX3_gatherFrames_28 rfl (lv_at hl 1 rfl) ?_
          refine va_get (D := D) (ci := 2) (v := .int (iI F1)) (C := RX3) (T := TX3) (N := 9) hx hb hts i3 hown hK.1 hP 0 rfl rfl 7 (by decide) f34 (fun _ h9 => h9) rfl dX3_gatherFrames_29 ?_
          refine lv_iload_n hx hb dX3_gatherFrames_32 rfl (lv_at hl 0 rfl) ?_
          refine zt_iast (g := i1) (x := j) hx hb hK.1 hP hD hS 3 0 rfl rfl (by omega) (by omega) dX3_gatherFrames_33 (fun H locs hP hD hS => ?_)
          have hP : va_P D vwCl [(o, .inr (2, [.ref q1, .ref q2, .ref q3, .ref q4, .ref q5, .ref q6, .int (iI cst), .int (iI F1), .int (iI kn)])), (q2, aI gi 60 pl), (q3, aI gi 60 o1), (q4, aI gi 60 (uP i1 F1.toNat j)), (q5, aI gi 60 l1)] H := hP
          have hD : va_D A [(o, .inr (2, [.ref q1, .ref q2, .ref q3, .ref q4, .ref q5, .ref q6, .int (iI cst), .int (iI F1), .int (iI kn)])), (q2, aI gi 60 pl), (q3, aI gi 60 o1), (q4, aI gi 60 (uP i1 F1.toNat j)), (q5, aI gi 60 l1)] := hD
          refine lv_aload_n hx hb dX3_gatherFrames_34 rfl (lv_at hl 1 rfl) ?_
          refine lv_dup hx hb dX3_gatherFrames_35 rfl ?_
          refine va_get (D := D) (ci := 2) (v := .int (iI F1)) (C := RX3) (T := TX3) (N := 9) hx hb hts i3 hown hK.1 hP 0 rfl rfl 7 (by decide) f34 (fun _ h9 => h9) rfl dX3_gatherFrames_36 ?_
          refine lv_iconst (v := iI (1)) hx hb dX3_gatherFrames_39 (by decide +kernel) ?_
          refine zt_iadd hx hb dX3_gatherFrames_40 ?_
          refine va_put (D := D) (ci := 2) (v := .int (iI (F1 + 1))) (ty := .int) (C := RX3) (T := TX3) (N := 9) hx hb hts i3 tyX3 tyX3_ok nmX3 hown hK.1 hP hD hS 0 rfl rfl 7 (by decide) f34 (fun _ h9 => h9) rfl (by decide +kernel) rfl rfl (Nat.le_of_ble_eq_true rfl) dX3_gatherFrames_41 (fun H locs hP hD hS => ?_)
          have hP : va_P D vwCl [(o, .inr (2, [.ref q1, .ref q2, .ref q3, .ref q4, .ref q5, .ref q6, .int (iI cst), .int (iI (F1 + 1)), .int (iI kn)])), (q2, aI gi 60 pl), (q3, aI gi 60 o1), (q4, aI gi 60 (uP i1 F1.toNat j)), (q5, aI gi 60 l1)] H := hP
          have hD : va_D A [(o, .inr (2, [.ref q1, .ref q2, .ref q3, .ref q4, .ref q5, .ref q6, .int (iI cst), .int (iI (F1 + 1)), .int (iI kn)])), (q2, aI gi 60 pl), (q3, aI gi 60 o1), (q4, aI gi 60 (uP i1 F1.toNat j)), (q5, aI gi 60 l1)] := hD
          refine lv_aload_n hx hb dX3_gatherFrames_44 rfl (lv_at hl 1 rfl) ?_
          refine va_get (D := D) (ci := 2) (v := .ref q3) (C := RX3) (T := TX3) (N := 9) hx hb hts i3 hown hK.1 hP 0 rfl rfl 2 (by decide) f18 (fun _ h9 => h9) rfl dX3_gatherFrames_45 ?_
          refine lv_iload_n hx hb dX3_gatherFrames_48 rfl (lv_at hl 3 rfl) ?_
          refine lv_aload_n hx hb dX3_gatherFrames_49 rfl (lv_at hl 1 rfl) ?_
          refine va_get (D := D) (ci := 2) (v := .int (iI (F1 + 1))) (C := RX3) (T := TX3) (N := 9) hx hb hts i3 hown hK.1 hP 0 rfl rfl 7 (by decide) f34 (fun _ h9 => h9) rfl dX3_gatherFrames_50 ?_
          refine lv_iconst (v := iI (1)) hx hb dX3_gatherFrames_53 (by decide +kernel) ?_
          refine zt_isub hx hb dX3_gatherFrames_54 ?_
          refine zt_iast (g := o1) (x := (F1 + 1) - 1) hx hb hK.1 hP hD hS 2 0 rfl rfl (by omega) (by omega) dX3_gatherFrames_55 (fun H locs hP hD hS => ?_)
          have hP : va_P D vwCl [(o, .inr (2, [.ref q1, .ref q2, .ref q3, .ref q4, .ref q5, .ref q6, .int (iI cst), .int (iI (F1 + 1)), .int (iI kn)])), (q2, aI gi 60 pl), (q3, aI gi 60 (uP o1 j.toNat ((F1 + 1) - 1))), (q4, aI gi 60 (uP i1 F1.toNat j)), (q5, aI gi 60 l1)] H := hP
          have hD : va_D A [(o, .inr (2, [.ref q1, .ref q2, .ref q3, .ref q4, .ref q5, .ref q6, .int (iI cst), .int (iI (F1 + 1)), .int (iI kn)])), (q2, aI gi 60 pl), (q3, aI gi 60 (uP o1 j.toNat ((F1 + 1) - 1))), (q4, aI gi 60 (uP i1 F1.toNat j)), (q5, aI gi 60 l1)] := hD
          refine lv_aload_n hx hb dX3_gatherFrames_56 rfl (lv_at hl 1 rfl) ?_
          refine va_get (D := D) (ci := 2) (v := .ref q5) (C := RX3) (T := TX3) (N := 9) hx hb hts i3 hown hK.1 hP 0 rfl rfl 4 (by decide) f24 (fun _ h9 => h9) rfl dX3_gatherFrames_57 ?_
          refine lv_aload_n hx hb dX3_gatherFrames_60 rfl (lv_at hl 1 rfl) ?_
          refine va_get (D := D) (ci := 2) (v := .int (iI (F1 + 1))) (C := RX3) (T := TX3) (N := 9) hx hb hts i3 hown hK.1 hP 0 rfl rfl 7 (by decide) f34 (fun _ h9 => h9) rfl dX3_gatherFrames_61 ?_
          refine lv_iconst (v := iI (1)) hx hb dX3_gatherFrames_64 (by decide +kernel) ?_
          refine zt_isub hx hb dX3_gatherFrames_65 ?_
          refine lv_iload_n hx hb dX3_gatherFrames_66 rfl (lv_at hl 3 rfl) ?_
          refine lv_iload_n hx hb dX3_gatherFrames_67 rfl (lv_at hl 0 rfl) ?_
          refine zt_isub hx hb dX3_gatherFrames_68 ?_
          refine lv_iconst (v := iI (1)) hx hb dX3_gatherFrames_69 (by decide +kernel) ?_
          refine zt_iadd hx hb dX3_gatherFrames_70 ?_
          refine zt_iast (g := l1) (x := (j - j) + 1) hx hb hK.1 hP hD hS 4 0 rfl rfl (by omega) (by omega) dX3_gatherFrames_71 (fun H locs hP hD hS => ?_)
          have hP : va_P D vwCl [(o, .inr (2, [.ref q1, .ref q2, .ref q3, .ref q4, .ref q5, .ref q6, .int (iI cst), .int (iI (F1 + 1)), .int (iI kn)])), (q2, aI gi 60 pl), (q3, aI gi 60 (uP o1 j.toNat ((F1 + 1) - 1))), (q4, aI gi 60 (uP i1 F1.toNat j)), (q5, aI gi 60 (uP l1 ((F1 + 1) - 1).toNat ((j - j) + 1)))] H := hP
          have hD : va_D A [(o, .inr (2, [.ref q1, .ref q2, .ref q3, .ref q4, .ref q5, .ref q6, .int (iI cst), .int (iI (F1 + 1)), .int (iI kn)])), (q2, aI gi 60 pl), (q3, aI gi 60 (uP o1 j.toNat ((F1 + 1) - 1))), (q4, aI gi 60 (uP i1 F1.toNat j)), (q5, aI gi 60 (uP l1 ((F1 + 1) - 1).toNat ((j - j) + 1)))] := hD
          refine lv_iinc (v := iI (j + 1)) (lv' := [(3, .int (iI (j + 1))), (2, .int (iI j)), (0, .ref o), (1, .int (iI x))]) hx hb dX3_gatherFrames_72 hl (k := 3) rfl (iI_add _ _) (by decide) rfl (fun ls hl => ?_)
          refine lv_goto (tgt := 9) hx hb dX3_gatherFrames_75 (by decide) ?_
          exact ih_9 j (j + 1) (F1 + 1) (uP o1 j.toNat ((F1 + 1) - 1)) (uP i1 F1.toNat j) (uP l1 ((F1 + 1) - 1).toNat ((j - j) + 1)) (by omega) (by first | exact Cov_new hcv hj.1 | exact Cov_more hcv (by omega) (hst (by omega))) (by first | (intro _; rw [show ((F1 + 1) - 1).toNat = F1.toNat by omega, uP_s]) | exact hst) (by omega) H locs hP hD hS ls (lv_sub hl [2, 3, 1, 0] rfl)
  exact loop_9 ((x - 0 : Int).toNat + 1) 0 0 0 fo fi le (by omega) (Cov_0 _ _) (fun h => absurd h (by omega)) (by omega) H locs hP hD hS ls (lv_sub hl [2, 3, 1, 0] rfl)
set_option maxHeartbeats 4000000 in
set_option maxRecDepth 100000 in
theorem c_X3_timesOf (l : Launch) (D : va_G) (gi gc gr : ClassId) (x : Int) (r : Nat) (a : Nat) (t : Int) (g : Nat → Int) (x1 : Int) (x2 : Int) (ht : 0 ≤ t ∧ t ≤ 60) (h1 : 0 ≤ x1 ∧ 0 ≤ x2 ∧ x1 + x2 ≤ t) : Met l yX3_timesOf wsX3_timesOf { frames := 1, cells := 0, slots := 0, locals := 21 } (zPr D gi gc gr [(r, .inr (3, [.ref a, .int (iI t)])), (a, aI gi 60 g)] [.int (iI x), .ref r, .int (iI x1), .int (iI x2)]) (vp_Si (fun v => ∃ z : Int, v = iI z ∧ True)) 0 0 (fun _ => False) := by
  refine zt_metRi (own := RX3) (cc := cX3_timesOf) (maxL := 6) (by decide) rfl rfl (Nat.le_of_ble_eq_true rfl) ?_
  intro p e s m args below meth c Q C hK hP hQ ls hl
  have hx := C.1
  have hb := C.2.1
  have hml := C.2.2.1
  have hown := C.2.2.2.1
  have hts := C.2.2.2.2
  have hl : lv_has ls 6 [(0, .int (iI x)), (1, .ref r), (2, .int (iI x1)), (3, .int (iI x2))] := hl
  refine lv_iconst (v := iI (0)) hx hb dX3_timesOf_0 (by decide +kernel) ?_
  refine lv_istore (lv' := [(4, .int (iI 0)), (0, .int (iI x)), (1, .ref r), (2, .int (iI x1)), (3, .int (iI x2))]) hx hb dX3_timesOf_1 hl (by decide) rfl (fun ls hl => ?_)
  refine lv_iload_n hx hb dX3_timesOf_3 rfl (lv_at hl 3 rfl) ?_
  refine lv_istore (lv' := [(5, .int (iI x1)), (4, .int (iI 0)), (0, .int (iI x)), (1, .ref r), (2, .int (iI x1)), (3, .int (iI x2))]) hx hb dX3_timesOf_4 hl (by decide) rfl (fun ls hl => ?_)
  have loop_6 : ∀ (n_6 : Nat) (y : Int) (j : Int) (hj : x1 ≤ j ∧ j ≤ x1 + x2) (hm_6 : x1 + x2 - j < (n_6 : Int)) (ls : Array Slot) (hl : lv_has ls 6 [(0, .int (iI x)), (1, .ref r), (2, .int (iI x1)), (3, .int (iI x2)), (4, .int (iI y)), (5, .int (iI j))]), W p l e { frames := 1, cells := 0, slots := 0, locals := 21 } s m args below meth c s.heap [] 0 0 Q (F0 m 6 ls []) := by
    intro n_6
    induction n_6 with
    | zero => intro y j hj hm_6 ls hl; exact absurd hm_6 (by omega)
    | succ n_6 ih_6 =>
      intro y j hj hm_6 ls hl
      refine lv_iload hx hb dX3_timesOf_6 (lv_at hl 5 rfl) ?_
      refine lv_iload_n hx hb dX3_timesOf_8 rfl (lv_at hl 2 rfl) ?_
      refine lv_iload_n hx hb dX3_timesOf_9 rfl (lv_at hl 3 rfl) ?_
      refine zt_iadd hx hb dX3_timesOf_10 ?_
      refine zt_icmp_ge (tgt := 33) hx hb dX3_timesOf_11 (by decide) (by omega) (fun c_1 => ?_) (fun c_1 => ?_)
      · refine lv_iload hx hb dX3_timesOf_33 (lv_at hl 4 rfl) ?_
        exact hQ _ _ _ (⟨_, rfl, trivial⟩) dX3_timesOf_35
      · refine lv_aload_n hx hb dX3_timesOf_14 rfl (lv_at hl 1 rfl) ?_
        refine lv_iload hx hb dX3_timesOf_15 (lv_at hl 5 rfl) ?_
        refine zt_callV C (As := [.int (iI j)]) (rest := []) (c_X4_at l D gi gc gr r a 60 t g j (by first | omega | assumption) (by first | omega | assumption) (by first | omega | assumption)) (cwV 1 hts gX3_timesOf_X4_at rfl rfl rfl (by decide +kernel) ⟨Nat.le_of_ble_eq_true rfl, Nat.le_of_ble_eq_true rfl⟩) (zt_preV hK (hP.sub (ws' := [(r, .inr (3, [.ref a, .int (iI t)])), (a, aI gi 60 g)]) [0, 1] rfl) [.int (iI j)] 0 rfl rfl) rfl hl.1 rfl (Nat.le_of_ble_eq_true rfl) dX3_timesOf_17 ⟨Nat.le_of_ble_eq_true rfl, Nat.le_of_ble_eq_true rfl⟩ (fun r_2 hr_2 => ?_)
        obtain rfl := hr_2
        refine lv_iload_n hx hb dX3_timesOf_20 rfl (lv_at hl 0 rfl) ?_
        refine lv_icmp_ne (tgt := 27) hx hb dX3_timesOf_21 (by decide) (fun c_3 => ?_) (fun c_3 => ?_)
        · refine lv_iinc (v := iI (j + 1)) (lv' := [(5, .int (iI (j + 1))), (0, .int (iI x)), (1, .ref r), (2, .int (iI x1)), (3, .int (iI x2)), (4, .int (iI y))]) hx hb dX3_timesOf_27 hl (k := 5) rfl (iI_add _ _) (by decide) rfl (fun ls hl => ?_)
          refine lv_goto (tgt := 6) hx hb dX3_timesOf_30 (by decide) ?_
          exact ih_6 y (j + 1) (by omega) (by omega) ls (lv_sub hl [1, 2, 3, 4, 5, 0] rfl)
        · refine lv_iinc (v := iI (y + 1)) (lv' := [(4, .int (iI (y + 1))), (0, .int (iI x)), (1, .ref r), (2, .int (iI x1)), (3, .int (iI x2)), (5, .int (iI j))]) hx hb dX3_timesOf_24 hl (k := 4) rfl (iI_add _ _) (by decide) rfl (fun ls hl => ?_)
          refine lv_iinc (v := iI (j + 1)) (lv' := [(5, .int (iI (j + 1))), (4, .int (iI (y + 1))), (0, .int (iI x)), (1, .ref r), (2, .int (iI x1)), (3, .int (iI x2))]) hx hb dX3_timesOf_27 hl (k := 5) rfl (iI_add _ _) (by decide) rfl (fun ls hl => ?_)
          refine lv_goto (tgt := 6) hx hb dX3_timesOf_30 (by decide) ?_
          exact ih_6 (y + 1) (j + 1) (by omega) (by omega) ls (lv_sub hl [2, 3, 4, 5, 1, 0] rfl)
  exact loop_6 ((x1 + x2 - x1 : Int).toNat + 1) 0 x1 (by omega) (by omega) ls (lv_sub hl [2, 3, 4, 5, 1, 0] rfl)
set_option maxHeartbeats 4000000 in
set_option maxRecDepth 100000 in
theorem c_X3_commonLook (l : Launch) (D : va_G) (gi gc gr : ClassId) (r : Nat) (a : Nat) (t : Int) (g : Nat → Int) (x1 : Int) (x2 : Int) (ht : 0 ≤ t ∧ t ≤ 60) (h1 : 0 ≤ x1 ∧ 0 ≤ x2 ∧ x1 + x2 ≤ t) : Met l yX3_commonLook wsX3_commonLook { frames := 2, cells := 0, slots := 0, locals := 46 } (zPr D gi gc gr [(r, .inr (3, [.ref a, .int (iI t)])), (a, aI gi 60 g)] [.ref r, .int (iI x1), .int (iI x2)]) (vp_Si (fun v => ∃ z : Int, v = iI z ∧ True)) 0 0 (fun _ => False) := by
  refine zt_metRi (own := RX3) (cc := cX3_commonLook) (maxL := 8) (by decide) rfl rfl (Nat.le_of_ble_eq_true rfl) ?_
  intro p e s m args below meth c Q C hK hP hQ ls hl
  have hx := C.1
  have hb := C.2.1
  have hml := C.2.2.1
  have hown := C.2.2.2.1
  have hts := C.2.2.2.2
  have hl : lv_has ls 8 [(0, .ref r), (1, .int (iI x1)), (2, .int (iI x2))] := hl
  refine lv_iconst (v := iI (-1)) hx hb dX3_commonLook_0 (by decide +kernel) ?_
  refine lv_istore_n (lv' := [(3, .int (iI (-1))), (0, .ref r), (1, .int (iI x1)), (2, .int (iI x2))]) hx hb dX3_commonLook_1 rfl hl (by decide) rfl (fun ls hl => ?_)
  refine lv_iconst (v := iI (0)) hx hb dX3_commonLook_2 (by decide +kernel) ?_
  refine lv_istore (lv' := [(4, .int (iI 0)), (3, .int (iI (-1))), (0, .ref r), (1, .int (iI x1)), (2, .int (iI x2))]) hx hb dX3_commonLook_3 hl (by decide) rfl (fun ls hl => ?_)
  refine lv_iload_n hx hb dX3_commonLook_5 rfl (lv_at hl 3 rfl) ?_
  refine lv_istore (lv' := [(5, .int (iI x1)), (4, .int (iI 0)), (3, .int (iI (-1))), (0, .ref r), (1, .int (iI x1)), (2, .int (iI x2))]) hx hb dX3_commonLook_6 hl (by decide) rfl (fun ls hl => ?_)
  have loop_8 : ∀ (n_8 : Nat) (x : Int) (y : Int) (j : Int) (hj : x1 ≤ j ∧ j ≤ x1 + x2) (hm_8 : x1 + x2 - j < (n_8 : Int)) (ls : Array Slot) (hl : lv_has ls 8 [(0, .ref r), (1, .int (iI x1)), (2, .int (iI x2)), (3, .int (iI x)), (4, .int (iI y)), (5, .int (iI j))]), W p l e { frames := 2, cells := 0, slots := 0, locals := 46 } s m args below meth c s.heap [] 0 0 Q (F0 m 8 ls []) := by
    intro n_8
    induction n_8 with
    | zero => intro x y j hj hm_8 ls hl; exact absurd hm_8 (by omega)
    | succ n_8 ih_8 =>
      intro x y j hj hm_8 ls hl
      refine lv_iload hx hb dX3_commonLook_8 (lv_at hl 5 rfl) ?_
      refine lv_iload_n hx hb dX3_commonLook_10 rfl (lv_at hl 1 rfl) ?_
      refine lv_iload_n hx hb dX3_commonLook_11 rfl (lv_at hl 2 rfl) ?_
      refine zt_iadd hx hb dX3_commonLook_12 ?_
      refine zt_icmp_ge (tgt := 67) hx hb dX3_commonLook_13 (by decide) (by omega) (fun c_1 => ?_) (fun c_1 => ?_)
      · refine lv_iload_n hx hb dX3_commonLook_67 rfl (lv_at hl 3 rfl) ?_
        exact hQ _ _ _ (⟨_, rfl, trivial⟩) dX3_commonLook_68
      · refine lv_aload_n hx hb dX3_commonLook_16 rfl (lv_at hl 0 rfl) ?_
        refine lv_iload hx hb dX3_commonLook_17 (lv_at hl 5 rfl) ?_
        refine zt_callV C (As := [.int (iI j)]) (rest := []) (c_X4_at l D gi gc gr r a 60 t g j (by first | omega | assumption) (by first | omega | assumption) (by first | omega | assumption)) (cwV 1 hts gX3_commonLook_X4_at rfl rfl rfl (by decide +kernel) ⟨Nat.le_of_ble_eq_true rfl, Nat.le_of_ble_eq_true rfl⟩) (zt_preV hK (hP.sub (ws' := [(r, .inr (3, [.ref a, .int (iI t)])), (a, aI gi 60 g)]) [0, 1] rfl) [.int (iI j)] 0 rfl rfl) rfl hl.1 rfl (Nat.le_of_ble_eq_true rfl) dX3_commonLook_19 ⟨Nat.le_of_ble_eq_true rfl, Nat.le_of_ble_eq_true rfl⟩ (fun r_2 hr_2 => ?_)
        obtain rfl := hr_2
        refine lv_istore (lv' := [(6, .int (iI (g j.toNat))), (0, .ref r), (1, .int (iI x1)), (2, .int (iI x2)), (3, .int (iI x)), (4, .int (iI y)), (5, .int (iI j))]) hx hb dX3_commonLook_22 hl (by decide) rfl (fun ls hl => ?_)
        refine lv_iload hx hb dX3_commonLook_24 (lv_at hl 0 rfl) ?_
        refine lv_aload_n hx hb dX3_commonLook_26 rfl (lv_at hl 1 rfl) ?_
        refine lv_iload_n hx hb dX3_commonLook_27 rfl (lv_at hl 2 rfl) ?_
        refine lv_iload_n hx hb dX3_commonLook_28 rfl (lv_at hl 3 rfl) ?_
        refine zt_callS C (As := [.int (iI (g j.toNat)), .ref r, .int (iI x1), .int (iI x2)]) (rest := []) (c_X3_timesOf l D gi gc gr (g j.toNat) r a t g x1 x2 (by first | omega | assumption) (by first | omega | assumption)) (va_cwS 4 hts gX3_commonLook_X3_timesOf rfl rfl rfl (by decide +kernel) ⟨Nat.le_of_ble_eq_true rfl, Nat.le_of_ble_eq_true rfl⟩) (zt_preS hK (hP.sub (ws' := [(r, .inr (3, [.ref a, .int (iI t)])), (a, aI gi 60 g)]) [0, 1] rfl) [.int (iI (g j.toNat)), .ref r, .int (iI x1), .int (iI x2)]) rfl hl.1 rfl (Nat.le_of_ble_eq_true rfl) dX3_commonLook_29 ⟨Nat.le_of_ble_eq_true rfl, Nat.le_of_ble_eq_true rfl⟩ (fun r_3 hr_3 => ?_)
        obtain ⟨z_4, rfl, hz_4⟩ := hr_3
        refine lv_istore (lv' := [(7, .int (iI z_4)), (6, .int (iI (g j.toNat))), (0, .ref r), (1, .int (iI x1)), (2, .int (iI x2)), (3, .int (iI x)), (4, .int (iI y)), (5, .int (iI j))]) hx hb dX3_commonLook_32 hl (by decide) rfl (fun ls hl => ?_)
        refine lv_iload hx hb dX3_commonLook_34 (lv_at hl 0 rfl) ?_
        refine lv_iload hx hb dX3_commonLook_36 (lv_at hl 6 rfl) ?_
        refine lv_icmp_gt (tgt := 54) hx hb dX3_commonLook_38 (by decide) (fun c_5 => ?_) (fun c_5 => ?_)
        · refine lv_iload hx hb dX3_commonLook_54 (lv_at hl 1 rfl) ?_
          refine lv_istore_n (lv' := [(3, .int (iI (g j.toNat))), (7, .int (iI z_4)), (6, .int (iI (g j.toNat))), (0, .ref r), (1, .int (iI x1)), (2, .int (iI x2)), (4, .int (iI y)), (5, .int (iI j))]) hx hb dX3_commonLook_56 rfl hl (by decide) rfl (fun ls hl => ?_)
          refine lv_iload hx hb dX3_commonLook_57 (lv_at hl 1 rfl) ?_
          refine lv_istore (lv' := [(4, .int (iI z_4)), (3, .int (iI (g j.toNat))), (7, .int (iI z_4)), (6, .int (iI (g j.toNat))), (0, .ref r), (1, .int (iI x1)), (2, .int (iI x2)), (5, .int (iI j))]) hx hb dX3_commonLook_59 hl (by decide) rfl (fun ls hl => ?_)
          refine lv_iinc (v := iI (j + 1)) (lv' := [(5, .int (iI (j + 1))), (4, .int (iI z_4)), (3, .int (iI (g j.toNat))), (7, .int (iI z_4)), (6, .int (iI (g j.toNat))), (0, .ref r), (1, .int (iI x1)), (2, .int (iI x2))]) hx hb dX3_commonLook_61 hl (k := 7) rfl (iI_add _ _) (by decide) rfl (fun ls hl => ?_)
          refine lv_goto (tgt := 8) hx hb dX3_commonLook_64 (by decide) ?_
          exact ih_8 (g j.toNat) z_4 (j + 1) (by omega) (by omega) ls (lv_sub hl [5, 6, 7, 2, 1, 0] rfl)
        · refine lv_iload hx hb dX3_commonLook_41 (lv_at hl 0 rfl) ?_
          refine lv_iload hx hb dX3_commonLook_43 (lv_at hl 6 rfl) ?_
          refine lv_icmp_ne (tgt := 61) hx hb dX3_commonLook_45 (by decide) (fun c_6 => ?_) (fun c_6 => ?_)
          · refine lv_iinc (v := iI (j + 1)) (lv' := [(5, .int (iI (j + 1))), (7, .int (iI z_4)), (6, .int (iI (g j.toNat))), (0, .ref r), (1, .int (iI x1)), (2, .int (iI x2)), (3, .int (iI x)), (4, .int (iI y))]) hx hb dX3_commonLook_61 hl (k := 7) rfl (iI_add _ _) (by decide) rfl (fun ls hl => ?_)
            refine lv_goto (tgt := 8) hx hb dX3_commonLook_64 (by decide) ?_
            exact ih_8 x y (j + 1) (by omega) (by omega) ls (lv_sub hl [3, 4, 5, 6, 7, 0] rfl)
          · refine lv_iload hx hb dX3_commonLook_48 (lv_at hl 1 rfl) ?_
            refine lv_iload_n hx hb dX3_commonLook_50 rfl (lv_at hl 5 rfl) ?_
            refine lv_icmp_ge (tgt := 61) hx hb dX3_commonLook_51 (by decide) (fun c_7 => ?_) (fun c_7 => ?_)
            · refine lv_iinc (v := iI (j + 1)) (lv' := [(5, .int (iI (j + 1))), (7, .int (iI z_4)), (6, .int (iI (g j.toNat))), (0, .ref r), (1, .int (iI x1)), (2, .int (iI x2)), (3, .int (iI x)), (4, .int (iI y))]) hx hb dX3_commonLook_61 hl (k := 7) rfl (iI_add _ _) (by decide) rfl (fun ls hl => ?_)
              refine lv_goto (tgt := 8) hx hb dX3_commonLook_64 (by decide) ?_
              exact ih_8 x y (j + 1) (by omega) (by omega) ls (lv_sub hl [3, 4, 5, 6, 7, 0] rfl)
            · refine lv_iload hx hb dX3_commonLook_54 (lv_at hl 1 rfl) ?_
              refine lv_istore_n (lv' := [(3, .int (iI (g j.toNat))), (7, .int (iI z_4)), (6, .int (iI (g j.toNat))), (0, .ref r), (1, .int (iI x1)), (2, .int (iI x2)), (4, .int (iI y)), (5, .int (iI j))]) hx hb dX3_commonLook_56 rfl hl (by decide) rfl (fun ls hl => ?_)
              refine lv_iload hx hb dX3_commonLook_57 (lv_at hl 1 rfl) ?_
              refine lv_istore (lv' := [(4, .int (iI z_4)), (3, .int (iI (g j.toNat))), (7, .int (iI z_4)), (6, .int (iI (g j.toNat))), (0, .ref r), (1, .int (iI x1)), (2, .int (iI x2)), (5, .int (iI j))]) hx hb dX3_commonLook_59 hl (by decide) rfl (fun ls hl => ?_)
              refine lv_iinc (v := iI (j + 1)) (lv' := [(5, .int (iI (j + 1))), (4, .int (iI z_4)), (3, .int (iI (g j.toNat))), (7, .int (iI z_4)), (6, .int (iI (g j.toNat))), (0, .ref r), (1, .int (iI x1)), (2, .int (iI x2))]) hx hb dX3_commonLook_61 hl (k := 7) rfl (iI_add _ _) (by decide) rfl (fun ls hl => ?_)
              refine lv_goto (tgt := 8) hx hb dX3_commonLook_64 (by decide) ?_
              exact ih_8 (g j.toNat) z_4 (j + 1) (by omega) (by omega) ls (lv_sub hl [5, 6, 7, 2, 1, 0] rfl)
  exact loop_8 ((x1 + x2 - x1 : Int).toNat + 1) (-1) 0 x1 (by omega) (by omega) ls (lv_sub hl [3, 4, 5, 2, 1, 0] rfl)
set_option maxHeartbeats 4000000 in
set_option maxRecDepth 100000 in
theorem c_X3_find1 (l : Launch) (D : va_G) (gi gc gr : ClassId) (o : Nat) (q1 : Nat) (q2 : Nat) (q3 : Nat) (q4 : Nat) (q5 : Nat) (q6 : Nat) (cst : Int) (F : Int) (r : Nat) (ch : Int) : Met l yX3_find wsX3_find { frames := 0, cells := 0, slots := 0, locals := 0 } (zPr D gi gc gr [(o, .inr (2, [.ref q1, .ref q2, .ref q3, .ref q4, .ref q5, .ref q6, .int (iI cst), .int (iI F), .int (iI 1)]))] [.ref o, .ref r, .int (iI ch)]) (va_Sv (fun _ => True)) 0 0 (fun _ => False) := by
  refine zt_metRv (own := RX3) (cc := cX3_find) (maxL := 4) (by decide) rfl rfl (Nat.le_of_ble_eq_true rfl) ?_
  intro p e s m args below meth c Q C hK hP hQ ls hl
  have hx := C.1
  have hb := C.2.1
  have hml := C.2.2.1
  have hown := C.2.2.2.1
  have hts := C.2.2.2.2
  have i3 : ∀ w ∈ u_ws RX3 TX3 9, w ∈ wsX3_find := by decide +kernel
  have f37 := hts (.fieldLink RX3 37 "Threetwo$Rhythm" "known" "Z") (by decide +kernel)
  have hl : lv_has ls 4 [(0, .ref o), (1, .ref r), (2, .int (iI ch))] := hl
  refine lv_aload_n hx hb dX3_find_0 rfl (lv_at hl 0 rfl) ?_
  refine va_get (D := D) (ci := 2) (v := .int (iI 1)) (C := RX3) (T := TX3) (N := 9) hx hb hts i3 hown hK.1 hP 0 rfl rfl 8 (by decide) f37 (fun _ h9 => h9) rfl dX3_find_1 ?_
  refine zt_if_eq (tgt := 8) hx hb dX3_find_4 (by decide) (by omega) (fun c_1 => absurd c_1 (by omega)) (fun c_1 => ?_)
  exact hQ _ _ (trivial) dX3_find_7
set_option maxHeartbeats 16000000 in
set_option maxRecDepth 100000 in
theorem c_X3_find (l : Launch) (D : va_G) (gi gc gr : ClassId) (sz : Nat) (o : Nat) (q1 : Nat) (q2 : Nat) (q3 : Nat) (q4 : Nat) (q5 : Nat) (q6 : Nat) (cst : Int) (F : Int) (bh : Nat → Int) (pl : Nat → Int) (fo : Nat → Int) (fi : Nat → Int) (le : Nat → Int) (fl : Nat → Int) (r : Nat) (a : Nat) (t : Int) (g : Nat → Int) (ch : Int) (ht : 0 ≤ t ∧ t ≤ 60) : Met l yX3_find wsX3_find { frames := 3, cells := 0, slots := 0, locals := 79 } (zPw D gi gc gr [(o, .inr (2, [.ref q1, .ref q2, .ref q3, .ref q4, .ref q5, .ref q6, .int (iI cst), .int (iI F), .int (iI 0)])), (q1, aI gi 300 bh), (q2, aI gi 60 pl), (q3, aI gi 60 fo), (q4, aI gi 60 fi), (q5, aI gi 60 le), (q6, aI gi 60 fl), (r, .inr (3, [.ref a, .int (iI t)])), (a, aI gi 60 g)] sz [.ref o, .ref r, .int (iI ch)]) (va_Qv (S := Int × Int × (Nat → Int) × (Nat → Int) × (Nat → Int) × (Nat → Int) × (Nat → Int) × (Nat → Int)) (fun u => Cov u.2.1 t u.2.2.2.2.2.1 u.2.2.2.2.2.2.1) (zB D (va_A [(o, .inr (2, [.ref q1, .ref q2, .ref q3, .ref q4, .ref q5, .ref q6, .int (iI cst), .int (iI F), .int (iI 0)])), (q1, aI gi 300 bh), (q2, aI gi 60 pl), (q3, aI gi 60 fo), (q4, aI gi 60 fi), (q5, aI gi 60 le), (q6, aI gi 60 fl), (r, .inr (3, [.ref a, .int (iI t)])), (a, aI gi 60 g)] sz) (fun u => [(o, .inr (2, [.ref q1, .ref q2, .ref q3, .ref q4, .ref q5, .ref q6, .int (iI u.1), .int (iI u.2.1), .int (iI 1)])), (q1, aI gi 300 u.2.2.1), (q2, aI gi 60 u.2.2.2.1), (q3, aI gi 60 u.2.2.2.2.1), (q4, aI gi 60 u.2.2.2.2.2.1), (q5, aI gi 60 u.2.2.2.2.2.2.1), (q6, aI gi 60 u.2.2.2.2.2.2.2), (r, .inr (3, [.ref a, .int (iI t)])), (a, aI gi 60 g)])) (va_A [(o, .inr (2, [.ref q1, .ref q2, .ref q3, .ref q4, .ref q5, .ref q6, .int (iI cst), .int (iI F), .int (iI 0)])), (q1, aI gi 300 bh), (q2, aI gi 60 pl), (q3, aI gi 60 fo), (q4, aI gi 60 fi), (q5, aI gi 60 le), (q6, aI gi 60 fl), (r, .inr (3, [.ref a, .int (iI t)])), (a, aI gi 60 g)] sz)) 0 0 (va_A [(o, .inr (2, [.ref q1, .ref q2, .ref q3, .ref q4, .ref q5, .ref q6, .int (iI cst), .int (iI F), .int (iI 0)])), (q1, aI gi 300 bh), (q2, aI gi 60 pl), (q3, aI gi 60 fo), (q4, aI gi 60 fi), (q5, aI gi 60 le), (q6, aI gi 60 fl), (r, .inr (3, [.ref a, .int (iI t)])), (a, aI gi 60 g)] sz) := by
  refine zt_metWv (own := RX3) (cc := cX3_find) (maxL := 4) (by decide) rfl rfl (Nat.le_of_ble_eq_true rfl) ?_
  intro p e s m args below meth c Q A C hK hP hD hS hA _ hQ ls hl
  have hx := C.1
  have hb := C.2.1
  have hml := C.2.2.1
  have hown := C.2.2.2.1
  have hts := C.2.2.2.2
  have i3 : ∀ w ∈ u_ws RX3 TX3 9, w ∈ wsX3_find := by decide +kernel
  have f21 := hts (.fieldLink RX3 21 "Threetwo$Rhythm" "firsts" "[I") (by decide +kernel)
  have f24 := hts (.fieldLink RX3 24 "Threetwo$Rhythm" "lengths" "[I") (by decide +kernel)
  have f27 := hts (.fieldLink RX3 27 "Threetwo$Rhythm" "frameLooks" "[I") (by decide +kernel)
  have f30 := hts (.fieldLink RX3 30 "Threetwo$Rhythm" "cost" "I") (by decide +kernel)
  have f34 := hts (.fieldLink RX3 34 "Threetwo$Rhythm" "frames" "I") (by decide +kernel)
  have f37 := hts (.fieldLink RX3 37 "Threetwo$Rhythm" "known" "Z") (by decide +kernel)
  have hl : lv_has ls 4 [(0, .ref o), (1, .ref r), (2, .int (iI ch))] := hl
  refine lv_aload_n hx hb dX3_find_0 rfl (lv_at hl 0 rfl) ?_
  refine va_get (D := D) (ci := 2) (v := .int (iI 0)) (C := RX3) (T := TX3) (N := 9) hx hb hts i3 hown hK.1 hP 0 rfl rfl 8 (by decide) f37 (fun _ h9 => h9) rfl dX3_find_1 ?_
  refine zt_if_eq (tgt := 8) hx hb dX3_find_4 (by decide) (by omega) (fun c_1 => ?_) (fun c_1 => absurd c_1 (by omega))
  refine lv_aload_n hx hb dX3_find_8 rfl (lv_at hl 0 rfl) ?_
  refine lv_aload_n hx hb dX3_find_9 rfl (lv_at hl 0 rfl) ?_
  refine lv_aload_n hx hb dX3_find_10 rfl (lv_at hl 1 rfl) ?_
  refine lv_iload_n hx hb dX3_find_11 rfl (lv_at hl 2 rfl) ?_
  have hPc := hP.sub (ws' := [(o, .inr (2, [.ref q1, .ref q2, .ref q3, .ref q4, .ref q5, .ref q6, .int (iI cst), .int (iI F), .int (iI 0)])), (q1, aI gi 300 bh), (r, .inr (3, [.ref a, .int (iI t)])), (a, aI gi 60 g)]) [0, 1, 7, 8] rfl
  have hDc := hD.sub (ws' := [(o, .inr (2, [.ref q1, .ref q2, .ref q3, .ref q4, .ref q5, .ref q6, .int (iI cst), .int (iI F), .int (iI 0)])), (q1, aI gi 300 bh), (r, .inr (3, [.ref a, .int (iI t)])), (a, aI gi 60 g)]) [0, 1, 7, 8] (by decide) rfl
  have hFc := va_free (wc := [(o, .inr (2, [.ref q1, .ref q2, .ref q3, .ref q4, .ref q5, .ref q6, .int (iI cst), .int (iI F), .int (iI 0)])), (q1, aI gi 300 bh), (r, .inr (3, [.ref a, .int (iI t)])), (a, aI gi 60 g)]) hD hS hA [0, 1, 7, 8] rfl
  refine va_calli (va_runV C (As := [.ref r, .int (iI ch)]) (rest := [.ref o]) (c_X3_leastCost l D gi gc gr s.heap.size o q1 q2 q3 q4 q5 q6 cst F 0 bh r a t g ch (by first | omega | assumption)) (cwV 2 hts gX3_find_X3_leastCost rfl rfl rfl (by decide +kernel) ⟨Nat.le_of_ble_eq_true rfl, Nat.le_of_ble_eq_true rfl⟩) (zt_preVw hK hPc hDc [.ref r, .int (iI ch)] 0 rfl rfl) rfl rfl hl.1 rfl (lv_room (Nat.le_of_ble_eq_true rfl)) dX3_find_12 ⟨Nat.le_of_ble_eq_true rfl, Nat.le_of_ble_eq_true rfl⟩) hS (fun q _ h => hFc q h) hFc (fun r_2 u_r_2 T9 H1 locs hT9 hvm hw hB hz1 hk1 hS => ?_)
  obtain ⟨z_2, rfl⟩ := hw
  obtain ⟨hP1, hD1⟩ := hB
  rw [hT9] at hP1
  obtain ⟨hP, hD⟩ := zt_back (w1 := [(o, .inr (2, [.ref q1, .ref q2, .ref q3, .ref q4, .ref q5, .ref q6, .int (iI cst), .int (iI F), .int (iI 0)])), (q1, aI gi 300 u_r_2), (r, .inr (3, [.ref a, .int (iI t)])), (a, aI gi 60 g)]) (wr := [(q2, aI gi 60 pl), (q3, aI gi 60 fo), (q4, aI gi 60 fi), (q5, aI gi 60 le), (q6, aI gi 60 fl)]) (wn := [(o, .inr (2, [.ref q1, .ref q2, .ref q3, .ref q4, .ref q5, .ref q6, .int (iI cst), .int (iI F), .int (iI 0)])), (q1, aI gi 300 u_r_2), (q2, aI gi 60 pl), (q3, aI gi 60 fo), (q4, aI gi 60 fi), (q5, aI gi 60 le), (q6, aI gi 60 fl), (r, .inr (3, [.ref a, .int (iI t)])), (a, aI gi 60 g)]) hP hD [0, 1, 7, 8] [2, 3, 4, 5, 6] [5, 6, 0, 1, 2, 3, 4, 7, 8] rfl rfl (by decide) (by decide) hk1 hFc hP1 hD1 rfl (by decide)
  generalize H1 = H at hP hS ⊢
  refine va_put (D := D) (ci := 2) (v := .int (iI z_2)) (ty := .int) (C := RX3) (T := TX3) (N := 9) hx hb hts i3 tyX3 tyX3_ok nmX3 hown hK.1 hP hD hS 0 rfl rfl 6 (by decide) f30 (fun _ h9 => h9) rfl (by decide +kernel) rfl rfl (Nat.le_of_ble_eq_true rfl) dX3_find_15 (fun H locs hP hD hS => ?_)
  have hP : va_P D vwCl [(o, .inr (2, [.ref q1, .ref q2, .ref q3, .ref q4, .ref q5, .ref q6, .int (iI z_2), .int (iI F), .int (iI 0)])), (q1, aI gi 300 u_r_2), (q2, aI gi 60 pl), (q3, aI gi 60 fo), (q4, aI gi 60 fi), (q5, aI gi 60 le), (q6, aI gi 60 fl), (r, .inr (3, [.ref a, .int (iI t)])), (a, aI gi 60 g)] H := hP
  have hD : va_D A [(o, .inr (2, [.ref q1, .ref q2, .ref q3, .ref q4, .ref q5, .ref q6, .int (iI z_2), .int (iI F), .int (iI 0)])), (q1, aI gi 300 u_r_2), (q2, aI gi 60 pl), (q3, aI gi 60 fo), (q4, aI gi 60 fi), (q5, aI gi 60 le), (q6, aI gi 60 fl), (r, .inr (3, [.ref a, .int (iI t)])), (a, aI gi 60 g)] := hD
  refine lv_aload_n hx hb dX3_find_18 rfl (lv_at hl 0 rfl) ?_
  refine lv_aload_n hx hb dX3_find_19 rfl (lv_at hl 1 rfl) ?_
  refine lv_iload_n hx hb dX3_find_20 rfl (lv_at hl 2 rfl) ?_
  have hPc := hP.sub (ws' := [(o, .inr (2, [.ref q1, .ref q2, .ref q3, .ref q4, .ref q5, .ref q6, .int (iI z_2), .int (iI F), .int (iI 0)])), (q1, aI gi 300 u_r_2), (q2, aI gi 60 pl), (r, .inr (3, [.ref a, .int (iI t)])), (a, aI gi 60 g)]) [0, 1, 2, 7, 8] rfl
  have hDc := hD.sub (ws' := [(o, .inr (2, [.ref q1, .ref q2, .ref q3, .ref q4, .ref q5, .ref q6, .int (iI z_2), .int (iI F), .int (iI 0)])), (q1, aI gi 300 u_r_2), (q2, aI gi 60 pl), (r, .inr (3, [.ref a, .int (iI t)])), (a, aI gi 60 g)]) [0, 1, 2, 7, 8] (by decide) rfl
  have hFc := va_free (wc := [(o, .inr (2, [.ref q1, .ref q2, .ref q3, .ref q4, .ref q5, .ref q6, .int (iI z_2), .int (iI F), .int (iI 0)])), (q1, aI gi 300 u_r_2), (q2, aI gi 60 pl), (r, .inr (3, [.ref a, .int (iI t)])), (a, aI gi 60 g)]) hD hS hA [0, 1, 2, 7, 8] rfl
  refine va_callv (va_runV C (As := [.ref r, .int (iI ch)]) (rest := []) (c_X3_tracePath l D gi gc gr H.size o q1 q2 q3 q4 q5 q6 z_2 F 0 u_r_2 pl r a t g ch (by first | omega | assumption)) (cwV 2 hts gX3_find_X3_tracePath rfl rfl rfl (by decide +kernel) ⟨Nat.le_of_ble_eq_true rfl, Nat.le_of_ble_eq_true rfl⟩) (zt_preVw hK hPc hDc [.ref r, .int (iI ch)] 0 rfl rfl) rfl rfl hl.1 rfl (lv_room (Nat.le_of_ble_eq_true rfl)) dX3_find_21 ⟨Nat.le_of_ble_eq_true rfl, Nat.le_of_ble_eq_true rfl⟩) hS (fun q _ h => hFc q h) hFc (fun u_r_3 T9 H1 locs hT9 hvm hw hB hz1 hk1 hS => ?_)
  try dsimp only at hw
  have hpl := hw
  obtain ⟨hP1, hD1⟩ := hB
  rw [hT9] at hP1
  obtain ⟨hP, hD⟩ := zt_back (w1 := [(o, .inr (2, [.ref q1, .ref q2, .ref q3, .ref q4, .ref q5, .ref q6, .int (iI z_2), .int (iI F), .int (iI 0)])), (q1, aI gi 300 u_r_2), (q2, aI gi 60 u_r_3), (r, .inr (3, [.ref a, .int (iI t)])), (a, aI gi 60 g)]) (wr := [(q3, aI gi 60 fo), (q4, aI gi 60 fi), (q5, aI gi 60 le), (q6, aI gi 60 fl)]) (wn := [(o, .inr (2, [.ref q1, .ref q2, .ref q3, .ref q4, .ref q5, .ref q6, .int (iI z_2), .int (iI F), .int (iI 0)])), (q1, aI gi 300 u_r_2), (q2, aI gi 60 u_r_3), (q3, aI gi 60 fo), (q4, aI gi 60 fi), (q5, aI gi 60 le), (q6, aI gi 60 fl), (r, .inr (3, [.ref a, .int (iI t)])), (a, aI gi 60 g)]) hP hD [0, 1, 2, 7, 8] [3, 4, 5, 6] [4, 5, 6, 0, 1, 2, 3, 7, 8] rfl rfl (by decide) (by decide) hk1 hFc hP1 hD1 rfl (by decide)
  generalize H1 = H at hP hS ⊢
  refine lv_aload_n hx hb dX3_find_24 rfl (lv_at hl 0 rfl) ?_
  refine lv_aload_n hx hb dX3_find_25 rfl (lv_at hl 1 rfl) ?_
  refine zt_callV C (As := []) (rest := [.ref o]) (c_X4_many l D gi gc gr r a t) (cwV 0 hts gX3_find_X4_many rfl rfl rfl (by decide +kernel) ⟨Nat.le_of_ble_eq_true rfl, Nat.le_of_ble_eq_true rfl⟩) (zt_preV hK (hP.sub (ws' := [(r, .inr (3, [.ref a, .int (iI t)]))]) [7] rfl) [] 0 rfl rfl) rfl hl.1 rfl (Nat.le_of_ble_eq_true rfl) dX3_find_26 ⟨Nat.le_of_ble_eq_true rfl, Nat.le_of_ble_eq_true rfl⟩ (fun r_4 hr_4 => ?_)
  obtain rfl := hr_4
  have hPc := hP.sub (ws' := [(o, .inr (2, [.ref q1, .ref q2, .ref q3, .ref q4, .ref q5, .ref q6, .int (iI z_2), .int (iI F), .int (iI 0)])), (q2, aI gi 60 u_r_3), (q3, aI gi 60 fo), (q4, aI gi 60 fi), (q5, aI gi 60 le)]) [0, 2, 3, 4, 5] rfl
  have hDc := hD.sub (ws' := [(o, .inr (2, [.ref q1, .ref q2, .ref q3, .ref q4, .ref q5, .ref q6, .int (iI z_2), .int (iI F), .int (iI 0)])), (q2, aI gi 60 u_r_3), (q3, aI gi 60 fo), (q4, aI gi 60 fi), (q5, aI gi 60 le)]) [0, 2, 3, 4, 5] (by decide) rfl
  have hFc := va_free (wc := [(o, .inr (2, [.ref q1, .ref q2, .ref q3, .ref q4, .ref q5, .ref q6, .int (iI z_2), .int (iI F), .int (iI 0)])), (q2, aI gi 60 u_r_3), (q3, aI gi 60 fo), (q4, aI gi 60 fi), (q5, aI gi 60 le)]) hD hS hA [0, 2, 3, 4, 5] rfl
  refine va_callv (va_runV C (As := [.int (iI t)]) (rest := []) (c_X3_gatherFrames l D gi gc gr H.size o q1 q2 q3 q4 q5 q6 z_2 F 0 u_r_3 fo fi le t (by first | omega | assumption) (by first | omega | assumption)) (cwV 1 hts gX3_find_X3_gatherFrames rfl rfl rfl (by decide +kernel) ⟨Nat.le_of_ble_eq_true rfl, Nat.le_of_ble_eq_true rfl⟩) (zt_preVw hK hPc hDc [.int (iI t)] 0 rfl rfl) rfl rfl hl.1 rfl (lv_room (Nat.le_of_ble_eq_true rfl)) dX3_find_29 ⟨Nat.le_of_ble_eq_true rfl, Nat.le_of_ble_eq_true rfl⟩) hS (fun q _ h => hFc q h) hFc (fun u_r_5 T9 H1 locs hT9 hvm hw hB hz1 hk1 hS => ?_)
  obtain ⟨F_5, fo_5, fi_5, le_5⟩ := u_r_5
  try dsimp only at hw
  have hcv := hw
  have hcv1 := hcv.1
  obtain ⟨hP1, hD1⟩ := hB
  rw [hT9] at hP1
  obtain ⟨hP, hD⟩ := zt_back (w1 := [(o, .inr (2, [.ref q1, .ref q2, .ref q3, .ref q4, .ref q5, .ref q6, .int (iI z_2), .int (iI F_5), .int (iI 0)])), (q2, aI gi 60 u_r_3), (q3, aI gi 60 fo_5), (q4, aI gi 60 fi_5), (q5, aI gi 60 le_5)]) (wr := [(q1, aI gi 300 u_r_2), (q6, aI gi 60 fl), (r, .inr (3, [.ref a, .int (iI t)])), (a, aI gi 60 g)]) (wn := [(o, .inr (2, [.ref q1, .ref q2, .ref q3, .ref q4, .ref q5, .ref q6, .int (iI z_2), .int (iI F_5), .int (iI 0)])), (q1, aI gi 300 u_r_2), (q2, aI gi 60 u_r_3), (q3, aI gi 60 fo_5), (q4, aI gi 60 fi_5), (q5, aI gi 60 le_5), (q6, aI gi 60 fl), (r, .inr (3, [.ref a, .int (iI t)])), (a, aI gi 60 g)]) hP hD [0, 2, 3, 4, 5] [1, 6, 7, 8] [4, 0, 5, 6, 7, 8, 1, 2, 3] rfl rfl (by decide) (by decide) hk1 hFc hP1 hD1 rfl (by decide)
  generalize H1 = H at hP hS ⊢
  refine lv_iconst (v := iI (0)) hx hb dX3_find_32 (by decide +kernel) ?_
  refine lv_istore_n (lv' := [(3, .int (iI 0)), (0, .ref o), (1, .ref r), (2, .int (iI ch))]) hx hb dX3_find_33 rfl hl (by decide) rfl (fun ls hl => ?_)
  have loop_34 : ∀ (n_34 : Nat) (j : Int) (fl1 : Nat → Int) (hj : 0 ≤ j ∧ j ≤ F_5) (hm_34 : F_5 - j < (n_34 : Int)) (H : Heap) (locs : List Loc) (hP : va_P D vwCl [(o, .inr (2, [.ref q1, .ref q2, .ref q3, .ref q4, .ref q5, .ref q6, .int (iI z_2), .int (iI F_5), .int (iI 0)])), (q1, aI gi 300 u_r_2), (q2, aI gi 60 u_r_3), (q3, aI gi 60 fo_5), (q4, aI gi 60 fi_5), (q5, aI gi 60 le_5), (q6, aI gi 60 fl1), (r, .inr (3, [.ref a, .int (iI t)])), (a, aI gi 60 g)] H) (hD : va_D A [(o, .inr (2, [.ref q1, .ref q2, .ref q3, .ref q4, .ref q5, .ref q6, .int (iI z_2), .int (iI F_5), .int (iI 0)])), (q1, aI gi 300 u_r_2), (q2, aI gi 60 u_r_3), (q3, aI gi 60 fo_5), (q4, aI gi 60 fi_5), (q5, aI gi 60 le_5), (q6, aI gi 60 fl1), (r, .inr (3, [.ref a, .int (iI t)])), (a, aI gi 60 g)]) (hS : va_S A s.heap H locs) (ls : Array Slot) (hl : lv_has ls 4 [(0, .ref o), (1, .ref r), (2, .int (iI ch)), (3, .int (iI j))]), W p l e { frames := 3, cells := 0, slots := 0, locals := 79 } s m args below meth c H locs 0 0 Q (F0 m 34 ls []) := by
    intro n_34
    induction n_34 with
    | zero => intro j fl1 hj hm_34 H locs hP hD hS ls hl; exact absurd hm_34 (by omega)
    | succ n_34 ih_34 =>
      intro j fl1 hj hm_34 H locs hP hD hS ls hl
      refine lv_iload_n hx hb dX3_find_34 rfl (lv_at hl 3 rfl) ?_
      refine lv_aload_n hx hb dX3_find_35 rfl (lv_at hl 0 rfl) ?_
      refine va_get (D := D) (ci := 2) (v := .int (iI F_5)) (C := RX3) (T := TX3) (N := 9) hx hb hts i3 hown hK.1 hP 0 rfl rfl 7 (by decide) f34 (fun _ h9 => h9) rfl dX3_find_36 ?_
      refine zt_icmp_ge (tgt := 70) hx hb dX3_find_39 (by decide) (by omega) (fun c_6 => ?_) (fun c_6 => ?_)
      · refine lv_aload_n hx hb dX3_find_70 rfl (lv_at hl 0 rfl) ?_
        refine lv_iconst (v := iI (1)) hx hb dX3_find_71 (by decide +kernel) ?_
        refine va_put (D := D) (ci := 2) (v := .int (iI 1)) (ty := .boolean) (C := RX3) (T := TX3) (N := 9) hx hb hts i3 tyX3 tyX3_ok nmX3 hown hK.1 hP hD hS 0 rfl rfl 8 (by decide) f37 (fun _ h9 => h9) rfl (by decide +kernel) rfl rfl (Nat.le_of_ble_eq_true rfl) dX3_find_72 (fun H locs hP hD hS => ?_)
        have hP : va_P D vwCl [(o, .inr (2, [.ref q1, .ref q2, .ref q3, .ref q4, .ref q5, .ref q6, .int (iI z_2), .int (iI F_5), .int (iI 1)])), (q1, aI gi 300 u_r_2), (q2, aI gi 60 u_r_3), (q3, aI gi 60 fo_5), (q4, aI gi 60 fi_5), (q5, aI gi 60 le_5), (q6, aI gi 60 fl1), (r, .inr (3, [.ref a, .int (iI t)])), (a, aI gi 60 g)] H := hP
        have hD : va_D A [(o, .inr (2, [.ref q1, .ref q2, .ref q3, .ref q4, .ref q5, .ref q6, .int (iI z_2), .int (iI F_5), .int (iI 1)])), (q1, aI gi 300 u_r_2), (q2, aI gi 60 u_r_3), (q3, aI gi 60 fo_5), (q4, aI gi 60 fi_5), (q5, aI gi 60 le_5), (q6, aI gi 60 fl1), (r, .inr (3, [.ref a, .int (iI t)])), (a, aI gi 60 g)] := hD
        exact hQ (z_2, F_5, u_r_2, u_r_3, fo_5, fi_5, le_5, fl1) _ _ _ _ (hcv) hP hD hS dX3_find_75
      · have hcj := hcv.2.2 j.toNat (by omega)
        refine lv_aload_n hx hb dX3_find_42 rfl (lv_at hl 0 rfl) ?_
        refine va_get (D := D) (ci := 2) (v := .ref q6) (C := RX3) (T := TX3) (N := 9) hx hb hts i3 hown hK.1 hP 0 rfl rfl 5 (by decide) f27 (fun _ h9 => h9) rfl dX3_find_43 ?_
        refine lv_iload_n hx hb dX3_find_46 rfl (lv_at hl 3 rfl) ?_
        refine lv_aload_n hx hb dX3_find_47 rfl (lv_at hl 1 rfl) ?_
        refine lv_aload_n hx hb dX3_find_48 rfl (lv_at hl 0 rfl) ?_
        refine va_get (D := D) (ci := 2) (v := .ref q4) (C := RX3) (T := TX3) (N := 9) hx hb hts i3 hown hK.1 hP 0 rfl rfl 3 (by decide) f21 (fun _ h9 => h9) rfl dX3_find_49 ?_
        refine lv_iload_n hx hb dX3_find_52 rfl (lv_at hl 3 rfl) ?_
        refine zt_iald hx hb hK.1 hP 4 0 rfl rfl (by omega) (by omega) dX3_find_53 ?_
        refine lv_aload_n hx hb dX3_find_54 rfl (lv_at hl 0 rfl) ?_
        refine va_get (D := D) (ci := 2) (v := .ref q5) (C := RX3) (T := TX3) (N := 9) hx hb hts i3 hown hK.1 hP 0 rfl rfl 4 (by decide) f24 (fun _ h9 => h9) rfl dX3_find_55 ?_
        refine lv_iload_n hx hb dX3_find_58 rfl (lv_at hl 3 rfl) ?_
        refine zt_iald hx hb hK.1 hP 5 0 rfl rfl (by omega) (by omega) dX3_find_59 ?_
        refine zt_callS C (As := [.ref r, .int (iI (fi_5 j.toNat)), .int (iI (le_5 j.toNat))]) (rest := [.int (iI j), .ref q6]) (c_X3_commonLook l D gi gc gr r a t g (fi_5 j.toNat) (le_5 j.toNat) (by first | omega | assumption) (by first | omega | assumption)) (va_cwS 3 hts gX3_find_X3_commonLook rfl rfl rfl (by decide +kernel) ⟨Nat.le_of_ble_eq_true rfl, Nat.le_of_ble_eq_true rfl⟩) (zt_preS hK (hP.sub (ws' := [(r, .inr (3, [.ref a, .int (iI t)])), (a, aI gi 60 g)]) [7, 8] rfl) [.ref r, .int (iI (fi_5 j.toNat)), .int (iI (le_5 j.toNat))]) rfl hl.1 rfl (Nat.le_of_ble_eq_true rfl) dX3_find_60 ⟨Nat.le_of_ble_eq_true rfl, Nat.le_of_ble_eq_true rfl⟩ (fun r_7 hr_7 => ?_)
        obtain ⟨z_8, rfl, hz_8⟩ := hr_7
        refine zt_iast (g := fl1) (x := z_8) hx hb hK.1 hP hD hS 6 0 rfl rfl (by omega) (by omega) dX3_find_63 (fun H locs hP hD hS => ?_)
        have hP : va_P D vwCl [(o, .inr (2, [.ref q1, .ref q2, .ref q3, .ref q4, .ref q5, .ref q6, .int (iI z_2), .int (iI F_5), .int (iI 0)])), (q1, aI gi 300 u_r_2), (q2, aI gi 60 u_r_3), (q3, aI gi 60 fo_5), (q4, aI gi 60 fi_5), (q5, aI gi 60 le_5), (q6, aI gi 60 (uP fl1 j.toNat z_8)), (r, .inr (3, [.ref a, .int (iI t)])), (a, aI gi 60 g)] H := hP
        have hD : va_D A [(o, .inr (2, [.ref q1, .ref q2, .ref q3, .ref q4, .ref q5, .ref q6, .int (iI z_2), .int (iI F_5), .int (iI 0)])), (q1, aI gi 300 u_r_2), (q2, aI gi 60 u_r_3), (q3, aI gi 60 fo_5), (q4, aI gi 60 fi_5), (q5, aI gi 60 le_5), (q6, aI gi 60 (uP fl1 j.toNat z_8)), (r, .inr (3, [.ref a, .int (iI t)])), (a, aI gi 60 g)] := hD
        refine lv_iinc (v := iI (j + 1)) (lv' := [(3, .int (iI (j + 1))), (0, .ref o), (1, .ref r), (2, .int (iI ch))]) hx hb dX3_find_64 hl (k := 3) rfl (iI_add _ _) (by decide) rfl (fun ls hl => ?_)
        refine lv_goto (tgt := 34) hx hb dX3_find_67 (by decide) ?_
        exact ih_34 (j + 1) (uP fl1 j.toNat z_8) (by omega) (by omega) H locs hP hD hS ls (lv_sub hl [1, 2, 3, 0] rfl)
  exact loop_34 ((F_5 - 0 : Int).toNat + 1) 0 fl (by omega) (by omega) H locs hP hD hS ls (lv_sub hl [1, 2, 3, 0] rfl)
