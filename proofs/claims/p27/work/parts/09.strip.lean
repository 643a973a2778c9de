/-! ===== the strip ===== -/
def notL (nf : Nat → Int) (f : Int) : Nat → Int → Int
  | 0, _ => 0
  | n + 1, j => if iI (nf j.toNat) = iI f then 1 else notL nf f n (j + 1)
theorem notL_s (nf : Nat → Int) (f : Int) (n : Nat) (j : Int) : notL nf f (n + 1) j = if iI (nf j.toNat) = iI f then 1 else notL nf f n (j + 1) := rfl
theorem notL_b (nf : Nat → Int) (f : Int) : ∀ (n : Nat) (j : Int), notL nf f n j = 0 ∨ notL nf f n j = 1 := by
  intro n
  induction n with
  | zero => intro j; exact Or.inl rfl
  | succ n ih =>
    intro j
    rw [notL_s]
    split
    · exact Or.inr rfl
    · exact ih _

set_option maxHeartbeats 4000000 in
set_option maxRecDepth 100000 in
theorem c_X5_firstLike (l : Launch) (D : va_G) (gi gc gr : ClassId) (d : Nat) (r2 : Nat) (n1 : Nat) (n2 : Nat) (sg : Nat) (nn : Int) (r : Nat) (a : Nat) (t : Int) (g : Nat → Int) (f : Int) (ht : 0 ≤ t ∧ t ≤ 60) (hf : 0 ≤ f ∧ f < t) : Met l yX5_firstLike wsX5_firstLike { frames := 1, cells := 0, slots := 0, locals := 21 } (zPr D gi gc gr [(d, .inr (4, [.ref r, .ref r2, .ref n1, .ref n2, .ref sg, .int (iI nn)])), (r, .inr (3, [.ref a, .int (iI t)])), (a, aI gi 60 g)] [.ref d, .int (iI f)]) (vp_Si (fun v => ∃ z : Int, v = iI z ∧ (0 ≤ z ∧ z ≤ f))) 0 0 (fun _ => False) := by
  refine zt_metRi (own := RX5) (cc := cX5_firstLike) (maxL := 3) (by decide) rfl rfl (Nat.le_of_ble_eq_true rfl) ?_
  intro p e s m args below meth c Q C hK hP hQ ls hl
  have hx := C.1
  have hb := C.2.1
  have hml := C.2.2.1
  have hown := C.2.2.2.1
  have hts := C.2.2.2.2
  have i5 : ∀ w ∈ u_ws RX5 TX5 6, w ∈ wsX5_firstLike := by decide +kernel
  have f14 := hts (.fieldLink RX5 14 "Threetwo$Strip" "looks" "LThreetwo$Row;") (by decide +kernel)
  have hl : lv_has ls 3 [(0, .ref d), (1, .int (iI f))] := hl
  refine lv_iconst (v := iI (0)) hx hb dX5_firstLike_0 (by decide +kernel) ?_
  refine lv_istore_n (lv' := [(2, .int (iI 0)), (0, .ref d), (1, .int (iI f))]) hx hb dX5_firstLike_1 rfl hl (by decide) rfl (fun ls hl => ?_)
  have loop_2 : ∀ (n_2 : Nat) (j : Int) (hj : 0 ≤ j ∧ j ≤ f) (hm_2 : f - j < (n_2 : Int)) (ls : Array Slot) (hl : lv_has ls 3 [(0, .ref d), (1, .int (iI f)), (2, .int (iI j))]), W p l e { frames := 1, cells := 0, slots := 0, locals := 21 } s m args below meth c s.heap [] 0 0 Q (F0 m 2 ls []) := by
    intro n_2
    induction n_2 with
    | zero => intro j hj hm_2 ls hl; exact absurd hm_2 (by omega)
    | succ n_2 ih_2 =>
      intro j hj hm_2 ls hl
      refine lv_iload_n hx hb dX5_firstLike_2 rfl (lv_at hl 2 rfl) ?_
      refine lv_iload_n hx hb dX5_firstLike_3 rfl (lv_at hl 1 rfl) ?_
      refine zt_icmp_ge (tgt := 32) hx hb dX5_firstLike_4 (by decide) (by omega) (fun c_1 => ?_) (fun c_1 => ?_)
      · refine lv_iload_n hx hb dX5_firstLike_32 rfl (lv_at hl 2 rfl) ?_
        exact hQ _ _ _ (⟨_, rfl, by omega⟩) dX5_firstLike_33
      · refine lv_aload_n hx hb dX5_firstLike_7 rfl (lv_at hl 0 rfl) ?_
        refine va_get (D := D) (ci := 4) (v := .ref r) (C := RX5) (T := TX5) (N := 6) hx hb hts i5 hown hK.1 hP 0 rfl rfl 0 (by decide) f14 (fun _ h9 => h9) rfl dX5_firstLike_8 ?_
        refine lv_iload_n hx hb dX5_firstLike_11 rfl (lv_at hl 2 rfl) ?_
        refine zt_callV C (As := [.int (iI j)]) (rest := []) (c_X4_at l D gi gc gr r a 60 t g j (by first | omega | assumption) (by first | omega | assumption) (by first | omega | assumption)) (cwV 1 hts gX5_firstLike_X4_at rfl rfl rfl (by decide +kernel) ⟨Nat.le_of_ble_eq_true rfl, Nat.le_of_ble_eq_true rfl⟩) (zt_preV hK (hP.sub (ws' := [(r, .inr (3, [.ref a, .int (iI t)])), (a, aI gi 60 g)]) [1, 2] rfl) [.int (iI j)] 0 rfl rfl) rfl hl.1 rfl (Nat.le_of_ble_eq_true rfl) dX5_firstLike_12 ⟨Nat.le_of_ble_eq_true rfl, Nat.le_of_ble_eq_true rfl⟩ (fun r_2 hr_2 => ?_)
        obtain rfl := hr_2
        refine lv_aload_n hx hb dX5_firstLike_15 rfl (lv_at hl 0 rfl) ?_
        refine va_get (D := D) (ci := 4) (v := .ref r) (C := RX5) (T := TX5) (N := 6) hx hb hts i5 hown hK.1 hP 0 rfl rfl 0 (by decide) f14 (fun _ h9 => h9) rfl dX5_firstLike_16 ?_
        refine lv_iload_n hx hb dX5_firstLike_19 rfl (lv_at hl 1 rfl) ?_
        refine zt_callV C (As := [.int (iI f)]) (rest := [.int (iI (g j.toNat))]) (c_X4_at l D gi gc gr r a 60 t g f (by first | omega | assumption) (by first | omega | assumption) (by first | omega | assumption)) (cwV 1 hts gX5_firstLike_X4_at rfl rfl rfl (by decide +kernel) ⟨Nat.le_of_ble_eq_true rfl, Nat.le_of_ble_eq_true rfl⟩) (zt_preV hK (hP.sub (ws' := [(r, .inr (3, [.ref a, .int (iI t)])), (a, aI gi 60 g)]) [1, 2] rfl) [.int (iI f)] 0 rfl rfl) rfl hl.1 rfl (Nat.le_of_ble_eq_true rfl) dX5_firstLike_20 ⟨Nat.le_of_ble_eq_true rfl, Nat.le_of_ble_eq_true rfl⟩ (fun r_3 hr_3 => ?_)
        obtain rfl := hr_3
        refine lv_icmp_eq (tgt := 32) hx hb dX5_firstLike_23 (by decide) (fun c_4 => ?_) (fun c_4 => ?_)
        · refine lv_iload_n hx hb dX5_firstLike_32 rfl (lv_at hl 2 rfl) ?_
          exact hQ _ _ _ (⟨_, rfl, by omega⟩) dX5_firstLike_33
        · refine lv_iinc (v := iI (j + 1)) (lv' := [(2, .int (iI (j + 1))), (0, .ref d), (1, .int (iI f))]) hx hb dX5_firstLike_26 hl (k := 2) rfl (iI_add _ _) (by decide) rfl (fun ls hl => ?_)
          refine lv_goto (tgt := 2) hx hb dX5_firstLike_29 (by decide) ?_
          exact ih_2 (j + 1) (by omega) (by omega) ls (lv_sub hl [1, 2, 0] rfl)
  exact loop_2 ((f - 0 : Int).toNat + 1) 0 (by omega) (by omega) ls (lv_sub hl [1, 2, 0] rfl)
set_option maxHeartbeats 16000000 in
set_option maxRecDepth 100000 in
theorem c_X5_nameLooks (l : Launch) (D : va_G) (gi gc gr : ClassId) (sz : Nat) (d : Nat) (r2 : Nat) (n1 : Nat) (n2 : Nat) (sg : Nat) (nn : Int) (r : Nat) (a : Nat) (t : Int) (g : Nat → Int) (sf : Nat → Int32) (ht : 0 ≤ t ∧ t ≤ 60) : Met l yX5_nameLooks wsX5_nameLooks { frames := 2, cells := 0, slots := 0, locals := 43 } (zPw D gi gc gr [(d, .inr (4, [.ref r, .ref r2, .ref n1, .ref n2, .ref sg, .int (iI nn)])), (r, .inr (3, [.ref a, .int (iI t)])), (a, aI gi 60 g), (sg, .inl (gc, 60, .inl sf))] sz [.ref d]) (va_Qi (S := Nat → Int32) (fun v _ => v = iI t) (zB D (va_A [(d, .inr (4, [.ref r, .ref r2, .ref n1, .ref n2, .ref sg, .int (iI nn)])), (r, .inr (3, [.ref a, .int (iI t)])), (a, aI gi 60 g), (sg, .inl (gc, 60, .inl sf))] sz) (fun u => [(d, .inr (4, [.ref r, .ref r2, .ref n1, .ref n2, .ref sg, .int (iI nn)])), (r, .inr (3, [.ref a, .int (iI t)])), (a, aI gi 60 g), (sg, .inl (gc, 60, .inl u))])) (va_A [(d, .inr (4, [.ref r, .ref r2, .ref n1, .ref n2, .ref sg, .int (iI nn)])), (r, .inr (3, [.ref a, .int (iI t)])), (a, aI gi 60 g), (sg, .inl (gc, 60, .inl sf))] sz)) 0 0 (va_A [(d, .inr (4, [.ref r, .ref r2, .ref n1, .ref n2, .ref sg, .int (iI nn)])), (r, .inr (3, [.ref a, .int (iI t)])), (a, aI gi 60 g), (sg, .inl (gc, 60, .inl sf))] sz) := by
  refine zt_metWi (own := RX5) (cc := cX5_nameLooks) (maxL := 4) (by decide) rfl rfl (Nat.le_of_ble_eq_true rfl) ?_
  intro p e s m args below meth c Q A C hK hP hD hS hA _ hQ ls hl
  have hx := C.1
  have hb := C.2.1
  have hml := C.2.2.1
  have hown := C.2.2.2.1
  have hts := C.2.2.2.2
  have i5 : ∀ w ∈ u_ws RX5 TX5 6, w ∈ wsX5_nameLooks := by decide +kernel
  have f14 := hts (.fieldLink RX5 14 "Threetwo$Strip" "looks" "LThreetwo$Row;") (by decide +kernel)
  have f30 := hts (.fieldLink RX5 30 "Threetwo$Strip" "signs" "[C") (by decide +kernel)
  have hl : lv_has ls 4 [(0, .ref d)] := hl
  refine lv_iconst (v := iI (0)) hx hb dX5_nameLooks_0 (by decide +kernel) ?_
  refine lv_istore_n (lv' := [(1, .int (iI 0)), (0, .ref d)]) hx hb dX5_nameLooks_1 rfl hl (by decide) rfl (fun ls hl => ?_)
  refine lv_iconst (v := iI (0)) hx hb dX5_nameLooks_2 (by decide +kernel) ?_
  refine lv_istore_n (lv' := [(2, .int (iI 0)), (1, .int (iI 0)), (0, .ref d)]) hx hb dX5_nameLooks_3 rfl hl (by decide) rfl (fun ls hl => ?_)
  have loop_4 : ∀ (n_4 : Nat) (y : Int) (j : Int) (s1 : Nat → Int32) (hj : 0 ≤ j ∧ j ≤ t) (hy : 0 ≤ y ∧ y ≤ j) (hm_4 : t - j < (n_4 : Int)) (H : Heap) (locs : List Loc) (hP : va_P D vwCl [(d, .inr (4, [.ref r, .ref r2, .ref n1, .ref n2, .ref sg, .int (iI nn)])), (r, .inr (3, [.ref a, .int (iI t)])), (a, aI gi 60 g), (sg, .inl (gc, 60, .inl s1))] H) (hD : va_D A [(d, .inr (4, [.ref r, .ref r2, .ref n1, .ref n2, .ref sg, .int (iI nn)])), (r, .inr (3, [.ref a, .int (iI t)])), (a, aI gi 60 g), (sg, .inl (gc, 60, .inl s1))]) (hS : va_S A s.heap H locs) (ls : Array Slot) (hl : lv_has ls 4 [(0, .ref d), (1, .int (iI y)), (2, .int (iI j))]), W p l e { frames := 2, cells := 0, slots := 0, locals := 43 } s m args below meth c H locs 0 0 Q (F0 m 4 ls []) := by
    intro n_4
    induction n_4 with
    | zero => intro y j s1 hj hy hm_4 H locs hP hD hS ls hl; exact absurd hm_4 (by omega)
    | succ n_4 ih_4 =>
      intro y j s1 hj hy hm_4 H locs hP hD hS ls hl
      refine lv_iload_n hx hb dX5_nameLooks_4 rfl (lv_at hl 2 rfl) ?_
      refine lv_aload_n hx hb dX5_nameLooks_5 rfl (lv_at hl 0 rfl) ?_
      refine va_get (D := D) (ci := 4) (v := .ref r) (C := RX5) (T := TX5) (N := 6) hx hb hts i5 hown hK.1 hP 0 rfl rfl 0 (by decide) f14 (fun _ h9 => h9) rfl dX5_nameLooks_6 ?_
      refine zt_callV C (As := []) (rest := [.int (iI j)]) (c_X4_many l D gi gc gr r a t) (cwV 0 hts gX5_nameLooks_X4_many rfl rfl rfl (by decide +kernel) ⟨Nat.le_of_ble_eq_true rfl, Nat.le_of_ble_eq_true rfl⟩) (zt_preV hK (hP.sub (ws' := [(r, .inr (3, [.ref a, .int (iI t)]))]) [1] rfl) [] 0 rfl rfl) rfl hl.1 rfl (Nat.le_of_ble_eq_true rfl) dX5_nameLooks_9 ⟨Nat.le_of_ble_eq_true rfl, Nat.le_of_ble_eq_true rfl⟩ (fun r_1 hr_1 => ?_)
      obtain rfl := hr_1
      refine zt_icmp_ge (tgt := 72) hx hb dX5_nameLooks_12 (by decide) (by omega) (fun c_2 => ?_) (fun c_2 => ?_)
      · refine lv_aload_n hx hb dX5_nameLooks_72 rfl (lv_at hl 0 rfl) ?_
        refine va_get (D := D) (ci := 4) (v := .ref r) (C := RX5) (T := TX5) (N := 6) hx hb hts i5 hown hK.1 hP 0 rfl rfl 0 (by decide) f14 (fun _ h9 => h9) rfl dX5_nameLooks_73 ?_
        refine zt_callV C (As := []) (rest := []) (c_X4_many l D gi gc gr r a t) (cwV 0 hts gX5_nameLooks_X4_many rfl rfl rfl (by decide +kernel) ⟨Nat.le_of_ble_eq_true rfl, Nat.le_of_ble_eq_true rfl⟩) (zt_preV hK (hP.sub (ws' := [(r, .inr (3, [.ref a, .int (iI t)]))]) [1] rfl) [] 0 rfl rfl) rfl hl.1 rfl (Nat.le_of_ble_eq_true rfl) dX5_nameLooks_76 ⟨Nat.le_of_ble_eq_true rfl, Nat.le_of_ble_eq_true rfl⟩ (fun r_3 hr_3 => ?_)
        obtain rfl := hr_3
        exact hQ s1 _ _ _ _ _ (rfl) hP hD hS dX5_nameLooks_79
      · refine lv_aload_n hx hb dX5_nameLooks_15 rfl (lv_at hl 0 rfl) ?_
        refine lv_iload_n hx hb dX5_nameLooks_16 rfl (lv_at hl 2 rfl) ?_
        refine zt_callV C (As := [.int (iI j)]) (rest := []) (c_X5_firstLike l D gi gc gr d r2 n1 n2 sg nn r a t g j (by first | omega | assumption) (by first | omega | assumption)) (cwV 1 hts gX5_nameLooks_X5_firstLike rfl rfl rfl (by decide +kernel) ⟨Nat.le_of_ble_eq_true rfl, Nat.le_of_ble_eq_true rfl⟩) (zt_preV hK (hP.sub (ws' := [(d, .inr (4, [.ref r, .ref r2, .ref n1, .ref n2, .ref sg, .int (iI nn)])), (r, .inr (3, [.ref a, .int (iI t)])), (a, aI gi 60 g)]) [0, 1, 2] rfl) [.int (iI j)] 0 rfl rfl) rfl hl.1 rfl (Nat.le_of_ble_eq_true rfl) dX5_nameLooks_17 ⟨Nat.le_of_ble_eq_true rfl, Nat.le_of_ble_eq_true rfl⟩ (fun r_4 hr_4 => ?_)
        obtain ⟨z_5, rfl, hz_5⟩ := hr_4
        refine lv_istore_n (lv' := [(3, .int (iI z_5)), (0, .ref d), (1, .int (iI y)), (2, .int (iI j))]) hx hb dX5_nameLooks_20 rfl hl (by decide) rfl (fun ls hl => ?_)
        refine lv_iload_n hx hb dX5_nameLooks_21 rfl (lv_at hl 0 rfl) ?_
        refine lv_iload_n hx hb dX5_nameLooks_22 rfl (lv_at hl 3 rfl) ?_
        refine zt_icmp_ge (tgt := 41) hx hb dX5_nameLooks_23 (by decide) (by omega) (fun c_6 => ?_) (fun c_6 => ?_)
        · refine lv_aload_n hx hb dX5_nameLooks_41 rfl (lv_at hl 1 rfl) ?_
          refine va_get (D := D) (ci := 4) (v := .ref sg) (C := RX5) (T := TX5) (N := 6) hx hb hts i5 hown hK.1 hP 0 rfl rfl 4 (by decide) f30 (fun _ h9 => h9) rfl dX5_nameLooks_42 ?_
          refine lv_iload_n hx hb dX5_nameLooks_45 rfl (lv_at hl 3 rfl) ?_
          refine lv_iload_n hx hb dX5_nameLooks_46 rfl (lv_at hl 2 rfl) ?_
          refine lv_bipush (v := iI (26)) hx hb dX5_nameLooks_47 (by decide +kernel) ?_
          refine zt_icmp_ge (tgt := 60) hx hb dX5_nameLooks_49 (by decide) (by omega) (fun c_7 => ?_) (fun c_7 => ?_)
          · refine lv_bipush (v := iI (63)) hx hb dX5_nameLooks_60 (by decide +kernel) ?_
            refine zt_cast hx hb hK.1 hP hD hS 3 1 rfl rfl (by omega) (by omega) dX5_nameLooks_62 (fun f_8 H locs hP hD hS => ?_)
            have hP : va_P D vwCl [(d, .inr (4, [.ref r, .ref r2, .ref n1, .ref n2, .ref sg, .int (iI nn)])), (r, .inr (3, [.ref a, .int (iI t)])), (a, aI gi 60 g), (sg, .inl (gc, 60, .inl f_8))] H := hP
            have hD : va_D A [(d, .inr (4, [.ref r, .ref r2, .ref n1, .ref n2, .ref sg, .int (iI nn)])), (r, .inr (3, [.ref a, .int (iI t)])), (a, aI gi 60 g), (sg, .inl (gc, 60, .inl f_8))] := hD
            refine lv_iinc (v := iI (y + 1)) (lv' := [(1, .int (iI (y + 1))), (3, .int (iI z_5)), (0, .ref d), (2, .int (iI j))]) hx hb dX5_nameLooks_63 hl (k := 2) rfl (iI_add _ _) (by decide) rfl (fun ls hl => ?_)
            refine lv_iinc (v := iI (j + 1)) (lv' := [(2, .int (iI (j + 1))), (1, .int (iI (y + 1))), (3, .int (iI z_5)), (0, .ref d)]) hx hb dX5_nameLooks_66 hl (k := 3) rfl (iI_add _ _) (by decide) rfl (fun ls hl => ?_)
            refine lv_goto (tgt := 4) hx hb dX5_nameLooks_69 (by decide) ?_
            exact ih_4 (y + 1) (j + 1) f_8 (by omega) (by omega) (by omega) H locs hP hD hS ls (lv_sub hl [3, 1, 0] rfl)
          · refine lv_bipush (v := iI (97)) hx hb dX5_nameLooks_52 (by decide +kernel) ?_
            refine lv_iload_n hx hb dX5_nameLooks_54 rfl (lv_at hl 2 rfl) ?_
            refine zt_iadd hx hb dX5_nameLooks_55 ?_
            refine lv_i2c hx hb dX5_nameLooks_56 rfl ?_
            refine lv_topi (fun y_9 _ => ?_)
            refine lv_goto (tgt := 62) hx hb dX5_nameLooks_57 (by decide) ?_
            refine zt_cast hx hb hK.1 hP hD hS 3 1 rfl rfl (by omega) (by omega) dX5_nameLooks_62 (fun f_10 H locs hP hD hS => ?_)
            have hP : va_P D vwCl [(d, .inr (4, [.ref r, .ref r2, .ref n1, .ref n2, .ref sg, .int (iI nn)])), (r, .inr (3, [.ref a, .int (iI t)])), (a, aI gi 60 g), (sg, .inl (gc, 60, .inl f_10))] H := hP
            have hD : va_D A [(d, .inr (4, [.ref r, .ref r2, .ref n1, .ref n2, .ref sg, .int (iI nn)])), (r, .inr (3, [.ref a, .int (iI t)])), (a, aI gi 60 g), (sg, .inl (gc, 60, .inl f_10))] := hD
            refine lv_iinc (v := iI (y + 1)) (lv' := [(1, .int (iI (y + 1))), (3, .int (iI z_5)), (0, .ref d), (2, .int (iI j))]) hx hb dX5_nameLooks_63 hl (k := 2) rfl (iI_add _ _) (by decide) rfl (fun ls hl => ?_)
            refine lv_iinc (v := iI (j + 1)) (lv' := [(2, .int (iI (j + 1))), (1, .int (iI (y + 1))), (3, .int (iI z_5)), (0, .ref d)]) hx hb dX5_nameLooks_66 hl (k := 3) rfl (iI_add _ _) (by decide) rfl (fun ls hl => ?_)
            refine lv_goto (tgt := 4) hx hb dX5_nameLooks_69 (by decide) ?_
            exact ih_4 (y + 1) (j + 1) f_10 (by omega) (by omega) (by omega) H locs hP hD hS ls (lv_sub hl [3, 1, 0] rfl)
        · refine lv_aload_n hx hb dX5_nameLooks_26 rfl (lv_at hl 1 rfl) ?_
          refine va_get (D := D) (ci := 4) (v := .ref sg) (C := RX5) (T := TX5) (N := 6) hx hb hts i5 hown hK.1 hP 0 rfl rfl 4 (by decide) f30 (fun _ h9 => h9) rfl dX5_nameLooks_27 ?_
          refine lv_iload_n hx hb dX5_nameLooks_30 rfl (lv_at hl 3 rfl) ?_
          refine lv_aload_n hx hb dX5_nameLooks_31 rfl (lv_at hl 1 rfl) ?_
          refine va_get (D := D) (ci := 4) (v := .ref sg) (C := RX5) (T := TX5) (N := 6) hx hb hts i5 hown hK.1 hP 0 rfl rfl 4 (by decide) f30 (fun _ h9 => h9) rfl dX5_nameLooks_32 ?_
          refine lv_iload_n hx hb dX5_nameLooks_35 rfl (lv_at hl 0 rfl) ?_
          refine zt_cald hx hb hK.1 hP 3 1 rfl rfl (by omega) (by omega) dX5_nameLooks_36 (fun y_11 => ?_)
          refine zt_cast hx hb hK.1 hP hD hS 3 1 rfl rfl (by omega) (by omega) dX5_nameLooks_37 (fun f_12 H locs hP hD hS => ?_)
          have hP : va_P D vwCl [(d, .inr (4, [.ref r, .ref r2, .ref n1, .ref n2, .ref sg, .int (iI nn)])), (r, .inr (3, [.ref a, .int (iI t)])), (a, aI gi 60 g), (sg, .inl (gc, 60, .inl f_12))] H := hP
          have hD : va_D A [(d, .inr (4, [.ref r, .ref r2, .ref n1, .ref n2, .ref sg, .int (iI nn)])), (r, .inr (3, [.ref a, .int (iI t)])), (a, aI gi 60 g), (sg, .inl (gc, 60, .inl f_12))] := hD
          refine lv_goto (tgt := 66) hx hb dX5_nameLooks_38 (by decide) ?_
          refine lv_iinc (v := iI (j + 1)) (lv' := [(2, .int (iI (j + 1))), (3, .int (iI z_5)), (0, .ref d), (1, .int (iI y))]) hx hb dX5_nameLooks_66 hl (k := 3) rfl (iI_add _ _) (by decide) rfl (fun ls hl => ?_)
          refine lv_goto (tgt := 4) hx hb dX5_nameLooks_69 (by decide) ?_
          exact ih_4 y (j + 1) f_12 (by omega) (by omega) (by omega) H locs hP hD hS ls (lv_sub hl [2, 3, 0] rfl)
  exact loop_4 ((t - 0 : Int).toNat + 1) 0 0 sf (by omega) (by omega) (by omega) s.heap [] hP hD hS ls (lv_sub hl [2, 1, 0] rfl)
set_option maxHeartbeats 4000000 in
set_option maxRecDepth 100000 in
theorem c_X5_isNoted (l : Launch) (D : va_G) (gi gc gr : ClassId) (d : Nat) (r2 : Nat) (n1 : Nat) (n2 : Nat) (sg : Nat) (nn : Int) (r : Nat) (nf : Nat → Int) (f : Int) (hnn : 0 ≤ nn ∧ nn ≤ 512) : Met l yX5_isNoted wsX5_isNoted { frames := 0, cells := 0, slots := 0, locals := 0 } (zPr D gi gc gr [(d, .inr (4, [.ref r, .ref r2, .ref n1, .ref n2, .ref sg, .int (iI nn)])), (n1, aI gi 512 nf)] [.ref d, .int (iI f)]) (vp_Si (fun v => v = iI (notL nf f nn.toNat 0))) 0 0 (fun _ => False) := by
  refine zt_metRz (own := RX5) (cc := cX5_isNoted) (maxL := 3) (by decide) rfl rfl (Nat.le_of_ble_eq_true rfl) ?_
  intro p e s m args below meth c Q C hK hP hQ ls hl
  have hx := C.1
  have hb := C.2.1
  have hml := C.2.2.1
  have hown := C.2.2.2.1
  have hts := C.2.2.2.2
  have i5 : ∀ w ∈ u_ws RX5 TX5 6, w ∈ wsX5_isNoted := by decide +kernel
  have f23 := hts (.fieldLink RX5 23 "Threetwo$Strip" "noteFields" "[I") (by decide +kernel)
  have f34 := hts (.fieldLink RX5 34 "Threetwo$Strip" "notes" "I") (by decide +kernel)
  have hl : lv_has ls 3 [(0, .ref d), (1, .int (iI f))] := hl
  refine lv_iconst (v := iI (0)) hx hb dX5_isNoted_0 (by decide +kernel) ?_
  refine lv_istore_n (lv' := [(2, .int (iI 0)), (0, .ref d), (1, .int (iI f))]) hx hb dX5_isNoted_1 rfl hl (by decide) rfl (fun ls hl => ?_)
  have loop_2 : ∀ (n_2 : Nat) (j : Int) (hj : 0 ≤ j ∧ j ≤ nn) (hf : notL nf f nn.toNat 0 = notL nf f (nn - j).toNat j) (hm_2 : nn - j < (n_2 : Int)) (ls : Array Slot) (hl : lv_has ls 3 [(0, .ref d), (1, .int (iI f)), (2, .int (iI j))]), W p l e { frames := 0, cells := 0, slots := 0, locals := 0 } s m args below meth c s.heap [] 0 0 Q (F0 m 2 ls []) := by
    intro n_2
    induction n_2 with
    | zero => intro j hj hf hm_2 ls hl; exact absurd hm_2 (by omega)
    | succ n_2 ih_2 =>
      intro j hj hf hm_2 ls hl
      refine lv_iload_n hx hb dX5_isNoted_2 rfl (lv_at hl 2 rfl) ?_
      refine lv_aload_n hx hb dX5_isNoted_3 rfl (lv_at hl 0 rfl) ?_
      refine va_get (D := D) (ci := 4) (v := .int (iI nn)) (C := RX5) (T := TX5) (N := 6) hx hb hts i5 hown hK.1 hP 0 rfl rfl 5 (by decide) f34 (fun _ h9 => h9) rfl dX5_isNoted_4 ?_
      refine zt_icmp_ge (tgt := 28) hx hb dX5_isNoted_7 (by decide) (by omega) (fun c_1 => ?_) (fun c_1 => ?_)
      · refine lv_iconst (v := iI (0)) hx hb dX5_isNoted_28 (by decide +kernel) ?_
        exact hQ _ _ _ (by first | rfl | decide +kernel) (congrArg iI (by rw [hf, show (nn - j).toNat = 0 by omega]; rfl)) dX5_isNoted_29
      · refine lv_aload_n hx hb dX5_isNoted_10 rfl (lv_at hl 0 rfl) ?_
        refine va_get (D := D) (ci := 4) (v := .ref n1) (C := RX5) (T := TX5) (N := 6) hx hb hts i5 hown hK.1 hP 0 rfl rfl 2 (by decide) f23 (fun _ h9 => h9) rfl dX5_isNoted_11 ?_
        refine lv_iload_n hx hb dX5_isNoted_14 rfl (lv_at hl 2 rfl) ?_
        refine zt_iald hx hb hK.1 hP 1 0 rfl rfl (by omega) (by omega) dX5_isNoted_15 ?_
        refine lv_iload_n hx hb dX5_isNoted_16 rfl (lv_at hl 1 rfl) ?_
        refine lv_icmp_ne (tgt := 22) hx hb dX5_isNoted_17 (by decide) (fun c_2 => ?_) (fun c_2 => ?_)
        · refine lv_iinc (v := iI (j + 1)) (lv' := [(2, .int (iI (j + 1))), (0, .ref d), (1, .int (iI f))]) hx hb dX5_isNoted_22 hl (k := 2) rfl (iI_add _ _) (by decide) rfl (fun ls hl => ?_)
          refine lv_goto (tgt := 2) hx hb dX5_isNoted_25 (by decide) ?_
          exact ih_2 (j + 1) (by omega) (by rw [hf, show (nn - j).toNat = (nn - (j + 1)).toNat + 1 by omega, notL_s, if_neg c_2]) (by omega) ls (lv_sub hl [1, 2, 0] rfl)
        · refine lv_iconst (v := iI (1)) hx hb dX5_isNoted_20 (by decide +kernel) ?_
          exact hQ _ _ _ (by first | rfl | decide +kernel) (congrArg iI (by rw [hf, show (nn - j).toNat = (nn - (j + 1)).toNat + 1 by omega, notL_s, if_pos c_2])) dX5_isNoted_21
  exact loop_2 ((nn - 0 : Int).toNat + 1) 0 (by omega) (by rw [show nn - 0 = nn by omega]) (by omega) ls (lv_sub hl [1, 2, 0] rfl)
set_option maxHeartbeats 4000000 in
set_option maxRecDepth 100000 in
theorem c_X5_cutOut (l : Launch) (D : va_G) (gi gc gr : ClassId) (sz : Nat) (d : Nat) (r2 : Nat) (n1 : Nat) (n2 : Nat) (sg : Nat) (nn : Int) (r : Nat) (a : Nat) (t : Int) (g : Nat → Int) (i : Int) (x : Int) (ht : 0 ≤ t ∧ t ≤ 60) (hi : -2147483648 ≤ i ∧ i < 2147483648) (hx0 : -2147483648 ≤ x ∧ x < 2147483648) : Met l yX5_cutOut wsX5_cutOut { frames := 2, cells := 0, slots := 0, locals := 44 } (zPw D gi gc gr [(d, .inr (4, [.ref r, .ref r2, .ref n1, .ref n2, .ref sg, .int (iI nn)])), (r, .inr (3, [.ref a, .int (iI t)])), (a, aI gi 60 g)] sz [.ref d, .int (iI i), .int (iI x)]) (va_Qv (S := Int × (Nat → Int)) (fun u => 0 ≤ u.1 ∧ u.1 ≤ t) (zB D (va_A [(d, .inr (4, [.ref r, .ref r2, .ref n1, .ref n2, .ref sg, .int (iI nn)])), (r, .inr (3, [.ref a, .int (iI t)])), (a, aI gi 60 g)] sz) (fun u => [(d, .inr (4, [.ref r, .ref r2, .ref n1, .ref n2, .ref sg, .int (iI 0)])), (r, .inr (3, [.ref a, .int (iI u.1)])), (a, aI gi 60 u.2)])) (va_A [(d, .inr (4, [.ref r, .ref r2, .ref n1, .ref n2, .ref sg, .int (iI nn)])), (r, .inr (3, [.ref a, .int (iI t)])), (a, aI gi 60 g)] sz)) 0 0 (va_A [(d, .inr (4, [.ref r, .ref r2, .ref n1, .ref n2, .ref sg, .int (iI nn)])), (r, .inr (3, [.ref a, .int (iI t)])), (a, aI gi 60 g)] sz) := by
  refine zt_metWv (own := RX5) (cc := cX5_cutOut) (maxL := 3) (by decide) rfl rfl (Nat.le_of_ble_eq_true rfl) ?_
  intro p e s m args below meth c Q A C hK hP hD hS hA _ hQ ls hl
  have hx := C.1
  have hb := C.2.1
  have hml := C.2.2.1
  have hown := C.2.2.2.1
  have hts := C.2.2.2.2
  have i5 : ∀ w ∈ u_ws RX5 TX5 6, w ∈ wsX5_cutOut := by decide +kernel
  have f14 := hts (.fieldLink RX5 14 "Threetwo$Strip" "looks" "LThreetwo$Row;") (by decide +kernel)
  have f34 := hts (.fieldLink RX5 34 "Threetwo$Strip" "notes" "I") (by decide +kernel)
  have hl : lv_has ls 3 [(0, .ref d), (1, .int (iI i)), (2, .int (iI x))] := hl
  refine lv_aload_n hx hb dX5_cutOut_0 rfl (lv_at hl 0 rfl) ?_
  refine va_get (D := D) (ci := 4) (v := .ref r) (C := RX5) (T := TX5) (N := 6) hx hb hts i5 hown hK.1 hP 0 rfl rfl 0 (by decide) f14 (fun _ h9 => h9) rfl dX5_cutOut_1 ?_
  refine lv_iload_n hx hb dX5_cutOut_4 rfl (lv_at hl 1 rfl) ?_
  refine lv_iload_n hx hb dX5_cutOut_5 rfl (lv_at hl 2 rfl) ?_
  have hPc := hP.sub (ws' := [(r, .inr (3, [.ref a, .int (iI t)])), (a, aI gi 60 g)]) [1, 2] rfl
  have hDc := hD.sub (ws' := [(r, .inr (3, [.ref a, .int (iI t)])), (a, aI gi 60 g)]) [1, 2] (by decide) rfl
  have hFc := va_free (wc := [(r, .inr (3, [.ref a, .int (iI t)])), (a, aI gi 60 g)]) hD hS hA [1, 2] rfl
  refine va_callv (va_runV C (As := [.int (iI i), .int (iI x)]) (rest := []) (c_X4_remove l D gi gc gr s.heap.size r a 60 t g i x (by first | omega | assumption) (by first | omega | assumption) (by first | omega | assumption) (by first | omega | assumption)) (cwV 2 hts gX5_cutOut_X4_remove rfl rfl rfl (by decide +kernel) ⟨Nat.le_of_ble_eq_true rfl, Nat.le_of_ble_eq_true rfl⟩) (zt_preVw hK hPc hDc [.int (iI i), .int (iI x)] 0 rfl rfl) rfl rfl hl.1 rfl (lv_room (Nat.le_of_ble_eq_true rfl)) dX5_cutOut_6 ⟨Nat.le_of_ble_eq_true rfl, Nat.le_of_ble_eq_true rfl⟩) hS (fun q _ h => hFc q h) hFc (fun u_r_1 T9 H1 locs hT9 hvm hw hB hz1 hk1 hS => ?_)
  obtain ⟨t_1, g_1⟩ := u_r_1
  dsimp only at hw
  obtain ⟨hP1, hD1⟩ := hB
  rw [hT9] at hP1
  obtain ⟨hP, hD⟩ := zt_back (w1 := [(r, .inr (3, [.ref a, .int (iI t_1)])), (a, aI gi 60 g_1)]) (wr := [(d, .inr (4, [.ref r, .ref r2, .ref n1, .ref n2, .ref sg, .int (iI nn)]))]) (wn := [(d, .inr (4, [.ref r, .ref r2, .ref n1, .ref n2, .ref sg, .int (iI nn)])), (r, .inr (3, [.ref a, .int (iI t_1)])), (a, aI gi 60 g_1)]) hP hD [1, 2] [0] [0, 1, 2] rfl rfl (by decide) (by decide) hk1 hFc hP1 hD1 rfl (by decide)
  generalize H1 = H at hP hS ⊢
  refine lv_aload_n hx hb dX5_cutOut_9 rfl (lv_at hl 0 rfl) ?_
  refine lv_iconst (v := iI (0)) hx hb dX5_cutOut_10 (by decide +kernel) ?_
  refine va_put (D := D) (ci := 4) (v := .int (iI 0)) (ty := .int) (C := RX5) (T := TX5) (N := 6) hx hb hts i5 tyX5 tyX5_ok nmX5 hown hK.1 hP hD hS 0 rfl rfl 5 (by decide) f34 (fun _ h9 => h9) rfl (by decide +kernel) rfl rfl (Nat.le_of_ble_eq_true rfl) dX5_cutOut_11 (fun H locs hP hD hS => ?_)
  have hP : va_P D vwCl [(d, .inr (4, [.ref r, .ref r2, .ref n1, .ref n2, .ref sg, .int (iI 0)])), (r, .inr (3, [.ref a, .int (iI t_1)])), (a, aI gi 60 g_1)] H := hP
  have hD : va_D A [(d, .inr (4, [.ref r, .ref r2, .ref n1, .ref n2, .ref sg, .int (iI 0)])), (r, .inr (3, [.ref a, .int (iI t_1)])), (a, aI gi 60 g_1)] := hD
  exact hQ (t_1, g_1) _ _ _ _ (hw) hP hD hS dX5_cutOut_14
set_option maxHeartbeats 4000000 in
set_option maxRecDepth 100000 in
theorem c_X5_note (l : Launch) (D : va_G) (gi gc gr : ClassId) (sz : Nat) (d : Nat) (r2 : Nat) (n1 : Nat) (n2 : Nat) (sg : Nat) (nn : Int) (r : Nat) (a : Nat) (t : Int) (g : Nat → Int) (nf : Nat → Int) (nl : Nat → Int) (f : Int) (x : Int) (ht : 0 ≤ t ∧ t ≤ 60) (hf : 0 ≤ f ∧ f < t) (hnn : 0 ≤ nn ∧ nn ≤ 512) : Met l yX5_note wsX5_note { frames := 2, cells := 0, slots := 0, locals := 43 } (zPw D gi gc gr [(d, .inr (4, [.ref r, .ref r2, .ref n1, .ref n2, .ref sg, .int (iI nn)])), (n1, aI gi 512 nf), (n2, aI gi 512 nl), (r, .inr (3, [.ref a, .int (iI t)])), (a, aI gi 60 g)] sz [.ref d, .int (iI f), .int (iI x)]) (va_Qv (S := Int × (Nat → Int) × (Nat → Int) × (Nat → Int)) (fun u => 0 ≤ u.1 ∧ u.1 ≤ 512) (zB D (va_A [(d, .inr (4, [.ref r, .ref r2, .ref n1, .ref n2, .ref sg, .int (iI nn)])), (n1, aI gi 512 nf), (n2, aI gi 512 nl), (r, .inr (3, [.ref a, .int (iI t)])), (a, aI gi 60 g)] sz) (fun u => [(d, .inr (4, [.ref r, .ref r2, .ref n1, .ref n2, .ref sg, .int (iI u.1)])), (n1, aI gi 512 u.2.1), (n2, aI gi 512 u.2.2.1), (r, .inr (3, [.ref a, .int (iI t)])), (a, aI gi 60 u.2.2.2)])) (va_A [(d, .inr (4, [.ref r, .ref r2, .ref n1, .ref n2, .ref sg, .int (iI nn)])), (n1, aI gi 512 nf), (n2, aI gi 512 nl), (r, .inr (3, [.ref a, .int (iI t)])), (a, aI gi 60 g)] sz)) 0 0 (va_A [(d, .inr (4, [.ref r, .ref r2, .ref n1, .ref n2, .ref sg, .int (iI nn)])), (n1, aI gi 512 nf), (n2, aI gi 512 nl), (r, .inr (3, [.ref a, .int (iI t)])), (a, aI gi 60 g)] sz) := by
  refine zt_metWv (own := RX5) (cc := cX5_note) (maxL := 3) (by decide) rfl rfl (Nat.le_of_ble_eq_true rfl) ?_
  intro p e s m args below meth c Q A C hK hP hD hS hA _ hQ ls hl
  have hx := C.1
  have hb := C.2.1
  have hml := C.2.2.1
  have hown := C.2.2.2.1
  have hts := C.2.2.2.2
  have i5 : ∀ w ∈ u_ws RX5 TX5 6, w ∈ wsX5_note := by decide +kernel
  have f14 := hts (.fieldLink RX5 14 "Threetwo$Strip" "looks" "LThreetwo$Row;") (by decide +kernel)
  have f23 := hts (.fieldLink RX5 23 "Threetwo$Strip" "noteFields" "[I") (by decide +kernel)
  have f27 := hts (.fieldLink RX5 27 "Threetwo$Strip" "noteLooks" "[I") (by decide +kernel)
  have f34 := hts (.fieldLink RX5 34 "Threetwo$Strip" "notes" "I") (by decide +kernel)
  have hl : lv_has ls 3 [(0, .ref d), (1, .int (iI f)), (2, .int (iI x))] := hl
  refine lv_aload_n hx hb dX5_note_0 rfl (lv_at hl 0 rfl) ?_
  refine va_get (D := D) (ci := 4) (v := .int (iI nn)) (C := RX5) (T := TX5) (N := 6) hx hb hts i5 hown hK.1 hP 0 rfl rfl 5 (by decide) f34 (fun _ h9 => h9) rfl dX5_note_1 ?_
  refine lv_sipush (v := iI (512)) hx hb dX5_note_4 (by decide +kernel) ?_
  refine zt_icmp_ge (tgt := 47) hx hb dX5_note_7 (by decide) (by omega) (fun c_1 => ?_) (fun c_1 => ?_)
  · refine lv_aload_n hx hb dX5_note_47 rfl (lv_at hl 0 rfl) ?_
    refine va_get (D := D) (ci := 4) (v := .ref r) (C := RX5) (T := TX5) (N := 6) hx hb hts i5 hown hK.1 hP 0 rfl rfl 0 (by decide) f14 (fun _ h9 => h9) rfl dX5_note_48 ?_
    refine lv_iload_n hx hb dX5_note_51 rfl (lv_at hl 1 rfl) ?_
    refine lv_iload_n hx hb dX5_note_52 rfl (lv_at hl 2 rfl) ?_
    have hPc := hP.sub (ws' := [(r, .inr (3, [.ref a, .int (iI t)])), (a, aI gi 60 g)]) [3, 4] rfl
    have hDc := hD.sub (ws' := [(r, .inr (3, [.ref a, .int (iI t)])), (a, aI gi 60 g)]) [3, 4] (by decide) rfl
    have hFc := va_free (wc := [(r, .inr (3, [.ref a, .int (iI t)])), (a, aI gi 60 g)]) hD hS hA [3, 4] rfl
    refine va_callv (va_runV C (As := [.int (iI f), .int (iI x)]) (rest := []) (c_X4_put l D gi gc gr s.heap.size r a 60 t g f x (by first | omega | assumption) (by first | omega | assumption) (by first | omega | assumption)) (cwV 2 hts gX5_note_X4_put rfl rfl rfl (by decide +kernel) ⟨Nat.le_of_ble_eq_true rfl, Nat.le_of_ble_eq_true rfl⟩) (zt_preVw hK hPc hDc [.int (iI f), .int (iI x)] 0 rfl rfl) rfl rfl hl.1 rfl (lv_room (Nat.le_of_ble_eq_true rfl)) dX5_note_53 ⟨Nat.le_of_ble_eq_true rfl, Nat.le_of_ble_eq_true rfl⟩) hS (fun q _ h => hFc q h) hFc (fun u_r_2 T9 H1 locs hT9 hvm hw hB hz1 hk1 hS => ?_)
    obtain ⟨hP1, hD1⟩ := hB
    rw [hT9] at hP1
    obtain ⟨hP, hD⟩ := zt_back (w1 := [(r, .inr (3, [.ref a, .int (iI t)])), (a, aI gi 60 u_r_2)]) (wr := [(d, .inr (4, [.ref r, .ref r2, .ref n1, .ref n2, .ref sg, .int (iI nn)])), (n1, aI gi 512 nf), (n2, aI gi 512 nl)]) (wn := [(d, .inr (4, [.ref r, .ref r2, .ref n1, .ref n2, .ref sg, .int (iI nn)])), (n1, aI gi 512 nf), (n2, aI gi 512 nl), (r, .inr (3, [.ref a, .int (iI t)])), (a, aI gi 60 u_r_2)]) hP hD [3, 4] [0, 1, 2] [0, 1, 2, 3, 4] rfl rfl (by decide) (by decide) hk1 hFc hP1 hD1 rfl (by decide)
    generalize H1 = H at hP hS ⊢
    exact hQ (nn, nf, nl, u_r_2) _ _ _ _ (by constructor <;> dsimp only <;> omega) hP hD hS dX5_note_56
  · refine lv_aload_n hx hb dX5_note_10 rfl (lv_at hl 0 rfl) ?_
    refine va_get (D := D) (ci := 4) (v := .ref n1) (C := RX5) (T := TX5) (N := 6) hx hb hts i5 hown hK.1 hP 0 rfl rfl 2 (by decide) f23 (fun _ h9 => h9) rfl dX5_note_11 ?_
    refine lv_aload_n hx hb dX5_note_14 rfl (lv_at hl 0 rfl) ?_
    refine va_get (D := D) (ci := 4) (v := .int (iI nn)) (C := RX5) (T := TX5) (N := 6) hx hb hts i5 hown hK.1 hP 0 rfl rfl 5 (by decide) f34 (fun _ h9 => h9) rfl dX5_note_15 ?_
    refine lv_iload_n hx hb dX5_note_18 rfl (lv_at hl 1 rfl) ?_
    refine zt_iast (g := nf) (x := f) hx hb hK.1 hP hD hS 1 0 rfl rfl (by omega) (by omega) dX5_note_19 (fun H locs hP hD hS => ?_)
    have hP : va_P D vwCl [(d, .inr (4, [.ref r, .ref r2, .ref n1, .ref n2, .ref sg, .int (iI nn)])), (n1, aI gi 512 (uP nf nn.toNat f)), (n2, aI gi 512 nl), (r, .inr (3, [.ref a, .int (iI t)])), (a, aI gi 60 g)] H := hP
    have hD : va_D A [(d, .inr (4, [.ref r, .ref r2, .ref n1, .ref n2, .ref sg, .int (iI nn)])), (n1, aI gi 512 (uP nf nn.toNat f)), (n2, aI gi 512 nl), (r, .inr (3, [.ref a, .int (iI t)])), (a, aI gi 60 g)] := hD
    refine lv_aload_n hx hb dX5_note_20 rfl (lv_at hl 0 rfl) ?_
    refine va_get (D := D) (ci := 4) (v := .ref n2) (C := RX5) (T := TX5) (N := 6) hx hb hts i5 hown hK.1 hP 0 rfl rfl 3 (by decide) f27 (fun _ h9 => h9) rfl dX5_note_21 ?_
    refine lv_aload_n hx hb dX5_note_24 rfl (lv_at hl 0 rfl) ?_
    refine va_get (D := D) (ci := 4) (v := .int (iI nn)) (C := RX5) (T := TX5) (N := 6) hx hb hts i5 hown hK.1 hP 0 rfl rfl 5 (by decide) f34 (fun _ h9 => h9) rfl dX5_note_25 ?_
    refine lv_aload_n hx hb dX5_note_28 rfl (lv_at hl 0 rfl) ?_
    refine va_get (D := D) (ci := 4) (v := .ref r) (C := RX5) (T := TX5) (N := 6) hx hb hts i5 hown hK.1 hP 0 rfl rfl 0 (by decide) f14 (fun _ h9 => h9) rfl dX5_note_29 ?_
    refine lv_iload_n hx hb dX5_note_32 rfl (lv_at hl 1 rfl) ?_
    refine zt_callV C (As := [.int (iI f)]) (rest := [.int (iI nn), .ref n2]) (c_X4_at l D gi gc gr r a 60 t g f (by first | omega | assumption) (by first | omega | assumption) (by first | omega | assumption)) (cwV 1 hts gX5_note_X4_at rfl rfl rfl (by decide +kernel) ⟨Nat.le_of_ble_eq_true rfl, Nat.le_of_ble_eq_true rfl⟩) (zt_preV hK (hP.sub (ws' := [(r, .inr (3, [.ref a, .int (iI t)])), (a, aI gi 60 g)]) [3, 4] rfl) [.int (iI f)] 0 rfl rfl) rfl hl.1 rfl (Nat.le_of_ble_eq_true rfl) dX5_note_33 ⟨Nat.le_of_ble_eq_true rfl, Nat.le_of_ble_eq_true rfl⟩ (fun r_3 hr_3 => ?_)
    obtain rfl := hr_3
    refine zt_iast (g := nl) (x := g f.toNat) hx hb hK.1 hP hD hS 2 0 rfl rfl (by omega) (by omega) dX5_note_36 (fun H locs hP hD hS => ?_)
    have hP : va_P D vwCl [(d, .inr (4, [.ref r, .ref r2, .ref n1, .ref n2, .ref sg, .int (iI nn)])), (n1, aI gi 512 (uP nf nn.toNat f)), (n2, aI gi 512 (uP nl nn.toNat (g f.toNat))), (r, .inr (3, [.ref a, .int (iI t)])), (a, aI gi 60 g)] H := hP
    have hD : va_D A [(d, .inr (4, [.ref r, .ref r2, .ref n1, .ref n2, .ref sg, .int (iI nn)])), (n1, aI gi 512 (uP nf nn.toNat f)), (n2, aI gi 512 (uP nl nn.toNat (g f.toNat))), (r, .inr (3, [.ref a, .int (iI t)])), (a, aI gi 60 g)] := hD
    refine lv_aload_n hx hb dX5_note_37 rfl (lv_at hl 0 rfl) ?_
    refine lv_dup hx hb dX5_note_38 rfl ?_
    refine va_get (D := D) (ci := 4) (v := .int (iI nn)) (C := RX5) (T := TX5) (N := 6) hx hb hts i5 hown hK.1 hP 0 rfl rfl 5 (by decide) f34 (fun _ h9 => h9) rfl dX5_note_39 ?_
    refine lv_iconst (v := iI (1)) hx hb dX5_note_42 (by decide +kernel) ?_
    refine zt_iadd hx hb dX5_note_43 ?_
    refine va_put (D := D) (ci := 4) (v := .int (iI (nn + 1))) (ty := .int) (C := RX5) (T := TX5) (N := 6) hx hb hts i5 tyX5 tyX5_ok nmX5 hown hK.1 hP hD hS 0 rfl rfl 5 (by decide) f34 (fun _ h9 => h9) rfl (by decide +kernel) rfl rfl (Nat.le_of_ble_eq_true rfl) dX5_note_44 (fun H locs hP hD hS => ?_)
    have hP : va_P D vwCl [(d, .inr (4, [.ref r, .ref r2, .ref n1, .ref n2, .ref sg, .int (iI (nn + 1))])), (n1, aI gi 512 (uP nf nn.toNat f)), (n2, aI gi 512 (uP nl nn.toNat (g f.toNat))), (r, .inr (3, [.ref a, .int (iI t)])), (a, aI gi 60 g)] H := hP
    have hD : va_D A [(d, .inr (4, [.ref r, .ref r2, .ref n1, .ref n2, .ref sg, .int (iI (nn + 1))])), (n1, aI gi 512 (uP nf nn.toNat f)), (n2, aI gi 512 (uP nl nn.toNat (g f.toNat))), (r, .inr (3, [.ref a, .int (iI t)])), (a, aI gi 60 g)] := hD
    refine lv_aload_n hx hb dX5_note_47 rfl (lv_at hl 0 rfl) ?_
    refine va_get (D := D) (ci := 4) (v := .ref r) (C := RX5) (T := TX5) (N := 6) hx hb hts i5 hown hK.1 hP 0 rfl rfl 0 (by decide) f14 (fun _ h9 => h9) rfl dX5_note_48 ?_
    refine lv_iload_n hx hb dX5_note_51 rfl (lv_at hl 1 rfl) ?_
    refine lv_iload_n hx hb dX5_note_52 rfl (lv_at hl 2 rfl) ?_
    have hPc := hP.sub (ws' := [(r, .inr (3, [.ref a, .int (iI t)])), (a, aI gi 60 g)]) [3, 4] rfl
    have hDc := hD.sub (ws' := [(r, .inr (3, [.ref a, .int (iI t)])), (a, aI gi 60 g)]) [3, 4] (by decide) rfl
    have hFc := va_free (wc := [(r, .inr (3, [.ref a, .int (iI t)])), (a, aI gi 60 g)]) hD hS hA [3, 4] rfl
    refine va_callv (va_runV C (As := [.int (iI f), .int (iI x)]) (rest := []) (c_X4_put l D gi gc gr H.size r a 60 t g f x (by first | omega | assumption) (by first | omega | assumption) (by first | omega | assumption)) (cwV 2 hts gX5_note_X4_put rfl rfl rfl (by decide +kernel) ⟨Nat.le_of_ble_eq_true rfl, Nat.le_of_ble_eq_true rfl⟩) (zt_preVw hK hPc hDc [.int (iI f), .int (iI x)] 0 rfl rfl) rfl rfl hl.1 rfl (lv_room (Nat.le_of_ble_eq_true rfl)) dX5_note_53 ⟨Nat.le_of_ble_eq_true rfl, Nat.le_of_ble_eq_true rfl⟩) hS (fun q _ h => hFc q h) hFc (fun u_r_4 T9 H1 locs hT9 hvm hw hB hz1 hk1 hS => ?_)
    obtain ⟨hP1, hD1⟩ := hB
    rw [hT9] at hP1
    obtain ⟨hP, hD⟩ := zt_back (w1 := [(r, .inr (3, [.ref a, .int (iI t)])), (a, aI gi 60 u_r_4)]) (wr := [(d, .inr (4, [.ref r, .ref r2, .ref n1, .ref n2, .ref sg, .int (iI (nn + 1))])), (n1, aI gi 512 (uP nf nn.toNat f)), (n2, aI gi 512 (uP nl nn.toNat (g f.toNat)))]) (wn := [(d, .inr (4, [.ref r, .ref r2, .ref n1, .ref n2, .ref sg, .int (iI (nn + 1))])), (n1, aI gi 512 (uP nf nn.toNat f)), (n2, aI gi 512 (uP nl nn.toNat (g f.toNat))), (r, .inr (3, [.ref a, .int (iI t)])), (a, aI gi 60 u_r_4)]) hP hD [3, 4] [0, 1, 2] [0, 1, 2, 3, 4] rfl rfl (by decide) (by decide) hk1 hFc hP1 hD1 rfl (by decide)
    generalize H1 = H at hP hS ⊢
    exact hQ (nn + 1, uP nf nn.toNat f, uP nl nn.toNat (g f.toNat), u_r_4) _ _ _ _ (by constructor <;> dsimp only <;> omega) hP hD hS dX5_note_56
set_option maxHeartbeats 4000000 in
set_option maxRecDepth 100000 in
theorem c_X5_takeBack (l : Launch) (D : va_G) (gi gc gr : ClassId) (sz : Nat) (d : Nat) (r2 : Nat) (n1 : Nat) (n2 : Nat) (sg : Nat) (nn : Int) (r : Nat) (a : Nat) (t : Int) (g : Nat → Int) (nf : Nat → Int) (nl : Nat → Int) (ht : 0 ≤ t ∧ t ≤ 60) (hnn : 0 ≤ nn ∧ nn ≤ 512) : Met l yX5_takeBack wsX5_takeBack { frames := 2, cells := 0, slots := 0, locals := 43 } (zPw D gi gc gr [(d, .inr (4, [.ref r, .ref r2, .ref n1, .ref n2, .ref sg, .int (iI nn)])), (n1, aI gi 512 nf), (n2, aI gi 512 nl), (r, .inr (3, [.ref a, .int (iI t)])), (a, aI gi 60 g)] sz [.ref d]) (va_Qi (S := Int × (Nat → Int)) (fun v u => (∃ z : Int, v = iI z) ∧ 0 ≤ u.1 ∧ u.1 ≤ 512) (zB D (va_A [(d, .inr (4, [.ref r, .ref r2, .ref n1, .ref n2, .ref sg, .int (iI nn)])), (n1, aI gi 512 nf), (n2, aI gi 512 nl), (r, .inr (3, [.ref a, .int (iI t)])), (a, aI gi 60 g)] sz) (fun u => [(d, .inr (4, [.ref r, .ref r2, .ref n1, .ref n2, .ref sg, .int (iI u.1)])), (n1, aI gi 512 nf), (n2, aI gi 512 nl), (r, .inr (3, [.ref a, .int (iI t)])), (a, aI gi 60 u.2)])) (va_A [(d, .inr (4, [.ref r, .ref r2, .ref n1, .ref n2, .ref sg, .int (iI nn)])), (n1, aI gi 512 nf), (n2, aI gi 512 nl), (r, .inr (3, [.ref a, .int (iI t)])), (a, aI gi 60 g)] sz)) 0 0 (va_A [(d, .inr (4, [.ref r, .ref r2, .ref n1, .ref n2, .ref sg, .int (iI nn)])), (n1, aI gi 512 nf), (n2, aI gi 512 nl), (r, .inr (3, [.ref a, .int (iI t)])), (a, aI gi 60 g)] sz) := by
  refine zt_metWi (own := RX5) (cc := cX5_takeBack) (maxL := 2) (by decide) rfl rfl (Nat.le_of_ble_eq_true rfl) ?_
  intro p e s m args below meth c Q A C hK hP hD hS hA _ hQ ls hl
  have hx := C.1
  have hb := C.2.1
  have hml := C.2.2.1
  have hown := C.2.2.2.1
  have hts := C.2.2.2.2
  have i5 : ∀ w ∈ u_ws RX5 TX5 6, w ∈ wsX5_takeBack := by decide +kernel
  have f14 := hts (.fieldLink RX5 14 "Threetwo$Strip" "looks" "LThreetwo$Row;") (by decide +kernel)
  have f23 := hts (.fieldLink RX5 23 "Threetwo$Strip" "noteFields" "[I") (by decide +kernel)
  have f27 := hts (.fieldLink RX5 27 "Threetwo$Strip" "noteLooks" "[I") (by decide +kernel)
  have f34 := hts (.fieldLink RX5 34 "Threetwo$Strip" "notes" "I") (by decide +kernel)
  have hl : lv_has ls 2 [(0, .ref d)] := hl
  refine lv_aload_n hx hb dX5_takeBack_0 rfl (lv_at hl 0 rfl) ?_
  refine va_get (D := D) (ci := 4) (v := .int (iI nn)) (C := RX5) (T := TX5) (N := 6) hx hb hts i5 hown hK.1 hP 0 rfl rfl 5 (by decide) f34 (fun _ h9 => h9) rfl dX5_takeBack_1 ?_
  refine zt_if_gt (tgt := 9) hx hb dX5_takeBack_4 (by decide) (by omega) (fun c_1 => ?_) (fun c_1 => ?_)
  · refine lv_aload_n hx hb dX5_takeBack_9 rfl (lv_at hl 0 rfl) ?_
    refine lv_dup hx hb dX5_takeBack_10 rfl ?_
    refine va_get (D := D) (ci := 4) (v := .int (iI nn)) (C := RX5) (T := TX5) (N := 6) hx hb hts i5 hown hK.1 hP 0 rfl rfl 5 (by decide) f34 (fun _ h9 => h9) rfl dX5_takeBack_11 ?_
    refine lv_iconst (v := iI (1)) hx hb dX5_takeBack_14 (by decide +kernel) ?_
    refine zt_isub hx hb dX5_takeBack_15 ?_
    refine va_put (D := D) (ci := 4) (v := .int (iI (nn - 1))) (ty := .int) (C := RX5) (T := TX5) (N := 6) hx hb hts i5 tyX5 tyX5_ok nmX5 hown hK.1 hP hD hS 0 rfl rfl 5 (by decide) f34 (fun _ h9 => h9) rfl (by decide +kernel) rfl rfl (Nat.le_of_ble_eq_true rfl) dX5_takeBack_16 (fun H locs hP hD hS => ?_)
    have hP : va_P D vwCl [(d, .inr (4, [.ref r, .ref r2, .ref n1, .ref n2, .ref sg, .int (iI (nn - 1))])), (n1, aI gi 512 nf), (n2, aI gi 512 nl), (r, .inr (3, [.ref a, .int (iI t)])), (a, aI gi 60 g)] H := hP
    have hD : va_D A [(d, .inr (4, [.ref r, .ref r2, .ref n1, .ref n2, .ref sg, .int (iI (nn - 1))])), (n1, aI gi 512 nf), (n2, aI gi 512 nl), (r, .inr (3, [.ref a, .int (iI t)])), (a, aI gi 60 g)] := hD
    refine lv_aload_n hx hb dX5_takeBack_19 rfl (lv_at hl 0 rfl) ?_
    refine va_get (D := D) (ci := 4) (v := .ref n1) (C := RX5) (T := TX5) (N := 6) hx hb hts i5 hown hK.1 hP 0 rfl rfl 2 (by decide) f23 (fun _ h9 => h9) rfl dX5_takeBack_20 ?_
    refine lv_aload_n hx hb dX5_takeBack_23 rfl (lv_at hl 0 rfl) ?_
    refine va_get (D := D) (ci := 4) (v := .int (iI (nn - 1))) (C := RX5) (T := TX5) (N := 6) hx hb hts i5 hown hK.1 hP 0 rfl rfl 5 (by decide) f34 (fun _ h9 => h9) rfl dX5_takeBack_24 ?_
    refine zt_iald hx hb hK.1 hP 1 0 rfl rfl (by omega) (by omega) dX5_takeBack_27 ?_
    obtain ⟨z_2, ez_2, hz_2⟩ := iI_ex (iI (nf (nn - 1).toNat))
    rw [ez_2]
    refine lv_istore_n (lv' := [(1, .int (iI z_2)), (0, .ref d)]) hx hb dX5_takeBack_28 rfl hl (by decide) rfl (fun ls hl => ?_)
    refine lv_aload_n hx hb dX5_takeBack_29 rfl (lv_at hl 1 rfl) ?_
    refine va_get (D := D) (ci := 4) (v := .ref r) (C := RX5) (T := TX5) (N := 6) hx hb hts i5 hown hK.1 hP 0 rfl rfl 0 (by decide) f14 (fun _ h9 => h9) rfl dX5_takeBack_30 ?_
    refine lv_iload_n hx hb dX5_takeBack_33 rfl (lv_at hl 0 rfl) ?_
    refine lv_aload_n hx hb dX5_takeBack_34 rfl (lv_at hl 1 rfl) ?_
    refine va_get (D := D) (ci := 4) (v := .ref n2) (C := RX5) (T := TX5) (N := 6) hx hb hts i5 hown hK.1 hP 0 rfl rfl 3 (by decide) f27 (fun _ h9 => h9) rfl dX5_takeBack_35 ?_
    refine lv_aload_n hx hb dX5_takeBack_38 rfl (lv_at hl 1 rfl) ?_
    refine va_get (D := D) (ci := 4) (v := .int (iI (nn - 1))) (C := RX5) (T := TX5) (N := 6) hx hb hts i5 hown hK.1 hP 0 rfl rfl 5 (by decide) f34 (fun _ h9 => h9) rfl dX5_takeBack_39 ?_
    refine zt_iald hx hb hK.1 hP 2 0 rfl rfl (by omega) (by omega) dX5_takeBack_42 ?_
    have hPc := hP.sub (ws' := [(r, .inr (3, [.ref a, .int (iI t)])), (a, aI gi 60 g)]) [3, 4] rfl
    have hDc := hD.sub (ws' := [(r, .inr (3, [.ref a, .int (iI t)])), (a, aI gi 60 g)]) [3, 4] (by decide) rfl
    have hFc := va_free (wc := [(r, .inr (3, [.ref a, .int (iI t)])), (a, aI gi 60 g)]) hD hS hA [3, 4] rfl
    refine va_callv (va_runV C (As := [.int (iI z_2), .int (iI (nl (nn - 1).toNat))]) (rest := []) (c_X4_put l D gi gc gr H.size r a 60 t g z_2 (nl (nn - 1).toNat) (by first | omega | assumption) (by first | omega | assumption) (by first | omega | assumption)) (cwV 2 hts gX5_takeBack_X4_put rfl rfl rfl (by decide +kernel) ⟨Nat.le_of_ble_eq_true rfl, Nat.le_of_ble_eq_true rfl⟩) (zt_preVw hK hPc hDc [.int (iI z_2), .int (iI (nl (nn - 1).toNat))] 0 rfl rfl) rfl rfl hl.1 rfl (lv_room (Nat.le_of_ble_eq_true rfl)) dX5_takeBack_43 ⟨Nat.le_of_ble_eq_true rfl, Nat.le_of_ble_eq_true rfl⟩) hS (fun q _ h => hFc q h) hFc (fun u_r_3 T9 H1 locs hT9 hvm hw hB hz1 hk1 hS => ?_)
    obtain ⟨hP1, hD1⟩ := hB
    rw [hT9] at hP1
    obtain ⟨hP, hD⟩ := zt_back (w1 := [(r, .inr (3, [.ref a, .int (iI t)])), (a, aI gi 60 u_r_3)]) (wr := [(d, .inr (4, [.ref r, .ref r2, .ref n1, .ref n2, .ref sg, .int (iI (nn - 1))])), (n1, aI gi 512 nf), (n2, aI gi 512 nl)]) (wn := [(d, .inr (4, [.ref r, .ref r2, .ref n1, .ref n2, .ref sg, .int (iI (nn - 1))])), (n1, aI gi 512 nf), (n2, aI gi 512 nl), (r, .inr (3, [.ref a, .int (iI t)])), (a, aI gi 60 u_r_3)]) hP hD [3, 4] [0, 1, 2] [0, 1, 2, 3, 4] rfl rfl (by decide) (by decide) hk1 hFc hP1 hD1 rfl (by decide)
    generalize H1 = H at hP hS ⊢
    refine lv_iload_n hx hb dX5_takeBack_46 rfl (lv_at hl 0 rfl) ?_
    exact hQ (nn - 1, u_r_3) _ _ _ _ _ (⟨⟨_, rfl⟩, by constructor <;> dsimp only <;> omega⟩) hP hD hS dX5_takeBack_47
  · refine lv_iconst (v := iI (-1)) hx hb dX5_takeBack_7 (by decide +kernel) ?_
    exact hQ (nn, g) _ _ _ _ _ (⟨⟨_, rfl⟩, by constructor <;> dsimp only <;> omega⟩) hP hD hS dX5_takeBack_8
set_option maxHeartbeats 16000000 in
set_option maxRecDepth 100000 in
theorem c_X5_pullDown (l : Launch) (D : va_G) (gi gc gr : ClassId) (sz : Nat) (d : Nat) (r2 : Nat) (n1 : Nat) (n2 : Nat) (sg : Nat) (nn : Int) (r : Nat) (a : Nat) (t : Int) (g : Nat → Int) (k1 : Nat) (k2 : Nat) (rn : Int) (rg : Nat → Int) (ph : Int) (ht : 0 ≤ t ∧ t ≤ 60) (hrn : 0 ≤ rn ∧ rn ≤ 24) (hph : 0 ≤ ph ∧ ph ≤ 1) : Met l yX5_pullDown wsX5_pullDown { frames := 1, cells := 0, slots := 0, locals := 21 } (zPw D gi gc gr [(d, .inr (4, [.ref r, .ref r2, .ref n1, .ref n2, .ref sg, .int (iI nn)])), (r, .inr (3, [.ref a, .int (iI t)])), (a, aI gi 60 g), (k1, .inr (3, [.ref k2, .int (iI rn)])), (k2, aI gi 24 rg)] sz [.ref d, .ref k1, .int (iI ph)]) (va_Qv (S := Int × (Nat → Int)) (fun u => 0 ≤ u.1 ∧ u.1 ≤ 60) (zB D (va_A [(d, .inr (4, [.ref r, .ref r2, .ref n1, .ref n2, .ref sg, .int (iI nn)])), (r, .inr (3, [.ref a, .int (iI t)])), (a, aI gi 60 g), (k1, .inr (3, [.ref k2, .int (iI rn)])), (k2, aI gi 24 rg)] sz) (fun u => [(d, .inr (4, [.ref r, .ref r2, .ref n1, .ref n2, .ref sg, .int (iI 0)])), (r, .inr (3, [.ref a, .int (iI u.1)])), (a, aI gi 60 u.2), (k1, .inr (3, [.ref k2, .int (iI rn)])), (k2, aI gi 24 rg)])) (va_A [(d, .inr (4, [.ref r, .ref r2, .ref n1, .ref n2, .ref sg, .int (iI nn)])), (r, .inr (3, [.ref a, .int (iI t)])), (a, aI gi 60 g), (k1, .inr (3, [.ref k2, .int (iI rn)])), (k2, aI gi 24 rg)] sz)) 0 0 (va_A [(d, .inr (4, [.ref r, .ref r2, .ref n1, .ref n2, .ref sg, .int (iI nn)])), (r, .inr (3, [.ref a, .int (iI t)])), (a, aI gi 60 g), (k1, .inr (3, [.ref k2, .int (iI rn)])), (k2, aI gi 24 rg)] sz) := by
  refine zt_metWv (own := RX5) (cc := cX5_pullDown) (maxL := 6) (by decide) rfl rfl (Nat.le_of_ble_eq_true rfl) ?_
  intro p e s m args below meth c Q A C hK hP hD hS hA _ hQ ls hl
  have hx := C.1
  have hb := C.2.1
  have hml := C.2.2.1
  have hown := C.2.2.2.1
  have hts := C.2.2.2.2
  have i5 : ∀ w ∈ u_ws RX5 TX5 6, w ∈ wsX5_pullDown := by decide +kernel
  have f14 := hts (.fieldLink RX5 14 "Threetwo$Strip" "looks" "LThreetwo$Row;") (by decide +kernel)
  have f34 := hts (.fieldLink RX5 34 "Threetwo$Strip" "notes" "I") (by decide +kernel)
  have hl : lv_has ls 6 [(0, .ref d), (1, .ref k1), (2, .int (iI ph))] := hl
  refine lv_aload_n hx hb dX5_pullDown_0 rfl (lv_at hl 0 rfl) ?_
  refine va_get (D := D) (ci := 4) (v := .ref r) (C := RX5) (T := TX5) (N := 6) hx hb hts i5 hown hK.1 hP 0 rfl rfl 0 (by decide) f14 (fun _ h9 => h9) rfl dX5_pullDown_1 ?_
  have hPc := hP.sub (ws' := [(r, .inr (3, [.ref a, .int (iI t)]))]) [1] rfl
  have hDc := hD.sub (ws' := [(r, .inr (3, [.ref a, .int (iI t)]))]) [1] (by decide) rfl
  have hFc := va_free (wc := [(r, .inr (3, [.ref a, .int (iI t)]))]) hD hS hA [1] rfl
  refine va_callv (va_runV C (As := []) (rest := []) (c_X4_clear l D gi gc gr s.heap.size r a t) (cwV 0 hts gX5_pullDown_X4_clear rfl rfl rfl (by decide +kernel) ⟨Nat.le_of_ble_eq_true rfl, Nat.le_of_ble_eq_true rfl⟩) (zt_preVw hK hPc hDc [] 0 rfl rfl) rfl rfl hl.1 rfl (lv_room (Nat.le_of_ble_eq_true rfl)) dX5_pullDown_4 ⟨Nat.le_of_ble_eq_true rfl, Nat.le_of_ble_eq_true rfl⟩) hS (fun q _ h => hFc q h) hFc (fun u_r_1 T9 H1 locs hT9 hvm hw hB hz1 hk1 hS => ?_)
  obtain ⟨hP1, hD1⟩ := hB
  rw [hT9] at hP1
  obtain ⟨hP, hD⟩ := zt_back (w1 := [(r, .inr (3, [.ref a, .int (iI 0)]))]) (wr := [(d, .inr (4, [.ref r, .ref r2, .ref n1, .ref n2, .ref sg, .int (iI nn)])), (a, aI gi 60 g), (k1, .inr (3, [.ref k2, .int (iI rn)])), (k2, aI gi 24 rg)]) (wn := [(d, .inr (4, [.ref r, .ref r2, .ref n1, .ref n2, .ref sg, .int (iI nn)])), (r, .inr (3, [.ref a, .int (iI 0)])), (a, aI gi 60 g), (k1, .inr (3, [.ref k2, .int (iI rn)])), (k2, aI gi 24 rg)]) hP hD [1] [0, 2, 3, 4] [0, 4, 1, 2, 3] rfl rfl (by decide) (by decide) hk1 hFc hP1 hD1 rfl (by decide)
  generalize H1 = H at hP hS ⊢
  refine lv_aload_n hx hb dX5_pullDown_7 rfl (lv_at hl 0 rfl) ?_
  refine lv_iconst (v := iI (0)) hx hb dX5_pullDown_8 (by decide +kernel) ?_
  refine va_put (D := D) (ci := 4) (v := .int (iI 0)) (ty := .int) (C := RX5) (T := TX5) (N := 6) hx hb hts i5 tyX5 tyX5_ok nmX5 hown hK.1 hP hD hS 0 rfl rfl 5 (by decide) f34 (fun _ h9 => h9) rfl (by decide +kernel) rfl rfl (Nat.le_of_ble_eq_true rfl) dX5_pullDown_9 (fun H locs hP hD hS => ?_)
  have hP : va_P D vwCl [(d, .inr (4, [.ref r, .ref r2, .ref n1, .ref n2, .ref sg, .int (iI 0)])), (r, .inr (3, [.ref a, .int (iI 0)])), (a, aI gi 60 g), (k1, .inr (3, [.ref k2, .int (iI rn)])), (k2, aI gi 24 rg)] H := hP
  have hD : va_D A [(d, .inr (4, [.ref r, .ref r2, .ref n1, .ref n2, .ref sg, .int (iI 0)])), (r, .inr (3, [.ref a, .int (iI 0)])), (a, aI gi 60 g), (k1, .inr (3, [.ref k2, .int (iI rn)])), (k2, aI gi 24 rg)] := hD
  refine lv_iconst (v := iI (0)) hx hb dX5_pullDown_12 (by decide +kernel) ?_
  refine lv_istore_n (lv' := [(3, .int (iI 0)), (0, .ref d), (1, .ref k1), (2, .int (iI ph))]) hx hb dX5_pullDown_13 rfl hl (by decide) rfl (fun ls hl => ?_)
  have loop_14 : ∀ (n_14 : Nat) (j : Int) (ta : Int) (ga : Nat → Int) (hj : 0 ≤ j ∧ j ≤ rn) (hta : 0 ≤ ta ∧ ta ≤ 60) (hm_14 : rn - j < (n_14 : Int)) (H : Heap) (locs : List Loc) (hP : va_P D vwCl [(d, .inr (4, [.ref r, .ref r2, .ref n1, .ref n2, .ref sg, .int (iI 0)])), (r, .inr (3, [.ref a, .int (iI ta)])), (a, aI gi 60 ga), (k1, .inr (3, [.ref k2, .int (iI rn)])), (k2, aI gi 24 rg)] H) (hD : va_D A [(d, .inr (4, [.ref r, .ref r2, .ref n1, .ref n2, .ref sg, .int (iI 0)])), (r, .inr (3, [.ref a, .int (iI ta)])), (a, aI gi 60 ga), (k1, .inr (3, [.ref k2, .int (iI rn)])), (k2, aI gi 24 rg)]) (hS : va_S A s.heap H locs) (ls : Array Slot) (hl : lv_has ls 6 [(0, .ref d), (1, .ref k1), (2, .int (iI ph)), (3, .int (iI j))]), W p l e { frames := 1, cells := 0, slots := 0, locals := 21 } s m args below meth c H locs 0 0 Q (F0 m 14 ls []) := by
    intro n_14
    induction n_14 with
    | zero => intro j ta ga hj hta hm_14 H locs hP hD hS ls hl; exact absurd hm_14 (by omega)
    | succ n_14 ih_14 =>
      intro j ta ga hj hta hm_14 H locs hP hD hS ls hl
      refine lv_iload_n hx hb dX5_pullDown_14 rfl (lv_at hl 3 rfl) ?_
      refine lv_aload_n hx hb dX5_pullDown_15 rfl (lv_at hl 1 rfl) ?_
      refine zt_callV C (As := []) (rest := [.int (iI j)]) (c_X4_many l D gi gc gr k1 k2 rn) (cwV 0 hts gX5_pullDown_X4_many rfl rfl rfl (by decide +kernel) ⟨Nat.le_of_ble_eq_true rfl, Nat.le_of_ble_eq_true rfl⟩) (zt_preV hK (hP.sub (ws' := [(k1, .inr (3, [.ref k2, .int (iI rn)]))]) [3] rfl) [] 0 rfl rfl) rfl hl.1 rfl (Nat.le_of_ble_eq_true rfl) dX5_pullDown_16 ⟨Nat.le_of_ble_eq_true rfl, Nat.le_of_ble_eq_true rfl⟩ (fun r_2 hr_2 => ?_)
      obtain rfl := hr_2
      refine zt_icmp_ge (tgt := 72) hx hb dX5_pullDown_19 (by decide) (by omega) (fun c_3 => ?_) (fun c_3 => ?_)
      · exact hQ (ta, ga) _ _ _ _ (by constructor <;> dsimp only <;> omega) hP hD hS dX5_pullDown_72
      · refine lv_iload_n hx hb dX5_pullDown_22 rfl (lv_at hl 3 rfl) ?_
        refine lv_iload_n hx hb dX5_pullDown_23 rfl (lv_at hl 2 rfl) ?_
        refine zt_iadd hx hb dX5_pullDown_24 ?_
        refine lv_iconst (v := iI (2)) hx hb dX5_pullDown_25 (by decide +kernel) ?_
        refine zt_irem hx hb dX5_pullDown_26 (by omega) ?_
        refine zt_if_ne (tgt := 34) hx hb dX5_pullDown_27 (by decide) (by omega) (fun c_4 => ?_) (fun c_4 => ?_)
        · refine lv_iconst (v := iI (3)) hx hb dX5_pullDown_34 (by decide +kernel) ?_
          refine lv_istore (lv' := [(4, .int (iI 3)), (0, .ref d), (1, .ref k1), (2, .int (iI ph)), (3, .int (iI j))]) hx hb dX5_pullDown_35 hl (by decide) rfl (fun ls hl => ?_)
          refine lv_iconst (v := iI (0)) hx hb dX5_pullDown_37 (by decide +kernel) ?_
          refine lv_istore (lv' := [(5, .int (iI 0)), (4, .int (iI 3)), (0, .ref d), (1, .ref k1), (2, .int (iI ph)), (3, .int (iI j))]) hx hb dX5_pullDown_38 hl (by decide) rfl (fun ls hl => ?_)
          have loop_40 : ∀ (n_40 : Nat) (gv : Int) (y : Int) (tb : Int) (gb : Nat → Int) (hgv : 2 ≤ gv ∧ gv ≤ 3) (hy : 0 ≤ y ∧ y ≤ gv) (htb : 0 ≤ tb ∧ tb ≤ 60) (hm_40 : gv - y < (n_40 : Int)) (H : Heap) (locs : List Loc) (hP : va_P D vwCl [(d, .inr (4, [.ref r, .ref r2, .ref n1, .ref n2, .ref sg, .int (iI 0)])), (r, .inr (3, [.ref a, .int (iI tb)])), (a, aI gi 60 gb), (k1, .inr (3, [.ref k2, .int (iI rn)])), (k2, aI gi 24 rg)] H) (hD : va_D A [(d, .inr (4, [.ref r, .ref r2, .ref n1, .ref n2, .ref sg, .int (iI 0)])), (r, .inr (3, [.ref a, .int (iI tb)])), (a, aI gi 60 gb), (k1, .inr (3, [.ref k2, .int (iI rn)])), (k2, aI gi 24 rg)]) (hS : va_S A s.heap H locs) (ls : Array Slot) (hl : lv_has ls 6 [(0, .ref d), (1, .ref k1), (2, .int (iI ph)), (3, .int (iI j)), (4, .int (iI gv)), (5, .int (iI y))]), W p l e { frames := 1, cells := 0, slots := 0, locals := 21 } s m args below meth c H locs 0 0 Q (F0 m 40 ls []) := by
            intro n_40
            induction n_40 with
            | zero => intro gv y tb gb hgv hy htb hm_40 H locs hP hD hS ls hl; exact absurd hm_40 (by omega)
            | succ n_40 ih_40 =>
              intro gv y tb gb hgv hy htb hm_40 H locs hP hD hS ls hl
              refine lv_iload hx hb dX5_pullDown_40 (lv_at hl 5 rfl) ?_
              refine lv_iload hx hb dX5_pullDown_42 (lv_at hl 4 rfl) ?_
              refine zt_icmp_ge (tgt := 66) hx hb dX5_pullDown_44 (by decide) (by omega) (fun c_5 => ?_) (fun c_5 => ?_)
              · refine lv_iinc (v := iI (j + 1)) (lv' := [(3, .int (iI (j + 1))), (0, .ref d), (1, .ref k1), (2, .int (iI ph)), (4, .int (iI gv)), (5, .int (iI y))]) hx hb dX5_pullDown_66 hl (k := 3) rfl (iI_add _ _) (by decide) rfl (fun ls hl => ?_)
                refine lv_goto (tgt := 14) hx hb dX5_pullDown_69 (by decide) ?_
                exact ih_14 (j + 1) tb gb (by omega) (by omega) (by omega) H locs hP hD hS ls (lv_sub hl [1, 2, 3, 0] rfl)
              · refine lv_aload_n hx hb dX5_pullDown_47 rfl (lv_at hl 0 rfl) ?_
                refine va_get (D := D) (ci := 4) (v := .ref r) (C := RX5) (T := TX5) (N := 6) hx hb hts i5 hown hK.1 hP 0 rfl rfl 0 (by decide) f14 (fun _ h9 => h9) rfl dX5_pullDown_48 ?_
                refine lv_aload_n hx hb dX5_pullDown_51 rfl (lv_at hl 1 rfl) ?_
                refine lv_iload_n hx hb dX5_pullDown_52 rfl (lv_at hl 3 rfl) ?_
                refine zt_callV C (As := [.int (iI j)]) (rest := [.ref r]) (c_X4_at l D gi gc gr k1 k2 24 rn rg j (by first | omega | assumption) (by first | omega | assumption) (by first | omega | assumption)) (cwV 1 hts gX5_pullDown_X4_at rfl rfl rfl (by decide +kernel) ⟨Nat.le_of_ble_eq_true rfl, Nat.le_of_ble_eq_true rfl⟩) (zt_preV hK (hP.sub (ws' := [(k1, .inr (3, [.ref k2, .int (iI rn)])), (k2, aI gi 24 rg)]) [3, 4] rfl) [.int (iI j)] 0 rfl rfl) rfl hl.1 rfl (Nat.le_of_ble_eq_true rfl) dX5_pullDown_53 ⟨Nat.le_of_ble_eq_true rfl, Nat.le_of_ble_eq_true rfl⟩ (fun r_6 hr_6 => ?_)
                obtain rfl := hr_6
                have hPc := hP.sub (ws' := [(r, .inr (3, [.ref a, .int (iI tb)])), (a, aI gi 60 gb)]) [1, 2] rfl
                have hDc := hD.sub (ws' := [(r, .inr (3, [.ref a, .int (iI tb)])), (a, aI gi 60 gb)]) [1, 2] (by decide) rfl
                have hFc := va_free (wc := [(r, .inr (3, [.ref a, .int (iI tb)])), (a, aI gi 60 gb)]) hD hS hA [1, 2] rfl
                refine va_calli (va_runV C (As := [.int (iI (rg j.toNat))]) (rest := []) (c_X4_add l D gi gc gr H.size r a 60 tb gb (rg j.toNat) (by first | omega | assumption) (by first | omega | assumption)) (cwV 1 hts gX5_pullDown_X4_add rfl rfl rfl (by decide +kernel) ⟨Nat.le_of_ble_eq_true rfl, Nat.le_of_ble_eq_true rfl⟩) (zt_preVw hK hPc hDc [.int (iI (rg j.toNat))] 0 rfl rfl) rfl rfl hl.1 rfl (lv_room (Nat.le_of_ble_eq_true rfl)) dX5_pullDown_56 ⟨Nat.le_of_ble_eq_true rfl, Nat.le_of_ble_eq_true rfl⟩) hS (fun q _ h => hFc q h) hFc (fun r_7 u_r_7 T9 H1 locs hT9 hvm hw hB hz1 hk1 hS => ?_)
                obtain ⟨t_7, g_7⟩ := u_r_7
                obtain ⟨z_7, e_7, hz_7⟩ := hw
                dsimp only at hz_7
                subst e_7
                obtain ⟨hP1, hD1⟩ := hB
                rw [hT9] at hP1
                obtain ⟨hP, hD⟩ := zt_back (w1 := [(r, .inr (3, [.ref a, .int (iI t_7)])), (a, aI gi 60 g_7)]) (wr := [(d, .inr (4, [.ref r, .ref r2, .ref n1, .ref n2, .ref sg, .int (iI 0)])), (k1, .inr (3, [.ref k2, .int (iI rn)])), (k2, aI gi 24 rg)]) (wn := [(d, .inr (4, [.ref r, .ref r2, .ref n1, .ref n2, .ref sg, .int (iI 0)])), (r, .inr (3, [.ref a, .int (iI t_7)])), (a, aI gi 60 g_7), (k1, .inr (3, [.ref k2, .int (iI rn)])), (k2, aI gi 24 rg)]) hP hD [1, 2] [0, 3, 4] [0, 3, 4, 1, 2] rfl rfl (by decide) (by decide) hk1 hFc hP1 hD1 rfl (by decide)
                generalize H1 = H at hP hS ⊢
                refine lv_pop hx hb dX5_pullDown_59 rfl ?_
                refine lv_iinc (v := iI (y + 1)) (lv' := [(5, .int (iI (y + 1))), (0, .ref d), (1, .ref k1), (2, .int (iI ph)), (3, .int (iI j)), (4, .int (iI gv))]) hx hb dX5_pullDown_60 hl (k := 5) rfl (iI_add _ _) (by decide) rfl (fun ls hl => ?_)
                refine lv_goto (tgt := 40) hx hb dX5_pullDown_63 (by decide) ?_
                exact ih_40 gv (y + 1) t_7 g_7 (by omega) (by omega) (by omega) (by omega) H locs hP hD hS ls (lv_sub hl [1, 2, 3, 4, 5, 0] rfl)
          exact loop_40 ((3 - 0 : Int).toNat + 1) 3 0 ta ga (by omega) (by omega) (by omega) (by omega) H locs hP hD hS ls (lv_sub hl [2, 3, 4, 5, 1, 0] rfl)
        · refine lv_iconst (v := iI (2)) hx hb dX5_pullDown_30 (by decide +kernel) ?_
          refine lv_goto (tgt := 35) hx hb dX5_pullDown_31 (by decide) ?_
          refine lv_istore (lv' := [(4, .int (iI 2)), (0, .ref d), (1, .ref k1), (2, .int (iI ph)), (3, .int (iI j))]) hx hb dX5_pullDown_35 hl (by decide) rfl (fun ls hl => ?_)
          refine lv_iconst (v := iI (0)) hx hb dX5_pullDown_37 (by decide +kernel) ?_
          refine lv_istore (lv' := [(5, .int (iI 0)), (4, .int (iI 2)), (0, .ref d), (1, .ref k1), (2, .int (iI ph)), (3, .int (iI j))]) hx hb dX5_pullDown_38 hl (by decide) rfl (fun ls hl => ?_)
          have loop_40 : ∀ (n_40 : Nat) (gv : Int) (y : Int) (tb : Int) (gb : Nat → Int) (hgv : 2 ≤ gv ∧ gv ≤ 3) (hy : 0 ≤ y ∧ y ≤ gv) (htb : 0 ≤ tb ∧ tb ≤ 60) (hm_40 : gv - y < (n_40 : Int)) (H : Heap) (locs : List Loc) (hP : va_P D vwCl [(d, .inr (4, [.ref r, .ref r2, .ref n1, .ref n2, .ref sg, .int (iI 0)])), (r, .inr (3, [.ref a, .int (iI tb)])), (a, aI gi 60 gb), (k1, .inr (3, [.ref k2, .int (iI rn)])), (k2, aI gi 24 rg)] H) (hD : va_D A [(d, .inr (4, [.ref r, .ref r2, .ref n1, .ref n2, .ref sg, .int (iI 0)])), (r, .inr (3, [.ref a, .int (iI tb)])), (a, aI gi 60 gb), (k1, .inr (3, [.ref k2, .int (iI rn)])), (k2, aI gi 24 rg)]) (hS : va_S A s.heap H locs) (ls : Array Slot) (hl : lv_has ls 6 [(0, .ref d), (1, .ref k1), (2, .int (iI ph)), (3, .int (iI j)), (4, .int (iI gv)), (5, .int (iI y))]), W p l e { frames := 1, cells := 0, slots := 0, locals := 21 } s m args below meth c H locs 0 0 Q (F0 m 40 ls []) := by
            intro n_40
            induction n_40 with
            | zero => intro gv y tb gb hgv hy htb hm_40 H locs hP hD hS ls hl; exact absurd hm_40 (by omega)
            | succ n_40 ih_40 =>
              intro gv y tb gb hgv hy htb hm_40 H locs hP hD hS ls hl
              refine lv_iload hx hb dX5_pullDown_40 (lv_at hl 5 rfl) ?_
              refine lv_iload hx hb dX5_pullDown_42 (lv_at hl 4 rfl) ?_
              refine zt_icmp_ge (tgt := 66) hx hb dX5_pullDown_44 (by decide) (by omega) (fun c_8 => ?_) (fun c_8 => ?_)
              · refine lv_iinc (v := iI (j + 1)) (lv' := [(3, .int (iI (j + 1))), (0, .ref d), (1, .ref k1), (2, .int (iI ph)), (4, .int (iI gv)), (5, .int (iI y))]) hx hb dX5_pullDown_66 hl (k := 3) rfl (iI_add _ _) (by decide) rfl (fun ls hl => ?_)
                refine lv_goto (tgt := 14) hx hb dX5_pullDown_69 (by decide) ?_
                exact ih_14 (j + 1) tb gb (by omega) (by omega) (by omega) H locs hP hD hS ls (lv_sub hl [1, 2, 3, 0] rfl)
              · refine lv_aload_n hx hb dX5_pullDown_47 rfl (lv_at hl 0 rfl) ?_
                refine va_get (D := D) (ci := 4) (v := .ref r) (C := RX5) (T := TX5) (N := 6) hx hb hts i5 hown hK.1 hP 0 rfl rfl 0 (by decide) f14 (fun _ h9 => h9) rfl dX5_pullDown_48 ?_
                refine lv_aload_n hx hb dX5_pullDown_51 rfl (lv_at hl 1 rfl) ?_
                refine lv_iload_n hx hb dX5_pullDown_52 rfl (lv_at hl 3 rfl) ?_
                refine zt_callV C (As := [.int (iI j)]) (rest := [.ref r]) (c_X4_at l D gi gc gr k1 k2 24 rn rg j (by first | omega | assumption) (by first | omega | assumption) (by first | omega | assumption)) (cwV 1 hts gX5_pullDown_X4_at rfl rfl rfl (by decide +kernel) ⟨Nat.le_of_ble_eq_true rfl, Nat.le_of_ble_eq_true rfl⟩) (zt_preV hK (hP.sub (ws' := [(k1, .inr (3, [.ref k2, .int (iI rn)])), (k2, aI gi 24 rg)]) [3, 4] rfl) [.int (iI j)] 0 rfl rfl) rfl hl.1 rfl (Nat.le_of_ble_eq_true rfl) dX5_pullDown_53 ⟨Nat.le_of_ble_eq_true rfl, Nat.le_of_ble_eq_true rfl⟩ (fun r_9 hr_9 => ?_)
                obtain rfl := hr_9
                have hPc := hP.sub (ws' := [(r, .inr (3, [.ref a, .int (iI tb)])), (a, aI gi 60 gb)]) [1, 2] rfl
                have hDc := hD.sub (ws' := [(r, .inr (3, [.ref a, .int (iI tb)])), (a, aI gi 60 gb)]) [1, 2] (by decide) rfl
                have hFc := va_free (wc := [(r, .inr (3, [.ref a, .int (iI tb)])), (a, aI gi 60 gb)]) hD hS hA [1, 2] rfl
                refine va_calli (va_runV C (As := [.int (iI (rg j.toNat))]) (rest := []) (c_X4_add l D gi gc gr H.size r a 60 tb gb (rg j.toNat) (by first | omega | assumption) (by first | omega | assumption)) (cwV 1 hts gX5_pullDown_X4_add rfl rfl rfl (by decide +kernel) ⟨Nat.le_of_ble_eq_true rfl, Nat.le_of_ble_eq_true rfl⟩) (zt_preVw hK hPc hDc [.int (iI (rg j.toNat))] 0 rfl rfl) rfl rfl hl.1 rfl (lv_room (Nat.le_of_ble_eq_true rfl)) dX5_pullDown_56 ⟨Nat.le_of_ble_eq_true rfl, Nat.le_of_ble_eq_true rfl⟩) hS (fun q _ h => hFc q h) hFc (fun r_10 u_r_10 T9 H1 locs hT9 hvm hw hB hz1 hk1 hS => ?_)
                obtain ⟨t_10, g_10⟩ := u_r_10
                obtain ⟨z_10, e_10, hz_10⟩ := hw
                dsimp only at hz_10
                subst e_10
                obtain ⟨hP1, hD1⟩ := hB
                rw [hT9] at hP1
                obtain ⟨hP, hD⟩ := zt_back (w1 := [(r, .inr (3, [.ref a, .int (iI t_10)])), (a, aI gi 60 g_10)]) (wr := [(d, .inr (4, [.ref r, .ref r2, .ref n1, .ref n2, .ref sg, .int (iI 0)])), (k1, .inr (3, [.ref k2, .int (iI rn)])), (k2, aI gi 24 rg)]) (wn := [(d, .inr (4, [.ref r, .ref r2, .ref n1, .ref n2, .ref sg, .int (iI 0)])), (r, .inr (3, [.ref a, .int (iI t_10)])), (a, aI gi 60 g_10), (k1, .inr (3, [.ref k2, .int (iI rn)])), (k2, aI gi 24 rg)]) hP hD [1, 2] [0, 3, 4] [0, 3, 4, 1, 2] rfl rfl (by decide) (by decide) hk1 hFc hP1 hD1 rfl (by decide)
                generalize H1 = H at hP hS ⊢
                refine lv_pop hx hb dX5_pullDown_59 rfl ?_
                refine lv_iinc (v := iI (y + 1)) (lv' := [(5, .int (iI (y + 1))), (0, .ref d), (1, .ref k1), (2, .int (iI ph)), (3, .int (iI j)), (4, .int (iI gv))]) hx hb dX5_pullDown_60 hl (k := 5) rfl (iI_add _ _) (by decide) rfl (fun ls hl => ?_)
                refine lv_goto (tgt := 40) hx hb dX5_pullDown_63 (by decide) ?_
                exact ih_40 gv (y + 1) t_10 g_10 (by omega) (by omega) (by omega) (by omega) H locs hP hD hS ls (lv_sub hl [1, 2, 3, 4, 5, 0] rfl)
          exact loop_40 ((2 - 0 : Int).toNat + 1) 2 0 ta ga (by omega) (by omega) (by omega) (by omega) H locs hP hD hS ls (lv_sub hl [2, 3, 4, 5, 1, 0] rfl)
  exact loop_14 ((rn - 0 : Int).toNat + 1) 0 0 g (by omega) (by omega) (by omega) H locs hP hD hS ls (lv_sub hl [1, 2, 3, 0] rfl)
