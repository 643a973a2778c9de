/-! ===== the buffer: sums, what came in, the least delay, the first dry tick ===== -/
def sumF (g : Nat → Int) : Nat → Int
  | 0 => 0
  | k + 1 => sumF g k + g k
def camF (rate x tot : Int) : Int := if tot < rate * x then tot else rate * x
def dryF (rate q tot : Int) (g : Nat → Int) : Nat → Int → Int → Int
  | 0, _, _ => -1
  | n + 1, j, y => if camF rate ((q + j) + 1) tot < y + g j.toNat then j else dryF rate q tot g n (j + 1) (y + g j.toNat)
def tckF (rate : Int) (g : Nat → Int) (k : Nat) : Int := ((sumF g (k + 1) + rate) - 1) / rate - ((k : Int) + 1)
def leastL (rate : Int) (g : Nat → Int) : Nat → Int
  | 0 => 0
  | k + 1 => if leastL rate g k < tckF rate g k then tckF rate g k else leastL rate g k
def peakL (rate q tot : Int) (g : Nat → Int) : Nat → Int
  | 0 => 0
  | k + 1 => if peakL rate q tot g k < camF rate ((q + (k : Int)) + 1) tot - sumF g k then camF rate ((q + (k : Int)) + 1) tot - sumF g k else peakL rate q tot g k
theorem dryF_0 (rate q tot : Int) (g : Nat → Int) (j y : Int) : dryF rate q tot g 0 j y = -1 := rfl
theorem dryF_s (rate q tot : Int) (g : Nat → Int) (n : Nat) (j y : Int) : dryF rate q tot g (n + 1) j y = if camF rate ((q + j) + 1) tot < y + g j.toNat then j else dryF rate q tot g n (j + 1) (y + g j.toNat) := rfl
theorem leastL_s (rate : Int) (g : Nat → Int) (k : Nat) : leastL rate g (k + 1) = if leastL rate g k < tckF rate g k then tckF rate g k else leastL rate g k := rfl
theorem peakL_s (rate q tot : Int) (g : Nat → Int) (k : Nat) : peakL rate q tot g (k + 1) = if peakL rate q tot g k < camF rate ((q + (k : Int)) + 1) tot - sumF g k then camF rate ((q + (k : Int)) + 1) tot - sumF g k else peakL rate q tot g k := rfl
theorem sumF_b {g : Nat → Int} {t : Int} (hg : ∀ j : Nat, (j : Int) < t → 0 ≤ g j ∧ g j ≤ 99) : ∀ k : Nat, (k : Int) ≤ t → 0 ≤ sumF g k ∧ sumF g k ≤ 99 * (k : Int) := by
  intro k
  induction k with
  | zero => intro _; show (0 : Int) ≤ 0 ∧ (0 : Int) ≤ 99 * ((0 : Nat) : Int); omega
  | succ k ih =>
    intro h
    have h1 := ih (by omega)
    have h2 := hg k (by omega)
    show 0 ≤ sumF g k + g k ∧ sumF g k + g k ≤ _
    omega
theorem sumF_i {g : Nat → Int} {t j : Int} (hg : ∀ j : Nat, (j : Int) < t → 0 ≤ g j ∧ g j ≤ 99) (hj : 0 ≤ j ∧ j ≤ t) : 0 ≤ sumF g j.toNat ∧ sumF g j.toNat ≤ 99 * j := by
  have h := sumF_b hg j.toNat (by omega)
  omega
theorem sumF_mono {g : Nat → Int} {t : Int} (hg : ∀ j : Nat, (j : Int) < t → 0 ≤ g j ∧ g j ≤ 99) {a : Nat} : ∀ d : Nat, ((a + d : Nat) : Int) ≤ t → sumF g a ≤ sumF g (a + d) := by
  intro d
  induction d with
  | zero => intro _; exact Int.le_refl _
  | succ d ih =>
    intro h
    have h1 := ih (by omega)
    have h2 := hg (a + d) (by omega)
    show _ ≤ sumF g (a + d) + g (a + d)
    omega
theorem zt_mulb {a b : Int} (ha : 1 ≤ a ∧ a ≤ 50) (hb : 0 ≤ b ∧ b ≤ 2100) : 0 ≤ a * b ∧ a * b ≤ 105000 := by
  refine ⟨Int.mul_nonneg (by omega) hb.1, ?_⟩
  have h1 : a * b ≤ 50 * b := Int.mul_le_mul_of_nonneg_right ha.2 hb.1
  omega
theorem camF_b {rate x tot : Int} (hr : 1 ≤ rate ∧ rate ≤ 50) (hx : 0 ≤ x ∧ x ≤ 2100) (ht : 0 ≤ tot) : 0 ≤ camF rate x tot ∧ camF rate x tot ≤ 105000 := by
  have h := zt_mulb hr hx
  unfold camF
  split <;> omega
theorem tck_lo {rate S : Int} (hr : 1 ≤ rate) : S ≤ rate * (((S + rate) - 1) / rate) := by
  have h1 := Int.mul_ediv_add_emod ((S + rate) - 1) rate
  have h2 := Int.emod_lt_of_pos ((S + rate) - 1) (show 0 < rate by omega)
  omega
theorem tck_hi {rate S : Int} (hr : 1 ≤ rate) : rate * (((S + rate) - 1) / rate - 1) < S := by
  have h1 := Int.mul_ediv_add_emod ((S + rate) - 1) rate
  have h2 := Int.emod_nonneg ((S + rate) - 1) (show rate ≠ 0 by omega)
  rw [Int.mul_sub]
  omega
theorem tck_b {rate S : Int} (hr : 1 ≤ rate) (hS : 0 ≤ S) : 0 ≤ ((S + rate) - 1) / rate ∧ ((S + rate) - 1) / rate ≤ S := by
  refine ⟨Int.ediv_nonneg (by omega) (by omega), ?_⟩
  have h := tck_hi (S := S) hr
  by_cases q : ((S + rate) - 1) / rate ≤ S
  · exact q
  · have h3 : 1 * (((S + rate) - 1) / rate - 1) ≤ rate * (((S + rate) - 1) / rate - 1) := Int.mul_le_mul_of_nonneg_right hr (by omega)
    omega
theorem leastL_b {rate : Int} {g : Nat → Int} {t : Int} (hr : 1 ≤ rate) (hg : ∀ j : Nat, (j : Int) < t → 0 ≤ g j ∧ g j ≤ 99) : ∀ k : Nat, (k : Int) ≤ t → 0 ≤ leastL rate g k ∧ leastL rate g k ≤ 99 * (k : Int) := by
  intro k
  induction k with
  | zero => intro _; show (0 : Int) ≤ 0 ∧ (0 : Int) ≤ 99 * ((0 : Nat) : Int); omega
  | succ k ih =>
    intro h
    have h1 := ih (by omega)
    have h2 := sumF_b hg (k + 1) h
    have h3 := tck_b (S := sumF g (k + 1)) hr h2.1
    rw [leastL_s]
    unfold tckF
    split <;> omega
theorem leastL_i {rate : Int} {g : Nat → Int} {t j : Int} (hr : 1 ≤ rate ∧ rate ≤ 50) (hg : ∀ j : Nat, (j : Int) < t → 0 ≤ g j ∧ g j ≤ 99) (hj : 0 ≤ j ∧ j ≤ t) : 0 ≤ leastL rate g j.toNat ∧ leastL rate g j.toNat ≤ 99 * j := by
  have h := leastL_b hr.1 hg j.toNat (by omega)
  omega
theorem leastL_ge {rate : Int} {g : Nat → Int} : ∀ (n k : Nat), k < n → tckF rate g k ≤ leastL rate g n := by
  intro n
  induction n with
  | zero => intro k h; omega
  | succ n ih =>
    intro k h
    rw [leastL_s]
    by_cases q : k = n
    · subst q
      split <;> omega
    · have h1 := ih k (by omega)
      split <;> omega
theorem leastL_at {rate : Int} {g : Nat → Int} : ∀ n : Nat, leastL rate g n = 0 ∨ ∃ k : Nat, k < n ∧ leastL rate g n = tckF rate g k := by
  intro n
  induction n with
  | zero => exact Or.inl rfl
  | succ n ih =>
    rw [leastL_s]
    by_cases q : leastL rate g n < tckF rate g n
    · rw [if_pos q]
      exact Or.inr ⟨n, by omega, rfl⟩
    · rw [if_neg q]
      rcases ih with h | ⟨k, h1, h2⟩
      · exact Or.inl h
      · exact Or.inr ⟨k, by omega, h2⟩
theorem dryF_no {rate q tot : Int} {g : Nat → Int} {N : Nat} (h : ∀ k : Nat, k < N → sumF g (k + 1) ≤ camF rate ((q + (k : Int)) + 1) tot) : ∀ (n j : Nat), j + n = N → dryF rate q tot g n (j : Int) (sumF g j) = -1 := by
  intro n
  induction n with
  | zero => intro j _; rfl
  | succ n ih =>
    intro j hj
    have h1 := h j (by omega)
    have e1 : sumF g j + g (j : Int).toNat = sumF g (j + 1) := by rw [Int.toNat_natCast]; rfl
    rw [dryF_s, e1, if_neg (by omega)]
    exact ih (j + 1) (by omega)
theorem dryF_yes {rate q tot : Int} {g : Nat → Int} {N k : Nat} (hk : k < N) (h : camF rate ((q + (k : Int)) + 1) tot < sumF g (k + 1)) : ∀ (n j : Nat), j + n = N → j ≤ k → dryF rate q tot g n (j : Int) (sumF g j) ≠ -1 := by
  intro n
  induction n with
  | zero => intro j h1 h2; omega
  | succ n ih =>
    intro j hj hjk
    have e1 : sumF g j + g (j : Int).toNat = sumF g (j + 1) := by rw [Int.toNat_natCast]; rfl
    rw [dryF_s, e1]
    by_cases q : camF rate ((q + (j : Int)) + 1) tot < sumF g (j + 1)
    · rw [if_pos q]
      omega
    · rw [if_neg q]
      by_cases e : j = k
      · subst e; exact absurd h q
      · exact ih (j + 1) (by omega) (by omega)
/-- by the least delay the buffer never runs dry, by one less it does -/
theorem dry_least {rate : Int} {g : Nat → Int} {t : Int} (hr : 1 ≤ rate ∧ rate ≤ 50) (ht : 0 ≤ t ∧ t ≤ 20) (hg : ∀ j : Nat, (j : Int) < t → 0 ≤ g j ∧ g j ≤ 99) : dryF rate (leastL rate g t.toNat) (sumF g t.toNat) g t.toNat 0 0 = -1 := by
  refine dryF_no (N := t.toNat) (fun k hk => ?_) t.toNat 0 (by omega)
  have h1 := leastL_ge (rate := rate) (g := g) t.toNat k hk
  have h2 := tck_lo (S := sumF g (k + 1)) hr.1
  have h3 : sumF g (k + 1) ≤ sumF g t.toNat := by
    have := sumF_mono hg (a := k + 1) (t.toNat - (k + 1)) (by omega)
    rw [show k + 1 + (t.toNat - (k + 1)) = t.toNat by omega] at this
    exact this
  unfold tckF at h1
  have h4 : rate * (((sumF g (k + 1) + rate) - 1) / rate) ≤ rate * ((leastL rate g t.toNat + (k : Int)) + 1) := Int.mul_le_mul_of_nonneg_left (by omega) (by omega)
  unfold camF
  split <;> omega
theorem dry_less {rate : Int} {g : Nat → Int} {t : Int} (hr : 1 ≤ rate ∧ rate ≤ 50) (ht : 0 ≤ t ∧ t ≤ 20) (hg : ∀ j : Nat, (j : Int) < t → 0 ≤ g j ∧ g j ≤ 99) (h0 : 0 < leastL rate g t.toNat) : dryF rate (leastL rate g t.toNat - 1) (sumF g t.toNat) g t.toNat 0 0 ≠ -1 := by
  rcases leastL_at (rate := rate) (g := g) t.toNat with h | ⟨k, hk, h⟩
  · omega
  · refine dryF_yes (N := t.toNat) hk ?_ t.toNat 0 (by omega) (by omega)
    have h2 := tck_hi (S := sumF g (k + 1)) hr.1
    have e : (leastL rate g t.toNat - 1 + (k : Int)) + 1 = ((sumF g (k + 1) + rate) - 1) / rate - 1 := by
      rw [h]
      unfold tckF
      omega
    rw [e]
    unfold camF
    split <;> omega
theorem dryF_bd {rate q tot : Int} {g : Nat → Int} {N : Nat} (hN : N ≤ 20) : ∀ (n j : Nat) (y : Int), j + n = N → -1 ≤ dryF rate q tot g n (j : Int) y ∧ dryF rate q tot g n (j : Int) y ≤ 20 := by
  intro n
  induction n with
  | zero => intro j y _; rw [dryF_0]; omega
  | succ n ih =>
    intro j y hj
    rw [dryF_s]
    have h := ih (j + 1) (y + g (j : Int).toNat) (by omega)
    split
    · omega
    · exact h
theorem peakL_b {rate q tot : Int} {g : Nat → Int} {t : Int} (hr : 1 ≤ rate ∧ rate ≤ 50) (hq : 0 ≤ q ∧ q ≤ 2000) (htot : 0 ≤ tot) (hg : ∀ j : Nat, (j : Int) < t → 0 ≤ g j ∧ g j ≤ 99) (ht : t ≤ 20) : ∀ k : Nat, (k : Int) ≤ t → 0 ≤ peakL rate q tot g k ∧ peakL rate q tot g k ≤ 105000 := by
  intro k
  induction k with
  | zero => intro _; show (0 : Int) ≤ 0 ∧ (0 : Int) ≤ 105000; omega
  | succ k ih =>
    intro h
    have h1 := ih (by omega)
    have h2 := sumF_b hg k (by omega)
    have h3 := camF_b (x := (q + (k : Int)) + 1) hr (by omega) htot
    rw [peakL_s]
    split <;> omega
theorem peakL_i {rate q tot : Int} {g : Nat → Int} {t j : Int} (hr : 1 ≤ rate ∧ rate ≤ 50) (hq : 0 ≤ q ∧ q ≤ 2000) (htot : 0 ≤ tot) (hg : ∀ j : Nat, (j : Int) < t → 0 ≤ g j ∧ g j ≤ 99) (ht : t ≤ 20) (hj : 0 ≤ j ∧ j ≤ t) : 0 ≤ peakL rate q tot g j.toNat ∧ peakL rate q tot g j.toNat ≤ 105000 := peakL_b hr hq htot hg ht j.toNat (by omega)

set_option maxHeartbeats 4000000 in
set_option maxRecDepth 100000 in
theorem c_X0_sumOfSizes (l : Launch) (D : va_G) (gi gc gr : ClassId) (b : Nat) (r : Nat) (a : Nat) (rate : Int) (t : Int) (g : Nat → Int) (hr : 1 ≤ rate ∧ rate ≤ 50) (ht : 0 ≤ t ∧ t ≤ 20) (hg : ∀ j : Nat, (j : Int) < t → 0 ≤ g j ∧ g j ≤ 99) : Met l yX0_sumOfSizes wsX0_sumOfSizes { frames := 1, cells := 0, slots := 0, locals := 21 } (zPr D gi gc gr [(b, .inr (0, [.ref r, .int (iI rate)])), (r, .inr (3, [.ref a, .int (iI t)])), (a, aI gi 20 g)] [.ref b]) (vp_Si (fun v => v = iI (sumF g t.toNat))) 0 0 (fun _ => False) := by
  refine zt_metRi (own := RX0) (cc := cX0_sumOfSizes) (maxL := 3) (by decide) rfl rfl (Nat.le_of_ble_eq_true rfl) ?_
  intro p e s m args below meth c Q C hK hP hQ ls hl
  have hx := C.1
  have hb := C.2.1
  have hml := C.2.2.1
  have hown := C.2.2.2.1
  have hts := C.2.2.2.2
  have i0 : ∀ w ∈ u_ws RX0 TX0 2, w ∈ wsX0_sumOfSizes := by decide +kernel
  have f14 := hts (.fieldLink RX0 14 "Threetwo$Buffer" "sizes" "LThreetwo$Row;") (by decide +kernel)
  have hl : lv_has ls 3 [(0, .ref b)] := hl
  refine lv_iconst (v := iI (0)) hx hb dX0_sumOfSizes_0 (by decide +kernel) ?_
  refine lv_istore_n (lv' := [(1, .int (iI 0)), (0, .ref b)]) hx hb dX0_sumOfSizes_1 rfl hl (by decide) rfl (fun ls hl => ?_)
  refine lv_iconst (v := iI (0)) hx hb dX0_sumOfSizes_2 (by decide +kernel) ?_
  refine lv_istore_n (lv' := [(2, .int (iI 0)), (1, .int (iI 0)), (0, .ref b)]) hx hb dX0_sumOfSizes_3 rfl hl (by decide) rfl (fun ls hl => ?_)
  have loop_4 : ∀ (n_4 : Nat) (y : Int) (j : Int) (hj : 0 ≤ j ∧ j ≤ t) (hy : y = sumF g j.toNat) (hm_4 : t - j < (n_4 : Int)) (ls : Array Slot) (hl : lv_has ls 3 [(0, .ref b), (1, .int (iI y)), (2, .int (iI j))]), W p l e { frames := 1, cells := 0, slots := 0, locals := 21 } s m args below meth c s.heap [] 0 0 Q (F0 m 4 ls []) := by
    intro n_4
    induction n_4 with
    | zero => intro y j hj hy hm_4 ls hl; exact absurd hm_4 (by omega)
    | succ n_4 ih_4 =>
      intro y j hj hy hm_4 ls hl
      refine lv_iload_n hx hb dX0_sumOfSizes_4 rfl (lv_at hl 2 rfl) ?_
      refine lv_aload_n hx hb dX0_sumOfSizes_5 rfl (lv_at hl 0 rfl) ?_
      refine va_get (D := D) (ci := 0) (v := .ref r) (C := RX0) (T := TX0) (N := 2) hx hb hts i0 hown hK.1 hP 0 rfl rfl 0 (by decide) f14 (fun _ h9 => h9) rfl dX0_sumOfSizes_6 ?_
      refine zt_callV C (As := []) (rest := [.int (iI j)]) (c_X4_many l D gi gc gr r a t) (cwV 0 hts gX0_sumOfSizes_X4_many rfl rfl rfl (by decide +kernel) ⟨Nat.le_of_ble_eq_true rfl, Nat.le_of_ble_eq_true rfl⟩) (zt_preV hK (hP.sub (ws' := [(r, .inr (3, [.ref a, .int (iI t)]))]) [1] rfl) [] 0 rfl rfl) rfl hl.1 rfl (Nat.le_of_ble_eq_true rfl) dX0_sumOfSizes_9 ⟨Nat.le_of_ble_eq_true rfl, Nat.le_of_ble_eq_true rfl⟩ (fun r_1 hr_1 => ?_)
      obtain rfl := hr_1
      refine zt_icmp_ge (tgt := 32) hx hb dX0_sumOfSizes_12 (by decide) (by omega) (fun c_2 => ?_) (fun c_2 => ?_)
      · refine lv_iload_n hx hb dX0_sumOfSizes_32 rfl (lv_at hl 1 rfl) ?_
        exact hQ _ _ _ (by rw [hy, show j = t by omega]) dX0_sumOfSizes_33
      · refine lv_iload_n hx hb dX0_sumOfSizes_15 rfl (lv_at hl 1 rfl) ?_
        refine lv_aload_n hx hb dX0_sumOfSizes_16 rfl (lv_at hl 0 rfl) ?_
        refine va_get (D := D) (ci := 0) (v := .ref r) (C := RX0) (T := TX0) (N := 2) hx hb hts i0 hown hK.1 hP 0 rfl rfl 0 (by decide) f14 (fun _ h9 => h9) rfl dX0_sumOfSizes_17 ?_
        refine lv_iload_n hx hb dX0_sumOfSizes_20 rfl (lv_at hl 2 rfl) ?_
        refine zt_callV C (As := [.int (iI j)]) (rest := [.int (iI y)]) (c_X4_at l D gi gc gr r a 20 t g j (by first | omega | assumption) (by first | omega | assumption) (by first | omega | assumption)) (cwV 1 hts gX0_sumOfSizes_X4_at rfl rfl rfl (by decide +kernel) ⟨Nat.le_of_ble_eq_true rfl, Nat.le_of_ble_eq_true rfl⟩) (zt_preV hK (hP.sub (ws' := [(r, .inr (3, [.ref a, .int (iI t)])), (a, aI gi 20 g)]) [1, 2] rfl) [.int (iI j)] 0 rfl rfl) rfl hl.1 rfl (Nat.le_of_ble_eq_true rfl) dX0_sumOfSizes_21 ⟨Nat.le_of_ble_eq_true rfl, Nat.le_of_ble_eq_true rfl⟩ (fun r_3 hr_3 => ?_)
        obtain rfl := hr_3
        refine zt_iadd hx hb dX0_sumOfSizes_24 ?_
        refine lv_istore_n (lv' := [(1, .int (iI (y + (g j.toNat)))), (0, .ref b), (2, .int (iI j))]) hx hb dX0_sumOfSizes_25 rfl hl (by decide) rfl (fun ls hl => ?_)
        refine lv_iinc (v := iI (j + 1)) (lv' := [(2, .int (iI (j + 1))), (1, .int (iI (y + (g j.toNat)))), (0, .ref b)]) hx hb dX0_sumOfSizes_26 hl (k := 2) rfl (iI_add _ _) (by decide) rfl (fun ls hl => ?_)
        refine lv_goto (tgt := 4) hx hb dX0_sumOfSizes_29 (by decide) ?_
        exact ih_4 (y + (g j.toNat)) (j + 1) (by omega) (by rw [hy, show (j + 1).toNat = j.toNat + 1 by omega]; rfl) (by omega) ls (lv_sub hl [2, 1, 0] rfl)
  exact loop_4 ((t - 0).toNat + 1) 0 0 (by omega) (rfl) (by omega) ls (lv_sub hl [2, 1, 0] rfl)
set_option maxHeartbeats 4000000 in
set_option maxRecDepth 100000 in
theorem c_X0_cameIn (l : Launch) (D : va_G) (gi gc gr : ClassId) (b : Nat) (r : Nat) (rate : Int) (x : Int) (tot : Int) (hr : 1 ≤ rate ∧ rate ≤ 50) (hx1 : 0 ≤ x ∧ x ≤ 2100) (htot : 0 ≤ tot ∧ tot ≤ 10000) : Met l yX0_cameIn wsX0_cameIn { frames := 1, cells := 0, slots := 0, locals := 21 } (zPr D gi gc gr [(b, .inr (0, [.ref r, .int (iI rate)]))] [.ref b, .int (iI x), .int (iI tot)]) (vp_Si (fun v => v = iI (camF rate x tot))) 0 0 (fun _ => False) := by
  refine zt_metRi (own := RX0) (cc := cX0_cameIn) (maxL := 3) (by decide) rfl rfl (Nat.le_of_ble_eq_true rfl) ?_
  intro p e s m args below meth c Q C hK hP hQ ls hl
  have hx := C.1
  have hb := C.2.1
  have hml := C.2.2.1
  have hown := C.2.2.2.1
  have hts := C.2.2.2.2
  have i0 : ∀ w ∈ u_ws RX0 TX0 2, w ∈ wsX0_cameIn := by decide +kernel
  have f20 := hts (.fieldLink RX0 20 "Threetwo$Buffer" "rateNow" "I") (by decide +kernel)
  have hl : lv_has ls 3 [(0, .ref b), (1, .int (iI x)), (2, .int (iI tot))] := hl
  have hm := zt_mulb hr hx1
  refine lv_aload_n hx hb dX0_cameIn_0 rfl (lv_at hl 0 rfl) ?_
  refine va_get (D := D) (ci := 0) (v := .int (iI rate)) (C := RX0) (T := TX0) (N := 2) hx hb hts i0 hown hK.1 hP 0 rfl rfl 1 (by decide) f20 (fun _ h9 => h9) rfl dX0_cameIn_1 ?_
  refine lv_iload_n hx hb dX0_cameIn_4 rfl (lv_at hl 1 rfl) ?_
  refine zt_imul hx hb dX0_cameIn_5 ?_
  refine lv_iload_n hx hb dX0_cameIn_6 rfl (lv_at hl 2 rfl) ?_
  refine zt_mmin hx hb (hml.trans hl.1.symm) hown (hts (.methodLink RX0 47 Lib.Math.min.name) (by decide +kernel)) (hts (.static Lib.Math.min.name) (by decide +kernel)) (hts (.initialized "java/lang/Math") (by decide +kernel)) (hts (.code Lib.Math.min.name Lib.Math.min.code 2 (some .int)) (by decide +kernel)) (Nat.le_of_ble_eq_true rfl) (Nat.le_of_ble_eq_true rfl) (Nat.le_of_ble_eq_true rfl) (Nat.le_of_ble_eq_true rfl) (by omega) dX0_cameIn_7 (fun m_1 em_1 => ?_)
  exact hQ _ _ _ (congrArg iI em_1) dX0_cameIn_10
set_option maxHeartbeats 4000000 in
set_option maxRecDepth 100000 in
theorem c_X0_firstDry (l : Launch) (D : va_G) (gi gc gr : ClassId) (b : Nat) (r : Nat) (a : Nat) (rate : Int) (t : Int) (g : Nat → Int) (q : Int) (hr : 1 ≤ rate ∧ rate ≤ 50) (ht : 0 ≤ t ∧ t ≤ 20) (hg : ∀ j : Nat, (j : Int) < t → 0 ≤ g j ∧ g j ≤ 99) (hq : 0 ≤ q ∧ q ≤ 2000) : Met l yX0_firstDry wsX0_firstDry { frames := 2, cells := 0, slots := 0, locals := 43 } (zPr D gi gc gr [(b, .inr (0, [.ref r, .int (iI rate)])), (r, .inr (3, [.ref a, .int (iI t)])), (a, aI gi 20 g)] [.ref b, .int (iI q)]) (vp_Si (fun v => v = iI (dryF rate q (sumF g t.toNat) g t.toNat 0 0))) 0 0 (fun _ => False) := by
  refine zt_metRi (own := RX0) (cc := cX0_firstDry) (maxL := 5) (by decide) rfl rfl (Nat.le_of_ble_eq_true rfl) ?_
  intro p e s m args below meth c Q C hK hP hQ ls hl
  have hx := C.1
  have hb := C.2.1
  have hml := C.2.2.1
  have hown := C.2.2.2.1
  have hts := C.2.2.2.2
  have i0 : ∀ w ∈ u_ws RX0 TX0 2, w ∈ wsX0_firstDry := by decide +kernel
  have f14 := hts (.fieldLink RX0 14 "Threetwo$Buffer" "sizes" "LThreetwo$Row;") (by decide +kernel)
  have hl : lv_has ls 5 [(0, .ref b), (1, .int (iI q))] := hl
  have hS := sumF_i hg (j := t) (by omega)
  refine lv_aload_n hx hb dX0_firstDry_0 rfl (lv_at hl 0 rfl) ?_
  refine zt_callV C (As := []) (rest := []) (c_X0_sumOfSizes l D gi gc gr b r a rate t g (by first | omega | assumption) (by first | omega | assumption) (by first | omega | assumption)) (cwV 0 hts gX0_firstDry_X0_sumOfSizes rfl rfl rfl (by decide +kernel) ⟨Nat.le_of_ble_eq_true rfl, Nat.le_of_ble_eq_true rfl⟩) (zt_preV hK (hP.sub (ws' := [(b, .inr (0, [.ref r, .int (iI rate)])), (r, .inr (3, [.ref a, .int (iI t)])), (a, aI gi 20 g)]) [0, 1, 2] rfl) [] 0 rfl rfl) rfl hl.1 rfl (Nat.le_of_ble_eq_true rfl) dX0_firstDry_1 ⟨Nat.le_of_ble_eq_true rfl, Nat.le_of_ble_eq_true rfl⟩ (fun r_1 hr_1 => ?_)
  obtain rfl := hr_1
  refine lv_istore_n (lv' := [(2, .int (iI (sumF g t.toNat))), (0, .ref b), (1, .int (iI q))]) hx hb dX0_firstDry_4 rfl hl (by decide) rfl (fun ls hl => ?_)
  refine lv_iconst (v := iI (0)) hx hb dX0_firstDry_5 (by decide +kernel) ?_
  refine lv_istore_n (lv' := [(3, .int (iI 0)), (2, .int (iI (sumF g t.toNat))), (0, .ref b), (1, .int (iI q))]) hx hb dX0_firstDry_6 rfl hl (by decide) rfl (fun ls hl => ?_)
  refine lv_iconst (v := iI (0)) hx hb dX0_firstDry_7 (by decide +kernel) ?_
  refine lv_istore (lv' := [(4, .int (iI 0)), (3, .int (iI 0)), (2, .int (iI (sumF g t.toNat))), (0, .ref b), (1, .int (iI q))]) hx hb dX0_firstDry_8 hl (by decide) rfl (fun ls hl => ?_)
  have loop_10 : ∀ (n_10 : Nat) (y : Int) (j : Int) (hj : 0 ≤ j ∧ j ≤ t) (hy : y = sumF g j.toNat) (hf : dryF rate q (sumF g t.toNat) g t.toNat 0 0 = dryF rate q (sumF g t.toNat) g (t - j).toNat j y) (hm_10 : t - j < (n_10 : Int)) (ls : Array Slot) (hl : lv_has ls 5 [(0, .ref b), (1, .int (iI q)), (2, .int (iI (sumF g t.toNat))), (3, .int (iI y)), (4, .int (iI j))]), W p l e { frames := 2, cells := 0, slots := 0, locals := 43 } s m args below meth c s.heap [] 0 0 Q (F0 m 10 ls []) := by
    intro n_10
    induction n_10 with
    | zero => intro y j hj hy hf hm_10 ls hl; exact absurd hm_10 (by omega)
    | succ n_10 ih_10 =>
      intro y j hj hy hf hm_10 ls hl
      refine lv_iload hx hb dX0_firstDry_10 (lv_at hl 4 rfl) ?_
      refine lv_aload_n hx hb dX0_firstDry_12 rfl (lv_at hl 0 rfl) ?_
      refine va_get (D := D) (ci := 0) (v := .ref r) (C := RX0) (T := TX0) (N := 2) hx hb hts i0 hown hK.1 hP 0 rfl rfl 0 (by decide) f14 (fun _ h9 => h9) rfl dX0_firstDry_13 ?_
      refine zt_callV C (As := []) (rest := [.int (iI j)]) (c_X4_many l D gi gc gr r a t) (cwV 0 hts gX0_firstDry_X4_many rfl rfl rfl (by decide +kernel) ⟨Nat.le_of_ble_eq_true rfl, Nat.le_of_ble_eq_true rfl⟩) (zt_preV hK (hP.sub (ws' := [(r, .inr (3, [.ref a, .int (iI t)]))]) [1] rfl) [] 0 rfl rfl) rfl hl.1 rfl (Nat.le_of_ble_eq_true rfl) dX0_firstDry_16 ⟨Nat.le_of_ble_eq_true rfl, Nat.le_of_ble_eq_true rfl⟩ (fun r_2 hr_2 => ?_)
      obtain rfl := hr_2
      refine zt_icmp_ge (tgt := 58) hx hb dX0_firstDry_19 (by decide) (by omega) (fun c_3 => ?_) (fun c_3 => ?_)
      · refine lv_iconst (v := iI (-1)) hx hb dX0_firstDry_58 (by decide +kernel) ?_
        exact hQ _ _ _ (congrArg iI (by rw [hf, show (t - j).toNat = 0 by omega]; rfl)) dX0_firstDry_59
      · have hs1 := sumF_i hg (j := j) (by omega)
        have hgj := hg j.toNat (by omega)
        have hcb := camF_b (rate := rate) (x := (q + j) + 1) (tot := sumF g t.toNat) hr (by omega) (by omega)
        refine lv_iload_n hx hb dX0_firstDry_22 rfl (lv_at hl 3 rfl) ?_
        refine lv_aload_n hx hb dX0_firstDry_23 rfl (lv_at hl 0 rfl) ?_
        refine va_get (D := D) (ci := 0) (v := .ref r) (C := RX0) (T := TX0) (N := 2) hx hb hts i0 hown hK.1 hP 0 rfl rfl 0 (by decide) f14 (fun _ h9 => h9) rfl dX0_firstDry_24 ?_
        refine lv_iload hx hb dX0_firstDry_27 (lv_at hl 4 rfl) ?_
        refine zt_callV C (As := [.int (iI j)]) (rest := [.int (iI y)]) (c_X4_at l D gi gc gr r a 20 t g j (by first | omega | assumption) (by first | omega | assumption) (by first | omega | assumption)) (cwV 1 hts gX0_firstDry_X4_at rfl rfl rfl (by decide +kernel) ⟨Nat.le_of_ble_eq_true rfl, Nat.le_of_ble_eq_true rfl⟩) (zt_preV hK (hP.sub (ws' := [(r, .inr (3, [.ref a, .int (iI t)])), (a, aI gi 20 g)]) [1, 2] rfl) [.int (iI j)] 0 rfl rfl) rfl hl.1 rfl (Nat.le_of_ble_eq_true rfl) dX0_firstDry_29 ⟨Nat.le_of_ble_eq_true rfl, Nat.le_of_ble_eq_true rfl⟩ (fun r_4 hr_4 => ?_)
        obtain rfl := hr_4
        refine zt_iadd hx hb dX0_firstDry_32 ?_
        refine lv_istore_n (lv' := [(3, .int (iI (y + (g j.toNat)))), (0, .ref b), (1, .int (iI q)), (2, .int (iI (sumF g t.toNat))), (4, .int (iI j))]) hx hb dX0_firstDry_33 rfl hl (by decide) rfl (fun ls hl => ?_)
        refine lv_aload_n hx hb dX0_firstDry_34 rfl (lv_at hl 1 rfl) ?_
        refine lv_iload_n hx hb dX0_firstDry_35 rfl (lv_at hl 2 rfl) ?_
        refine lv_iload hx hb dX0_firstDry_36 (lv_at hl 4 rfl) ?_
        refine zt_iadd hx hb dX0_firstDry_38 ?_
        refine lv_iconst (v := iI (1)) hx hb dX0_firstDry_39 (by decide +kernel) ?_
        refine zt_iadd hx hb dX0_firstDry_40 ?_
        refine lv_iload_n hx hb dX0_firstDry_41 rfl (lv_at hl 3 rfl) ?_
        refine zt_callV C (As := [.int (iI ((q + j) + 1)), .int (iI (sumF g t.toNat))]) (rest := []) (c_X0_cameIn l D gi gc gr b r rate ((q + j) + 1) (sumF g t.toNat) (by first | omega | assumption) (by first | omega | assumption) (by first | omega | assumption)) (cwV 2 hts gX0_firstDry_X0_cameIn rfl rfl rfl (by decide +kernel) ⟨Nat.le_of_ble_eq_true rfl, Nat.le_of_ble_eq_true rfl⟩) (zt_preV hK (hP.sub (ws' := [(b, .inr (0, [.ref r, .int (iI rate)]))]) [0] rfl) [.int (iI ((q + j) + 1)), .int (iI (sumF g t.toNat))] 0 rfl rfl) rfl hl.1 rfl (Nat.le_of_ble_eq_true rfl) dX0_firstDry_42 ⟨Nat.le_of_ble_eq_true rfl, Nat.le_of_ble_eq_true rfl⟩ (fun r_5 hr_5 => ?_)
        obtain rfl := hr_5
        refine lv_iload_n hx hb dX0_firstDry_45 rfl (lv_at hl 0 rfl) ?_
        refine zt_icmp_ge (tgt := 52) hx hb dX0_firstDry_46 (by decide) (by omega) (fun c_6 => ?_) (fun c_6 => ?_)
        · refine lv_iinc (v := iI (j + 1)) (lv' := [(4, .int (iI (j + 1))), (3, .int (iI (y + (g j.toNat)))), (0, .ref b), (1, .int (iI q)), (2, .int (iI (sumF g t.toNat)))]) hx hb dX0_firstDry_52 hl (k := 4) rfl (iI_add _ _) (by decide) rfl (fun ls hl => ?_)
          refine lv_goto (tgt := 10) hx hb dX0_firstDry_55 (by decide) ?_
          exact ih_10 (y + (g j.toNat)) (j + 1) (by omega) (by rw [hy, show (j + 1).toNat = j.toNat + 1 by omega]; rfl) (by rw [hf, show (t - j).toNat = (t - (j + 1)).toNat + 1 by omega]; rw [dryF_s, if_neg (by omega)]) (by omega) ls (lv_sub hl [2, 3, 4, 1, 0] rfl)
        · refine lv_iload hx hb dX0_firstDry_49 (lv_at hl 4 rfl) ?_
          exact hQ _ _ _ (congrArg iI (by rw [hf, show (t - j).toNat = (t - (j + 1)).toNat + 1 by omega]; rw [dryF_s, if_pos (by omega)])) dX0_firstDry_51
  exact loop_10 ((t - 0).toNat + 1) 0 0 (by omega) (rfl) (by rw [show t - 0 = t by omega]) (by omega) ls (lv_sub hl [3, 4, 2, 1, 0] rfl)
set_option maxHeartbeats 4000000 in
set_option maxRecDepth 100000 in
theorem c_X0_leastDelay (l : Launch) (D : va_G) (gi gc gr : ClassId) (b : Nat) (r : Nat) (a : Nat) (rate : Int) (t : Int) (g : Nat → Int) (hr : 1 ≤ rate ∧ rate ≤ 50) (ht : 0 ≤ t ∧ t ≤ 20) (hg : ∀ j : Nat, (j : Int) < t → 0 ≤ g j ∧ g j ≤ 99) : Met l yX0_leastDelay wsX0_leastDelay { frames := 1, cells := 0, slots := 0, locals := 21 } (zPr D gi gc gr [(b, .inr (0, [.ref r, .int (iI rate)])), (r, .inr (3, [.ref a, .int (iI t)])), (a, aI gi 20 g)] [.ref b]) (vp_Si (fun v => v = iI (leastL rate g t.toNat))) 0 0 (fun _ => False) := by
  refine zt_metRi (own := RX0) (cc := cX0_leastDelay) (maxL := 5) (by decide) rfl rfl (Nat.le_of_ble_eq_true rfl) ?_
  intro p e s m args below meth c Q C hK hP hQ ls hl
  have hx := C.1
  have hb := C.2.1
  have hml := C.2.2.1
  have hown := C.2.2.2.1
  have hts := C.2.2.2.2
  have i0 : ∀ w ∈ u_ws RX0 TX0 2, w ∈ wsX0_leastDelay := by decide +kernel
  have f14 := hts (.fieldLink RX0 14 "Threetwo$Buffer" "sizes" "LThreetwo$Row;") (by decide +kernel)
  have f20 := hts (.fieldLink RX0 20 "Threetwo$Buffer" "rateNow" "I") (by decide +kernel)
  have hl : lv_has ls 5 [(0, .ref b)] := hl
  refine lv_iconst (v := iI (0)) hx hb dX0_leastDelay_0 (by decide +kernel) ?_
  refine lv_istore_n (lv' := [(1, .int (iI 0)), (0, .ref b)]) hx hb dX0_leastDelay_1 rfl hl (by decide) rfl (fun ls hl => ?_)
  refine lv_iconst (v := iI (0)) hx hb dX0_leastDelay_2 (by decide +kernel) ?_
  refine lv_istore_n (lv' := [(2, .int (iI 0)), (1, .int (iI 0)), (0, .ref b)]) hx hb dX0_leastDelay_3 rfl hl (by decide) rfl (fun ls hl => ?_)
  refine lv_iconst (v := iI (0)) hx hb dX0_leastDelay_4 (by decide +kernel) ?_
  refine lv_istore_n (lv' := [(3, .int (iI 0)), (2, .int (iI 0)), (1, .int (iI 0)), (0, .ref b)]) hx hb dX0_leastDelay_5 rfl hl (by decide) rfl (fun ls hl => ?_)
  have loop_6 : ∀ (n_6 : Nat) (x : Int) (y : Int) (j : Int) (hj : 0 ≤ j ∧ j ≤ t) (hy : y = sumF g j.toNat) (hx1 : x = leastL rate g j.toNat) (hm_6 : t - j < (n_6 : Int)) (ls : Array Slot) (hl : lv_has ls 5 [(0, .ref b), (1, .int (iI x)), (2, .int (iI y)), (3, .int (iI j))]), W p l e { frames := 1, cells := 0, slots := 0, locals := 21 } s m args below meth c s.heap [] 0 0 Q (F0 m 6 ls []) := by
    intro n_6
    induction n_6 with
    | zero => intro x y j hj hy hx1 hm_6 ls hl; exact absurd hm_6 (by omega)
    | succ n_6 ih_6 =>
      intro x y j hj hy hx1 hm_6 ls hl
      refine lv_iload_n hx hb dX0_leastDelay_6 rfl (lv_at hl 3 rfl) ?_
      refine lv_aload_n hx hb dX0_leastDelay_7 rfl (lv_at hl 0 rfl) ?_
      refine va_get (D := D) (ci := 0) (v := .ref r) (C := RX0) (T := TX0) (N := 2) hx hb hts i0 hown hK.1 hP 0 rfl rfl 0 (by decide) f14 (fun _ h9 => h9) rfl dX0_leastDelay_8 ?_
      refine zt_callV C (As := []) (rest := [.int (iI j)]) (c_X4_many l D gi gc gr r a t) (cwV 0 hts gX0_leastDelay_X4_many rfl rfl rfl (by decide +kernel) ⟨Nat.le_of_ble_eq_true rfl, Nat.le_of_ble_eq_true rfl⟩) (zt_preV hK (hP.sub (ws' := [(r, .inr (3, [.ref a, .int (iI t)]))]) [1] rfl) [] 0 rfl rfl) rfl hl.1 rfl (Nat.le_of_ble_eq_true rfl) dX0_leastDelay_11 ⟨Nat.le_of_ble_eq_true rfl, Nat.le_of_ble_eq_true rfl⟩ (fun r_1 hr_1 => ?_)
      obtain rfl := hr_1
      refine zt_icmp_ge (tgt := 64) hx hb dX0_leastDelay_14 (by decide) (by omega) (fun c_2 => ?_) (fun c_2 => ?_)
      · refine lv_iload_n hx hb dX0_leastDelay_64 rfl (lv_at hl 1 rfl) ?_
        exact hQ _ _ _ (by rw [hx1, show j = t by omega]) dX0_leastDelay_65
      · have hs1 := sumF_i hg (j := j) (by omega)
        have hgj := hg j.toNat (by omega)
        have hl1 := leastL_i hr hg (j := j) (by omega)
        refine lv_iload_n hx hb dX0_leastDelay_17 rfl (lv_at hl 2 rfl) ?_
        refine lv_aload_n hx hb dX0_leastDelay_18 rfl (lv_at hl 0 rfl) ?_
        refine va_get (D := D) (ci := 0) (v := .ref r) (C := RX0) (T := TX0) (N := 2) hx hb hts i0 hown hK.1 hP 0 rfl rfl 0 (by decide) f14 (fun _ h9 => h9) rfl dX0_leastDelay_19 ?_
        refine lv_iload_n hx hb dX0_leastDelay_22 rfl (lv_at hl 3 rfl) ?_
        refine zt_callV C (As := [.int (iI j)]) (rest := [.int (iI y)]) (c_X4_at l D gi gc gr r a 20 t g j (by first | omega | assumption) (by first | omega | assumption) (by first | omega | assumption)) (cwV 1 hts gX0_leastDelay_X4_at rfl rfl rfl (by decide +kernel) ⟨Nat.le_of_ble_eq_true rfl, Nat.le_of_ble_eq_true rfl⟩) (zt_preV hK (hP.sub (ws' := [(r, .inr (3, [.ref a, .int (iI t)])), (a, aI gi 20 g)]) [1, 2] rfl) [.int (iI j)] 0 rfl rfl) rfl hl.1 rfl (Nat.le_of_ble_eq_true rfl) dX0_leastDelay_23 ⟨Nat.le_of_ble_eq_true rfl, Nat.le_of_ble_eq_true rfl⟩ (fun r_3 hr_3 => ?_)
        obtain rfl := hr_3
        refine zt_iadd hx hb dX0_leastDelay_26 ?_
        refine lv_istore_n (lv' := [(2, .int (iI (y + (g j.toNat)))), (0, .ref b), (1, .int (iI x)), (3, .int (iI j))]) hx hb dX0_leastDelay_27 rfl hl (by decide) rfl (fun ls hl => ?_)
        refine lv_iload_n hx hb dX0_leastDelay_28 rfl (lv_at hl 0 rfl) ?_
        refine lv_aload_n hx hb dX0_leastDelay_29 rfl (lv_at hl 1 rfl) ?_
        refine va_get (D := D) (ci := 0) (v := .int (iI rate)) (C := RX0) (T := TX0) (N := 2) hx hb hts i0 hown hK.1 hP 0 rfl rfl 1 (by decide) f20 (fun _ h9 => h9) rfl dX0_leastDelay_30 ?_
        refine zt_iadd hx hb dX0_leastDelay_33 ?_
        refine lv_iconst (v := iI (1)) hx hb dX0_leastDelay_34 (by decide +kernel) ?_
        refine zt_isub hx hb dX0_leastDelay_35 ?_
        refine lv_aload_n hx hb dX0_leastDelay_36 rfl (lv_at hl 1 rfl) ?_
        refine va_get (D := D) (ci := 0) (v := .int (iI rate)) (C := RX0) (T := TX0) (N := 2) hx hb hts i0 hown hK.1 hP 0 rfl rfl 1 (by decide) f20 (fun _ h9 => h9) rfl dX0_leastDelay_37 ?_
        refine lv_iconst (v := iI (1)) hx hb dX0_leastDelay_40 (by decide +kernel) ?_
        refine zt_mmax hx hb (hml.trans hl.1.symm) hown (hts (.methodLink RX0 39 Lib.Math.max.name) (by decide +kernel)) (hts (.static Lib.Math.max.name) (by decide +kernel)) (hts (.initialized "java/lang/Math") (by decide +kernel)) (hts (.code Lib.Math.max.name Lib.Math.max.code 2 (some .int)) (by decide +kernel)) (Nat.le_of_ble_eq_true rfl) (Nat.le_of_ble_eq_true rfl) (Nat.le_of_ble_eq_true rfl) (Nat.le_of_ble_eq_true rfl) (by omega) dX0_leastDelay_41 (fun m_4 em_4 => ?_)
        obtain rfl : rate = m_4 := by rw [em_4, if_neg (by omega)]
        refine zt_idiv hx hb dX0_leastDelay_44 (by omega) ?_
        have htb := tck_b (rate := rate) (S := y + g j.toNat) hr.1 (by omega)
        refine lv_istore (lv' := [(4, .int (iI ((((y + (g j.toNat)) + rate) - 1) / rate))), (2, .int (iI (y + (g j.toNat)))), (0, .ref b), (1, .int (iI x)), (3, .int (iI j))]) hx hb dX0_leastDelay_45 hl (by decide) rfl (fun ls hl => ?_)
        refine lv_iload_n hx hb dX0_leastDelay_47 rfl (lv_at hl 3 rfl) ?_
        refine lv_iload hx hb dX0_leastDelay_48 (lv_at hl 0 rfl) ?_
        refine lv_iload_n hx hb dX0_leastDelay_50 rfl (lv_at hl 4 rfl) ?_
        refine lv_iconst (v := iI (1)) hx hb dX0_leastDelay_51 (by decide +kernel) ?_
        refine zt_iadd hx hb dX0_leastDelay_52 ?_
        refine zt_isub hx hb dX0_leastDelay_53 ?_
        refine zt_mmax hx hb (hml.trans hl.1.symm) hown (hts (.methodLink RX0 39 Lib.Math.max.name) (by decide +kernel)) (hts (.static Lib.Math.max.name) (by decide +kernel)) (hts (.initialized "java/lang/Math") (by decide +kernel)) (hts (.code Lib.Math.max.name Lib.Math.max.code 2 (some .int)) (by decide +kernel)) (Nat.le_of_ble_eq_true rfl) (Nat.le_of_ble_eq_true rfl) (Nat.le_of_ble_eq_true rfl) (Nat.le_of_ble_eq_true rfl) (by omega) dX0_leastDelay_54 (fun m_5 em_5 => ?_)
        refine lv_istore_n (lv' := [(1, .int (iI m_5)), (4, .int (iI ((((y + (g j.toNat)) + rate) - 1) / rate))), (2, .int (iI (y + (g j.toNat)))), (0, .ref b), (3, .int (iI j))]) hx hb dX0_leastDelay_57 rfl hl (by decide) rfl (fun ls hl => ?_)
        refine lv_iinc (v := iI (j + 1)) (lv' := [(3, .int (iI (j + 1))), (1, .int (iI m_5)), (4, .int (iI ((((y + (g j.toNat)) + rate) - 1) / rate))), (2, .int (iI (y + (g j.toNat)))), (0, .ref b)]) hx hb dX0_leastDelay_58 hl (k := 4) rfl (iI_add _ _) (by decide) rfl (fun ls hl => ?_)
        refine lv_goto (tgt := 6) hx hb dX0_leastDelay_61 (by decide) ?_
        exact ih_6 m_5 (y + (g j.toNat)) (j + 1) (by omega) (by rw [hy, show (j + 1).toNat = j.toNat + 1 by omega]; rfl) (by rw [em_5, hx1, hy, show (j + 1).toNat = j.toNat + 1 by omega]; rw [leastL_s]; unfold tckF; rw [show ((j.toNat : Nat) : Int) = j by omega]; rfl) (by omega) ls (lv_sub hl [4, 1, 3, 0] rfl)
  exact loop_6 ((t - 0).toNat + 1) 0 0 0 (by omega) (rfl) (rfl) (by omega) ls (lv_sub hl [3, 2, 1, 0] rfl)
set_option maxHeartbeats 4000000 in
set_option maxRecDepth 100000 in
theorem c_X0_peak (l : Launch) (D : va_G) (gi gc gr : ClassId) (b : Nat) (r : Nat) (a : Nat) (rate : Int) (t : Int) (g : Nat → Int) (hr : 1 ≤ rate ∧ rate ≤ 50) (ht : 0 ≤ t ∧ t ≤ 20) (hg : ∀ j : Nat, (j : Int) < t → 0 ≤ g j ∧ g j ≤ 99) : Met l yX0_peak wsX0_peak { frames := 2, cells := 0, slots := 0, locals := 45 } (zPr D gi gc gr [(b, .inr (0, [.ref r, .int (iI rate)])), (r, .inr (3, [.ref a, .int (iI t)])), (a, aI gi 20 g)] [.ref b]) (vp_Si (fun v => v = iI (peakL rate (leastL rate g t.toNat) (sumF g t.toNat) g t.toNat))) 0 0 (fun _ => False) := by
  refine zt_metRi (own := RX0) (cc := cX0_peak) (maxL := 6) (by decide) rfl rfl (Nat.le_of_ble_eq_true rfl) ?_
  intro p e s m args below meth c Q C hK hP hQ ls hl
  have hx := C.1
  have hb := C.2.1
  have hml := C.2.2.1
  have hown := C.2.2.2.1
  have hts := C.2.2.2.2
  have i0 : ∀ w ∈ u_ws RX0 TX0 2, w ∈ wsX0_peak := by decide +kernel
  have f14 := hts (.fieldLink RX0 14 "Threetwo$Buffer" "sizes" "LThreetwo$Row;") (by decide +kernel)
  have hl : lv_has ls 6 [(0, .ref b)] := hl
  have hS := sumF_i hg (j := t) (by omega)
  have hL := leastL_i hr hg (j := t) (by omega)
  refine lv_aload_n hx hb dX0_peak_0 rfl (lv_at hl 0 rfl) ?_
  refine zt_callV C (As := []) (rest := []) (c_X0_leastDelay l D gi gc gr b r a rate t g (by first | omega | assumption) (by first | omega | assumption) (by first | omega | assumption)) (cwV 0 hts gX0_peak_X0_leastDelay rfl rfl rfl (by decide +kernel) ⟨Nat.le_of_ble_eq_true rfl, Nat.le_of_ble_eq_true rfl⟩) (zt_preV hK (hP.sub (ws' := [(b, .inr (0, [.ref r, .int (iI rate)])), (r, .inr (3, [.ref a, .int (iI t)])), (a, aI gi 20 g)]) [0, 1, 2] rfl) [] 0 rfl rfl) rfl hl.1 rfl (Nat.le_of_ble_eq_true rfl) dX0_peak_1 ⟨Nat.le_of_ble_eq_true rfl, Nat.le_of_ble_eq_true rfl⟩ (fun r_1 hr_1 => ?_)
  obtain rfl := hr_1
  refine lv_istore_n (lv' := [(1, .int (iI (leastL rate g t.toNat))), (0, .ref b)]) hx hb dX0_peak_4 rfl hl (by decide) rfl (fun ls hl => ?_)
  refine lv_aload_n hx hb dX0_peak_5 rfl (lv_at hl 1 rfl) ?_
  refine zt_callV C (As := []) (rest := []) (c_X0_sumOfSizes l D gi gc gr b r a rate t g (by first | omega | assumption) (by first | omega | assumption) (by first | omega | assumption)) (cwV 0 hts gX0_peak_X0_sumOfSizes rfl rfl rfl (by decide +kernel) ⟨Nat.le_of_ble_eq_true rfl, Nat.le_of_ble_eq_true rfl⟩) (zt_preV hK (hP.sub (ws' := [(b, .inr (0, [.ref r, .int (iI rate)])), (r, .inr (3, [.ref a, .int (iI t)])), (a, aI gi 20 g)]) [0, 1, 2] rfl) [] 0 rfl rfl) rfl hl.1 rfl (Nat.le_of_ble_eq_true rfl) dX0_peak_6 ⟨Nat.le_of_ble_eq_true rfl, Nat.le_of_ble_eq_true rfl⟩ (fun r_2 hr_2 => ?_)
  obtain rfl := hr_2
  refine lv_istore_n (lv' := [(2, .int (iI (sumF g t.toNat))), (1, .int (iI (leastL rate g t.toNat))), (0, .ref b)]) hx hb dX0_peak_9 rfl hl (by decide) rfl (fun ls hl => ?_)
  refine lv_iconst (v := iI (0)) hx hb dX0_peak_10 (by decide +kernel) ?_
  refine lv_istore_n (lv' := [(3, .int (iI 0)), (2, .int (iI (sumF g t.toNat))), (1, .int (iI (leastL rate g t.toNat))), (0, .ref b)]) hx hb dX0_peak_11 rfl hl (by decide) rfl (fun ls hl => ?_)
  refine lv_iconst (v := iI (0)) hx hb dX0_peak_12 (by decide +kernel) ?_
  refine lv_istore (lv' := [(4, .int (iI 0)), (3, .int (iI 0)), (2, .int (iI (sumF g t.toNat))), (1, .int (iI (leastL rate g t.toNat))), (0, .ref b)]) hx hb dX0_peak_13 hl (by decide) rfl (fun ls hl => ?_)
  refine lv_iconst (v := iI (0)) hx hb dX0_peak_15 (by decide +kernel) ?_
  refine lv_istore (lv' := [(5, .int (iI 0)), (4, .int (iI 0)), (3, .int (iI 0)), (2, .int (iI (sumF g t.toNat))), (1, .int (iI (leastL rate g t.toNat))), (0, .ref b)]) hx hb dX0_peak_16 hl (by decide) rfl (fun ls hl => ?_)
  have loop_18 : ∀ (n_18 : Nat) (x : Int) (y : Int) (j : Int) (hj : 0 ≤ j ∧ j ≤ t) (hy : y = sumF g j.toNat) (hx1 : x = peakL rate (leastL rate g t.toNat) (sumF g t.toNat) g j.toNat) (hm_18 : t - j < (n_18 : Int)) (ls : Array Slot) (hl : lv_has ls 6 [(0, .ref b), (1, .int (iI (leastL rate g t.toNat))), (2, .int (iI (sumF g t.toNat))), (3, .int (iI x)), (4, .int (iI y)), (5, .int (iI j))]), W p l e { frames := 2, cells := 0, slots := 0, locals := 45 } s m args below meth c s.heap [] 0 0 Q (F0 m 18 ls []) := by
    intro n_18
    induction n_18 with
    | zero => intro x y j hj hy hx1 hm_18 ls hl; exact absurd hm_18 (by omega)
    | succ n_18 ih_18 =>
      intro x y j hj hy hx1 hm_18 ls hl
      refine lv_iload hx hb dX0_peak_18 (lv_at hl 5 rfl) ?_
      refine lv_aload_n hx hb dX0_peak_20 rfl (lv_at hl 0 rfl) ?_
      refine va_get (D := D) (ci := 0) (v := .ref r) (C := RX0) (T := TX0) (N := 2) hx hb hts i0 hown hK.1 hP 0 rfl rfl 0 (by decide) f14 (fun _ h9 => h9) rfl dX0_peak_21 ?_
      refine zt_callV C (As := []) (rest := [.int (iI j)]) (c_X4_many l D gi gc gr r a t) (cwV 0 hts gX0_peak_X4_many rfl rfl rfl (by decide +kernel) ⟨Nat.le_of_ble_eq_true rfl, Nat.le_of_ble_eq_true rfl⟩) (zt_preV hK (hP.sub (ws' := [(r, .inr (3, [.ref a, .int (iI t)]))]) [1] rfl) [] 0 rfl rfl) rfl hl.1 rfl (Nat.le_of_ble_eq_true rfl) dX0_peak_24 ⟨Nat.le_of_ble_eq_true rfl, Nat.le_of_ble_eq_true rfl⟩ (fun r_3 hr_3 => ?_)
      obtain rfl := hr_3
      refine zt_icmp_ge (tgt := 69) hx hb dX0_peak_27 (by decide) (by omega) (fun c_4 => ?_) (fun c_4 => ?_)
      · refine lv_iload_n hx hb dX0_peak_69 rfl (lv_at hl 3 rfl) ?_
        exact hQ _ _ _ (by rw [hx1, show j = t by omega]) dX0_peak_70
      · have hs1 := sumF_i hg (j := j) (by omega)
        have hgj := hg j.toNat (by omega)
        have hcb := camF_b (rate := rate) (x := (leastL rate g t.toNat + j) + 1) (tot := sumF g t.toNat) hr (by omega) (by omega)
        have hpb := peakL_i (rate := rate) (q := leastL rate g t.toNat) (tot := sumF g t.toNat) hr (by omega) (by omega) hg ht.2 (j := j) (by omega)
        refine lv_iload_n hx hb dX0_peak_30 rfl (lv_at hl 3 rfl) ?_
        refine lv_aload_n hx hb dX0_peak_31 rfl (lv_at hl 0 rfl) ?_
        refine lv_iload_n hx hb dX0_peak_32 rfl (lv_at hl 1 rfl) ?_
        refine lv_iload hx hb dX0_peak_33 (lv_at hl 5 rfl) ?_
        refine zt_iadd hx hb dX0_peak_35 ?_
        refine lv_iconst (v := iI (1)) hx hb dX0_peak_36 (by decide +kernel) ?_
        refine zt_iadd hx hb dX0_peak_37 ?_
        refine lv_iload_n hx hb dX0_peak_38 rfl (lv_at hl 2 rfl) ?_
        refine zt_callV C (As := [.int (iI (((leastL rate g t.toNat) + j) + 1)), .int (iI (sumF g t.toNat))]) (rest := [.int (iI x)]) (c_X0_cameIn l D gi gc gr b r rate (((leastL rate g t.toNat) + j) + 1) (sumF g t.toNat) (by first | omega | assumption) (by first | omega | assumption) (by first | omega | assumption)) (cwV 2 hts gX0_peak_X0_cameIn rfl rfl rfl (by decide +kernel) ⟨Nat.le_of_ble_eq_true rfl, Nat.le_of_ble_eq_true rfl⟩) (zt_preV hK (hP.sub (ws' := [(b, .inr (0, [.ref r, .int (iI rate)]))]) [0] rfl) [.int (iI (((leastL rate g t.toNat) + j) + 1)), .int (iI (sumF g t.toNat))] 0 rfl rfl) rfl hl.1 rfl (Nat.le_of_ble_eq_true rfl) dX0_peak_39 ⟨Nat.le_of_ble_eq_true rfl, Nat.le_of_ble_eq_true rfl⟩ (fun r_5 hr_5 => ?_)
        obtain rfl := hr_5
        refine lv_iload hx hb dX0_peak_42 (lv_at hl 4 rfl) ?_
        refine zt_isub hx hb dX0_peak_44 ?_
        refine zt_mmax hx hb (hml.trans hl.1.symm) hown (hts (.methodLink RX0 39 Lib.Math.max.name) (by decide +kernel)) (hts (.static Lib.Math.max.name) (by decide +kernel)) (hts (.initialized "java/lang/Math") (by decide +kernel)) (hts (.code Lib.Math.max.name Lib.Math.max.code 2 (some .int)) (by decide +kernel)) (Nat.le_of_ble_eq_true rfl) (Nat.le_of_ble_eq_true rfl) (Nat.le_of_ble_eq_true rfl) (Nat.le_of_ble_eq_true rfl) (by omega) dX0_peak_45 (fun m_6 em_6 => ?_)
        refine lv_istore_n (lv' := [(3, .int (iI m_6)), (0, .ref b), (1, .int (iI (leastL rate g t.toNat))), (2, .int (iI (sumF g t.toNat))), (4, .int (iI y)), (5, .int (iI j))]) hx hb dX0_peak_48 rfl hl (by decide) rfl (fun ls hl => ?_)
        refine lv_iload hx hb dX0_peak_49 (lv_at hl 4 rfl) ?_
        refine lv_aload_n hx hb dX0_peak_51 rfl (lv_at hl 1 rfl) ?_
        refine va_get (D := D) (ci := 0) (v := .ref r) (C := RX0) (T := TX0) (N := 2) hx hb hts i0 hown hK.1 hP 0 rfl rfl 0 (by decide) f14 (fun _ h9 => h9) rfl dX0_peak_52 ?_
        refine lv_iload hx hb dX0_peak_55 (lv_at hl 5 rfl) ?_
        refine zt_callV C (As := [.int (iI j)]) (rest := [.int (iI y)]) (c_X4_at l D gi gc gr r a 20 t g j (by first | omega | assumption) (by first | omega | assumption) (by first | omega | assumption)) (cwV 1 hts gX0_peak_X4_at rfl rfl rfl (by decide +kernel) ⟨Nat.le_of_ble_eq_true rfl, Nat.le_of_ble_eq_true rfl⟩) (zt_preV hK (hP.sub (ws' := [(r, .inr (3, [.ref a, .int (iI t)])), (a, aI gi 20 g)]) [1, 2] rfl) [.int (iI j)] 0 rfl rfl) rfl hl.1 rfl (Nat.le_of_ble_eq_true rfl) dX0_peak_57 ⟨Nat.le_of_ble_eq_true rfl, Nat.le_of_ble_eq_true rfl⟩ (fun r_7 hr_7 => ?_)
        obtain rfl := hr_7
        refine zt_iadd hx hb dX0_peak_60 ?_
        refine lv_istore (lv' := [(4, .int (iI (y + (g j.toNat)))), (3, .int (iI m_6)), (0, .ref b), (1, .int (iI (leastL rate g t.toNat))), (2, .int (iI (sumF g t.toNat))), (5, .int (iI j))]) hx hb dX0_peak_61 hl (by decide) rfl (fun ls hl => ?_)
        refine lv_iinc (v := iI (j + 1)) (lv' := [(5, .int (iI (j + 1))), (4, .int (iI (y + (g j.toNat)))), (3, .int (iI m_6)), (0, .ref b), (1, .int (iI (leastL rate g t.toNat))), (2, .int (iI (sumF g t.toNat)))]) hx hb dX0_peak_63 hl (k := 5) rfl (iI_add _ _) (by decide) rfl (fun ls hl => ?_)
        refine lv_goto (tgt := 18) hx hb dX0_peak_66 (by decide) ?_
        exact ih_18 m_6 (y + (g j.toNat)) (j + 1) (by omega) (by rw [hy, show (j + 1).toNat = j.toNat + 1 by omega]; rfl) (by rw [em_6, hx1, hy, show (j + 1).toNat = j.toNat + 1 by omega]; rw [peakL_s]; rw [show ((j.toNat : Nat) : Int) = j by omega]) (by omega) ls (lv_sub hl [3, 4, 5, 2, 1, 0] rfl)
  exact loop_18 ((t - 0).toNat + 1) 0 0 0 (by omega) (rfl) (rfl) (by omega) ls (lv_sub hl [5, 4, 3, 2, 1, 0] rfl)
