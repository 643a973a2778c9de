theorem t_notrace (l : Launch) (h : l.flags = flags0) : l.stackTraces = false := by
  unfold Launch.stackTraces
  rw [h]
  decide +kernel
/-- the law's own cell: any int -/
theorem c_L_cell (l : Launch) (b L : Nat) (xs : Nat → Int32) (hL : L ≤ 260) (k : Int) (hk : 0 ≤ k ∧ k < 1000) : Met l yL_cell wsL_cell { frames := 0, cells := 0, slots := 0, locals := 0 } (fun v U => v = ([.ref b, .int (iI k)] : List Value).toArray ∧ va_X b L xs U U.heap) (vp_Si (fun _ => True)) 0 0 (fun _ => False) := by
  refine Met.ofW (cc := cL_cell) (maxL := 2) (ret := some .int) (by decide) rfl ?_
  intro p e s m args below meth c s₁ B hml hv
  obtain ⟨rfl, hX⟩ := hv
  have hl := lv_entry ([.ref b, .int (iI k)]) (n := 2) (Nat.le_of_ble_eq_true rfl)
  rw [lg_entry_eq]
  have hr := B.returns
  have hlk := B.notSynchronized
  have hx := B.exec
  have hb := B.bytes
  have hts := atoms_spec (ws := wsL_cell) B.pre
  have hown : s.vm.findClass RL = some m.cls := findClass_of_methodNamed B.named
  have hbl : b < s.heap.size := by
    obtain ⟨scr, h1, -⟩ := hX
    exact (Array.getElem?_eq_some_iff.mp h1).1
  have hbA : ¬ (fun _ : Nat => False) b := fun h => h
  have hS : va_S (fun _ : Nat => False) s.heap s.heap [] := va_S.rf
  generalize (lg_sl ([.ref b, .int (iI k)]) ++ List.replicate (2 - (lg_sl ([.ref b, .int (iI k)])).length) Slot.unset).toArray = ls at hl ⊢
  have hl : lv_has ls 2 [(0, .ref b), (1, .int (iI k))] := hl
  refine lv_iload_n hx hb dL_cell_0 rfl (lv_at hl 1 rfl) ?_
  refine lv_aload_n hx hb dL_cell_1 rfl (lv_at hl 0 rfl) ?_
  refine va_slen hx hb hX hbl hbA hS dL_cell_2 ?_
  rw [iI_ofN]
  refine zt_icmp_ge (tgt := 12) hx hb dL_cell_3 (by decide) (by omega) (fun c_1 => ?_) (fun c_1 => ?_)
  · refine lv_ldc (v := iI (790386105)) hx hb hown (hts (.constant RL 8 (790386105)) (by decide +kernel)) dL_cell_12 ?_
    refine lv_iload_n hx hb dL_cell_14 rfl (lv_at hl 1 rfl) ?_
    refine lv_iconst (v := iI (3)) hx hb dL_cell_15 (by decide +kernel) ?_
    refine zt_iadd hx hb dL_cell_16 ?_
    refine zt_imul hx hb dL_cell_17 ?_
    exact W.iret hx hb hr (fun t ht _ => ⟨_, rfl, trivial, ht⟩) (fun q hq => by cases hq) dL_cell_18 hlk
  · refine lv_aload_n hx hb dL_cell_6 rfl (lv_at hl 0 rfl) ?_
    refine lv_iload_n hx hb dL_cell_7 rfl (lv_at hl 1 rfl) ?_
    refine va_sld hx hb hX hbl hbA hS (iI_in (by omega) (by omega)) dL_cell_8 ?_
    refine lv_goto (tgt := 18) hx hb dL_cell_9 (by decide) ?_
    exact W.iret hx hb hr (fun t ht _ => ⟨_, rfl, trivial, ht⟩) (fun q hq => by cases hq) dL_cell_18 hlk
set_option maxRecDepth 100000 in
theorem lw_known {s : State} {args : Array Value} (hts : ∀ w ∈ lw_tbl, w.before args s = true) : ∃ D : va_G, ∀ (k : Nat) (q : vw_C), vwCl[k]? = some q → u_Kn s q.1 q.2.1 q.2.2 (D.1 k) (D.2 k) := by
  obtain ⟨c0, iS0, hKn0⟩ := u_known (C := RX0) (T := TX0) (N := 2) (n := 2) hts inX0 (hts (.instantiable RX0 2) (by decide +kernel))
  obtain ⟨c1, iS1, hKn1⟩ := u_known (C := RX2) (T := TX2) (N := 4) (n := 4) hts inX2 (hts (.instantiable RX2 4) (by decide +kernel))
  obtain ⟨c2, iS2, hKn2⟩ := u_known (C := RX3) (T := TX3) (N := 9) (n := 9) hts inX3 (hts (.instantiable RX3 9) (by decide +kernel))
  obtain ⟨c3, iS3, hKn3⟩ := u_known (C := RX4) (T := TX4) (N := 2) (n := 2) hts inX4 (hts (.instantiable RX4 2) (by decide +kernel))
  obtain ⟨c4, iS4, hKn4⟩ := u_known (C := RX5) (T := TX5) (N := 6) (n := 6) hts inX5 (hts (.instantiable RX5 6) (by decide +kernel))
  obtain ⟨c5, iS5, hKn5⟩ := u_known (C := RX6) (T := TX6) (N := 7) (n := 7) hts inX6 (hts (.instantiable RX6 7) (by decide +kernel))
  refine ⟨(fun k => if k = 0 then c0 else if k = 1 then c1 else if k = 2 then c2 else if k = 3 then c3 else if k = 4 then c4 else c5, fun k => if k = 0 then iS0 else if k = 1 then iS1 else if k = 2 then iS2 else if k = 3 then iS3 else if k = 4 then iS4 else iS5), ?_⟩
  intro k q hq
  match k, hq with
  | 0, hq => cases hq; exact hKn0
  | 1, hq => cases hq; exact hKn1
  | 2, hq => cases hq; exact hKn2
  | 3, hq => cases hq; exact hKn3
  | 4, hq => cases hq; exact hKn4
  | 5, hq => cases hq; exact hKn5
  | k + 6, hq => simp [vwCl] at hq
theorem lw_arr {s : State} {args : Array Value} {ty : FieldType} (hty : ∀ C, ty ≠ .object C) (h : (Cond.arrayClass ty).before args s = true) : ∃ cA : ClassId, ArrOfT s cA ty ∧ va_RA s cA ty := by
  obtain ⟨cA, kA, comp, h1, h2, h3⟩ := Cond.arrayClass_spec h
  refine ⟨cA, fun n z => ⟨fun k h => (by cases h), kA, h2, comp, h3⟩, ?_⟩
  cases ty with
  | object C => exact absurd rfl (hty C)
  | _ => exact h1
theorem lw_arrQ {s : State} {C : String} (h : va_AO C s) : ∃ cA : ClassId, ArrOfT s cA (.object C) ∧ va_RA s cA (.object C) := by
  obtain ⟨comp, cA, kA, h1, -, h3, h4, h5⟩ := Cond.arrayOver_spec h
  exact ⟨cA, fun n z => ⟨fun k h => (by cases h), kA, h3, comp, h4⟩, kA, comp, h3, h4, h1, h5⟩
set_option maxRecDepth 100000 in
theorem lw_zK {s : State} {args : Array Value} (hts : ∀ w ∈ lw_tbl, w.before args s = true) : ∃ (D : va_G) (gi gc gr : ClassId), zK D gi gc gr s := by
  obtain ⟨D, hD⟩ := lw_known hts
  have hAO : va_AO RX4 s := va_AO.of (hts (.arrayOver (.object RX4)) (by decide +kernel))
  obtain ⟨gi, hi⟩ := lw_arr (fun C h => by cases h) (hts (.arrayClass .int) (by decide +kernel))
  obtain ⟨gc, hc⟩ := lw_arr (fun C h => by cases h) (hts (.arrayClass .char) (by decide +kernel))
  obtain ⟨gr, hr⟩ := lw_arrQ hAO
  refine ⟨D, gi, gc, gr, ⟨hD, fun k q hk => ?_⟩, hAO, va_Nw.of rfl (hts (.fieldLinkNest RX6 122 "Threetwo$Buffer" "rateNow" "I" "Threetwo") (by decide +kernel)), va_Nw.of rfl (hts (.fieldLinkNest RX6 127 "Threetwo$Buffer" "sizes" "LThreetwo$Row;" "Threetwo") (by decide +kernel)), va_Nw.of rfl (hts (.fieldLinkNest RX6 135 "Threetwo$Rhythm" "places" "[I" "Threetwo") (by decide +kernel)), va_Nw.of rfl (hts (.fieldLinkNest RX6 139 "Threetwo$Rhythm" "frameOf" "[I" "Threetwo") (by decide +kernel)), va_Nw.of rfl (hts (.fieldLinkNest RX6 148 "Threetwo$Rhythm" "frames" "I" "Threetwo") (by decide +kernel)), va_Nw.of rfl (hts (.fieldLinkNest RX6 156 "Threetwo$Rhythm" "frameLooks" "[I" "Threetwo") (by decide +kernel)), va_Nw.of rfl (hts (.fieldLinkNest RX6 159 "Threetwo$Rhythm" "firsts" "[I" "Threetwo") (by decide +kernel)), va_Nw.of rfl (hts (.fieldLinkNest RX6 162 "Threetwo$Rhythm" "lengths" "[I" "Threetwo") (by decide +kernel)), va_Nw.of rfl (hts (.fieldLinkNest RX6 184 "Threetwo$Strip" "notes" "I" "Threetwo") (by decide +kernel)), va_Nw.of rfl (hts (.fieldLinkNest RX6 187 "Threetwo$Rhythm" "cost" "I" "Threetwo") (by decide +kernel)), va_Nw.of rfl (hts (.fieldLinkNest RX6 190 "Threetwo$Prints" "many" "I" "Threetwo") (by decide +kernel)), va_Nw.of rfl (hts (.fieldLinkNest RX6 79 "Threetwo$Strip" "looks" "LThreetwo$Row;" "Threetwo") (by decide +kernel))⟩
  match k, hk with
  | 0, hk => cases hk; exact hi
  | 1, hk => cases hk; exact hc
  | 2, hk => cases hk; exact hr
  | k + 3, hk => simp at hk
set_option maxRecDepth 100000 in
theorem lw_words : ∀ w ∈ zXw, w ∈ lw_tbl := by decide +kernel
set_option maxRecDepth 100000 in
theorem lw_texts : ∀ q ∈ zTexts, Cond.stringRef RX6 q.1 q.2 ∈ lw_tbl := by decide +kernel
set_option maxRecDepth 100000 in
theorem lw_exact : ∀ q ∈ zTexts, Cond.exactly (.string RX6 q.1) "java/lang/String" ∈ flatC (Jvm.Cond.and given_1 narrow_1) := by decide +kernel
theorem lw_zX {s : State} {args : Array Value} (hts : ∀ w ∈ lw_tbl, w.before args s = true) (hg : (Jvm.Cond.and given_1 narrow_1).before args s = true) : zX s := by
  refine ⟨fun w hw => ?_, fun q hq => ?_⟩
  · have h1 := hts w (lw_words w hw)
    simp only [zXw, List.mem_cons, List.not_mem_nil, or_false] at hw
    rcases hw with e | e | e | e | e | e <;> (subst e; exact va_Nw.of rfl h1)
  · have h1 := hts _ (lw_texts q hq)
    obtain ⟨a, c, cell, k, h2, -⟩ := Cond.exactly_spec (flat_of_before _ hg _ (lw_exact q hq))
    exact ⟨a, vk_R.of h1 h2⟩
set_option maxRecDepth 100000 in
theorem lw_zC {s : State} {args : Array Value} (hg : (Jvm.Cond.and given_1 narrow_1).before args s = true) : zC s :=
  ⟨va_Nc.of (flat_of_before _ hg _ (by decide +kernel)), va_Nc.of (flat_of_before _ hg _ (by decide +kernel)), va_Nc.of (flat_of_before _ hg _ (by decide +kernel))⟩
set_option maxRecDepth 100000 in
theorem lw_zS {s : State} {args : Array Value} (hts : ∀ w ∈ lw_tbl, w.before args s = true) (hg : (Jvm.Cond.and given_1 narrow_1).before args s = true) : zS (fun q : Nat => s.heap.size ≤ q) s s.heap :=
  ⟨vx_Zqof (hts (.laysStatic Bundle.tN "UNASSIGNED_STACK" Bundle.steD) (by decide +kernel)) (hts (.initialized Bundle.tN) (by decide +kernel)) (flat_of_before _ hg _ (by decide +kernel)) (fun a h1 h2 => absurd h1 (Nat.not_lt.mpr h2)), vx_Zqof (hts (.laysStatic Bundle.tN "SUPPRESSED_SENTINEL" Bundle.listD) (by decide +kernel)) (hts (.initialized Bundle.tN) (by decide +kernel)) (flat_of_before _ hg _ (by decide +kernel)) (fun a h1 h2 => absurd h1 (Nat.not_lt.mpr h2))⟩
