set_option maxHeartbeats 64000000 in
set_option maxRecDepth 100000 in
/-- YOUR PART -/
theorem whole_start {p : Program} {e : Env} {s : State} {m : MethodId} {below : List Frame} {meth : Method} {c : Code} (l : Launch) (hflags : l.flags = flags0) {b L : Nat} {xs : Nat → Int32} (hL : L ≤ 260) (C0 : lw_At p s m meth c b L xs) : W p l e room_1 s m #[Value.ref b] below meth c s.heap [] 0 0 (lw_Z below #[Value.ref b] s) (entryFrame m ([Value.ref b] : List Value).toArray 10) := by
  obtain ⟨hx, hb, hrt, hml, hown, hts0, hXs, hbl, hlk, hgv⟩ := id C0
  have hfl := t_notrace l hflags
  obtain ⟨D, gi, gc, gr, hK⟩ := lw_zK hts0
  have hX := lw_zX hts0 hgv
  have hCx : zC s := lw_zC hgv
  have hZ := lw_zS hts0 hgv
  have hts : ∀ w ∈ wsL_law, w.before #[Value.ref b] s = true := fun w h => hts0 w (wsL_law_in w h)
  have C : CallFix p m c code 10 s #[Value.ref b] wsL_law RL := ⟨hx, hb, hml, hown, hts⟩
  have hown : s.vm.findClass RL = some m.cls := C.2.2.2.1
  obtain ⟨A, hAe⟩ : ∃ A : Nat → Prop, A = fun q : Nat => s.heap.size ≤ q := ⟨_, rfl⟩
  rw [← hAe] at hZ
  have hA : ∀ q : Nat, s.heap.size ≤ q → A q := fun q h => by rw [hAe]; exact h
  have hfr : ∀ q : Nat, A q → s.heap.size ≤ q := fun q h => by rw [hAe] at h; exact h
  have hbA : ¬ A b := fun h => absurd (hfr b h) (Nat.not_le.mpr hbl)
  have hS : va_S A s.heap s.heap [] := va_S.rf
  have hP : va_P D vwCl [] s.heap := fun k q h => by simp at h
  have hD : va_D A [] := ⟨fun i j p q h => by simp at h, fun k q h => by simp at h⟩
  have hl := lv_entry ([.ref b]) (n := 10) (Nat.le_of_ble_eq_true rfl)
  rw [lg_entry_eq]
  generalize (lg_sl ([.ref b]) ++ List.replicate (10 - (lg_sl ([.ref b])).length) Slot.unset).toArray = ls at hl ⊢
  have hl : lv_has ls 10 [(0, .ref b)] := hl
  have i6 := inlX6
  refine va_new (ci := 5) (fs := [.null, .null, .null, .null, .null, .int 0, .int 0]) (C := RX6) (T := TX6) (N := 7) hx hb hts i6 tyX6 tyX6_ok hown (hts (.classLink RL 9 RX6) (by decide +kernel)) (hts (.instantiable RX6 7) (by decide +kernel)) (hts (.initialized RX6) (by decide +kernel)) hK.1 hP hD hS hA rfl (fun j hj => by rcases (show j = 0 ∨ j = 1 ∨ j = 2 ∨ j = 3 ∨ j = 4 ∨ j = 5 ∨ j = 6 by omega) with rfl | rfl | rfl | rfl | rfl | rfl | rfl <;> rfl) (Nat.le_of_ble_eq_true rfl) (Nat.le_of_ble_eq_true rfl) dL_law_0 (fun v_1 H hP hD hS => ?_)
  have hP : va_P D vwCl [(v_1, .inr (5, [.null, .null, .null, .null, .null, .int (iI 0), .int (iI 0)]))] H := hP
  have hD : va_D A [(v_1, .inr (5, [.null, .null, .null, .null, .null, .int (iI 0), .int (iI 0)]))] := hD
  refine lv_dup hx hb dL_law_3 rfl ?_
  have hPc := hP.sub (ws' := [(v_1, .inr (5, [.null, .null, .null, .null, .null, .int (iI 0), .int (iI 0)]))]) [0] rfl
  have hDc := hD.sub (ws' := [(v_1, .inr (5, [.null, .null, .null, .null, .null, .int (iI 0), .int (iI 0)]))]) [0] (by decide) rfl
  have hFc := va_free (wc := [(v_1, .inr (5, [.null, .null, .null, .null, .null, .int (iI 0), .int (iI 0)]))]) hD hS hA [0] rfl
  refine va_callv (va_runI C (As := []) (rest := [.ref v_1]) (c_X6_init l D gi gc gr H.size v_1) (cwI 0 hts gL_law_X6_init rfl rfl rfl (hts (.initialized RX6) (by decide +kernel)) (hts (.methodLink RL 11 yX6_init) (by decide +kernel)) (hts (.instanceMethod yX6_init) (by decide +kernel)) rfl (by decide +kernel) ⟨Nat.le_of_ble_eq_true rfl, Nat.le_of_ble_eq_true rfl⟩) (zt_preSw hK hPc hDc (Value.ref v_1 :: [])) rfl rfl hl.1 rfl (lv_room (Nat.le_of_ble_eq_true rfl)) dL_law_4 ⟨by show _ ≤ 600172; omega, by show _ ≤ 7300668; omega⟩) hS (fun q _ h => hFc q h) hFc (fun u_r_2 T9 H1 locs hT9 hvm hw hB hz1 hk1 hS => ?_)
  obtain ⟨k1_2, k2_2, d_2, r_2, a_2, r2_2, a2_2, n1_2, n2_2, sg_2, o_2, q1_2, q2_2, q3_2, q4_2, q5_2, q6_2, w_2, rw_2, x0_2, x1_2, x2_2, y0_2, y1_2, y2_2, bq_2, sq_2, bu_2, br_2, ba_2⟩ := u_r_2
  try dsimp only at hw
  obtain ⟨hP1, hD1⟩ := hB
  rw [hT9] at hP1
  obtain ⟨hP, hD⟩ := zt_back (w1 := [(v_1, .inr (5, [.ref k1_2, .ref d_2, .ref o_2, .ref w_2, .ref bu_2, .int (iI 6), .int (iI 0)])), (k1_2, .inr (3, [.ref k2_2, .int (iI 0)])), (k2_2, aI gi 24 (fun _ => 0)), (d_2, .inr (4, [.ref r_2, .ref r2_2, .ref n1_2, .ref n2_2, .ref sg_2, .int (iI 0)])), (r_2, .inr (3, [.ref a_2, .int (iI 0)])), (a_2, aI gi 60 (fun _ => 0)), (r2_2, .inr (3, [.ref a2_2, .int (iI 0)])), (a2_2, aI gi 60 (fun _ => 0)), (n1_2, aI gi 512 (fun _ => 0)), (n2_2, aI gi 512 (fun _ => 0)), (sg_2, .inl (gc, 60, .inl (fun _ => 0))), (o_2, .inr (2, [.ref q1_2, .ref q2_2, .ref q3_2, .ref q4_2, .ref q5_2, .ref q6_2, .int (iI 0), .int (iI 0), .int (iI 0)])), (q1_2, aI gi 300 (fun _ => 0)), (q2_2, aI gi 60 (fun _ => 0)), (q3_2, aI gi 60 (fun _ => 0)), (q4_2, aI gi 60 (fun _ => 0)), (q5_2, aI gi 60 (fun _ => 0)), (q6_2, aI gi 60 (fun _ => 0)), (w_2, .inr (1, [.ref rw_2, .ref bq_2, .ref sq_2, .int (iI 0)])), (rw_2, .inl (gr, 3, .inr (.inr (.inr (.inr (rF (fun j : Nat => if j = 0 then x0_2 else if j = 1 then x1_2 else x2_2))))))), (x0_2, .inr (3, [.ref y0_2, .int (iI 0)])), (y0_2, aI gi 10 (fun _ => 0)), (x1_2, .inr (3, [.ref y1_2, .int (iI 0)])), (y1_2, aI gi 10 (fun _ => 0)), (x2_2, .inr (3, [.ref y2_2, .int (iI 0)])), (y2_2, aI gi 10 (fun _ => 0)), (bq_2, aI gi 121 (fun _ => 0)), (sq_2, .inl (gc, 20, .inl (fun _ => 0))), (bu_2, .inr (0, [.ref br_2, .int (iI 10)])), (br_2, .inr (3, [.ref ba_2, .int (iI 0)])), (ba_2, aI gi 20 (fun _ => 0))]) (wr := []) (wn := [(v_1, .inr (5, [.ref k1_2, .ref d_2, .ref o_2, .ref w_2, .ref bu_2, .int (iI 6), .int (iI 0)])), (k1_2, .inr (3, [.ref k2_2, .int (iI 0)])), (k2_2, aI gi 24 (fun _ => 0)), (d_2, .inr (4, [.ref r_2, .ref r2_2, .ref n1_2, .ref n2_2, .ref sg_2, .int (iI 0)])), (r_2, .inr (3, [.ref a_2, .int (iI 0)])), (a_2, aI gi 60 (fun _ => 0)), (r2_2, .inr (3, [.ref a2_2, .int (iI 0)])), (a2_2, aI gi 60 (fun _ => 0)), (n1_2, aI gi 512 (fun _ => 0)), (n2_2, aI gi 512 (fun _ => 0)), (sg_2, .inl (gc, 60, .inl (fun _ => 0))), (o_2, .inr (2, [.ref q1_2, .ref q2_2, .ref q3_2, .ref q4_2, .ref q5_2, .ref q6_2, .int (iI 0), .int (iI 0), .int (iI 0)])), (q1_2, aI gi 300 (fun _ => 0)), (q2_2, aI gi 60 (fun _ => 0)), (q3_2, aI gi 60 (fun _ => 0)), (q4_2, aI gi 60 (fun _ => 0)), (q5_2, aI gi 60 (fun _ => 0)), (q6_2, aI gi 60 (fun _ => 0)), (w_2, .inr (1, [.ref rw_2, .ref bq_2, .ref sq_2, .int (iI 0)])), (rw_2, .inl (gr, 3, .inr (.inr (.inr (.inr (rF (fun j : Nat => if j = 0 then x0_2 else if j = 1 then x1_2 else x2_2))))))), (x0_2, .inr (3, [.ref y0_2, .int (iI 0)])), (y0_2, aI gi 10 (fun _ => 0)), (x1_2, .inr (3, [.ref y1_2, .int (iI 0)])), (y1_2, aI gi 10 (fun _ => 0)), (x2_2, .inr (3, [.ref y2_2, .int (iI 0)])), (y2_2, aI gi 10 (fun _ => 0)), (bq_2, aI gi 121 (fun _ => 0)), (sq_2, .inl (gc, 20, .inl (fun _ => 0))), (bu_2, .inr (0, [.ref br_2, .int (iI 10)])), (br_2, .inr (3, [.ref ba_2, .int (iI 0)])), (ba_2, aI gi 20 (fun _ => 0))]) hP hD [0] [] [0, 1, 2, 3, 4, 5, 6, 7, 8, 9, 10, 11, 12, 13, 14, 15, 16, 17, 18, 19, 20, 21, 22, 23, 24, 25, 26, 27, 28, 29, 30] rfl rfl (by decide) (by decide) hk1 hFc hP1 hD1 rfl (by decide)
  generalize H1 = H at hP hS ⊢
  refine lv_astore_n (lv' := [(1, .ref v_1), (0, .ref b)]) hx hb dL_law_7 rfl hl (by decide) rfl (fun ls hl => ?_)
  refine lv_iconst (v := iI (0)) hx hb dL_law_8 (by decide +kernel) ?_
  refine lv_istore_n (lv' := [(2, .int (iI 0)), (1, .ref v_1), (0, .ref b)]) hx hb dL_law_9 rfl hl (by decide) rfl (fun ls hl => ?_)
  exact law_loop hL hfl C hrt hlk hXs hbl hbA hA hfr hK hX hZ hCx v_1 k1_2 k2_2 d_2 r_2 a_2 r2_2 n1_2 n2_2 sg_2 o_2 q1_2 q2_2 q3_2 q4_2 q5_2 q6_2 w_2 rw_2 bq_2 sq_2 (fun j : Nat => if j = 0 then x0_2 else if j = 1 then x1_2 else x2_2) (fun j : Nat => if j = 0 then y0_2 else if j = 1 then y1_2 else y2_2) bu_2 br_2 ba_2 6 0 0 (fun _ => 0) 0 0 (fun _ => 0) (fun _ => 0) (fun _ => 0) (fun _ => 0) 0 0 0 (fun _ => 0) (fun _ => 0) (fun _ => 0) (fun _ => 0) (fun _ => 0) (fun _ => 0) 0 (fun _ => 0) (fun _ => 0) (fun _ _ => 0) (fun _ => 0) 10 0 (fun _ => 0) (by omega) (by omega) (by omega) (Or.inl rfl) (fun q => absurd q (by decide)) (by omega) (fun k _ => by show (0 : Int) ≤ 0 ∧ (0 : Int) ≤ 10; omega) (fun k _ j _ => by show (0 : Int) ≤ 0 ∧ (0 : Int) ≤ 99; omega) (by omega) (by omega) (fun j _ => by show (0 : Int) ≤ 0 ∧ (0 : Int) ≤ 99; omega) (hP.sub [0, 1, 2, 3, 4, 5, 8, 9, 10, 11, 12, 13, 14, 15, 16, 17, 18, 19, 26, 20, 21, 22, 23, 24, 25, 27, 28, 29, 30] rfl) (hD.sub [0, 1, 2, 3, 4, 5, 8, 9, 10, 11, 12, 13, 14, 15, 16, 17, 18, 19, 26, 20, 21, 22, 23, 24, 25, 27, 28, 29, 30] (by decide) rfl) hS (lv_sub hl [2, 1, 0] rfl)
