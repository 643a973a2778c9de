def zSr (post : Nat → Prop) : Array Value → State → Outcome → State → Prop := va_Sr post (fun k => .ref k)
theorem zt_metRr {l : Launch} {y : MethodName} {ws ws' : List Cond} {rm : Room} {cc : ByteArray} {maxL : Nat} {nm : String} {own : String} {D : va_G} {gi gc gr : ClassId} {w : va_W} {av : List Value} {post : Nat → Prop}
    (hy : plainName y.cls = true) (hcls : y.cls = own) (hw : ws = Cond.code y cc maxL (some (.object nm)) :: ws') (hn : (lg_sl av).length ≤ maxL)
    (body : ∀ (p : Program) (e : Env) (s : State) (m : MethodId) (args : Array Value) (below : List Frame) (meth : Method) (c : Code) (Q : State → Prop), CallFix p m c cc maxL s args ws own → zK D gi gc gr s → va_P D vwCl w s.heap →
      (∀ (a : Nat) (pc : Nat) (ls : Array Slot), post a → decode cc pc = .ok (.areturn, 1) → W p l e rm s m args below meth c s.heap [] 0 0 Q (F0 m pc ls [.ref a])) → ∀ ls : Array Slot, lv_has ls maxL (lv_args 0 av) →
      W p l e rm s m args below meth c s.heap [] 0 0 Q (F0 m 0 ls [])) : Met l y ws rm (zPr D gi gc gr w av) (zSr post) 0 0 (fun _ => False) := by
  refine Met.ofW (cc := cc) (maxL := maxL) (ret := some (.object nm)) hy hw ?_
  intro p e s m args below meth c s₁ B hml hv
  obtain ⟨rfl, hP, hK⟩ := hv
  have hl := lv_entry av (n := maxL) hn
  rw [lg_entry_eq]
  have hr := B.returns
  have hlk := B.notSynchronized
  have hx := B.exec
  have hb := B.bytes
  exact body p e s m av.toArray below meth c _ ⟨hx, hb, hml, by rw [← hcls]; exact findClass_of_methodNamed B.named, atoms_spec (ws := ws) B.pre⟩ hK hP (fun v pc ls h hdg => W.aret hx hb hr (Or.inl ⟨nm, rfl⟩) (Or.inr ⟨v, rfl⟩) (fun t ht _ => ⟨v, rfl, h, ht⟩) (fun q hq => by cases hq) hdg hlk) _ hl
theorem zt_callVr {p : Program} {l : Launch} {e : Env} {R : Room} {s : State} {m : MethodId} {args : Array Value} {below : List Frame} {meth : Method} {c : Code} {H : Heap} {locs : List Loc} {cells slots : Nat} {Q : State → Prop} {cc : ByteArray} {pc : Nat} {ls : Array Slot} {nL : Nat} {D : va_G} {gi gc gr : ClassId} {wc : va_W} {y : MethodName} {bytes : ByteArray} {maxL n index : Nat} {ret : Option FieldType} {ws : List Cond} {rm : Room} {Ts : List Cond} {own C : String} {b : Addr} {st0 : List Value}
    (S : CallFix p m c cc nL s args Ts own) {As rest : List Value} {post : Nat → Prop} (hM : Met l y ws rm (zPr D gi gc gr wc (.ref b :: As)) (zSr post) 0 0 (fun _ => False)) (cw : CallW R s args own C index y bytes maxL ret ws rm 0 0 n) (hp : PreV s H C b (zPr D gi gc gr wc (.ref b :: As)) As)
    (hn : As.length = n) (hsize : ls.size = nL) (hstack : st0 = As.reverse ++ .ref b :: rest) (hW : (rest.map fun v => v.category).sum ≤ 8) (hdg : decode cc pc = .ok (.invokevirtual index, 3)) (hf : cells ≤ R.cells ∧ slots ≤ R.slots)
    (kk : ∀ r : Nat, post r → W p l e R s m args below meth c H locs cells slots Q (F0 m (pc + 3) ls (.ref r :: rest))) : W p l e R s m args below meth c H locs cells slots Q (F0 m pc ls st0) :=
  va_csr ((va_runV S hM cw hp rfl hn hsize hstack (lv_room hW) hdg hf).run) kk
def uPP (gs : Nat → Nat → Int) (k : Nat) (g : Nat → Int) : Nat → Nat → Int := fun j => if j = k then g else gs j
theorem addok {n : Int} {t t2 x z : Int} {g g2 : Nat → Int} (hx : 0 ≤ x ∧ x ≤ 99) (ht : 0 ≤ t ∧ t ≤ n) (hg : ∀ j : Nat, (j : Int) < t → 0 ≤ g j ∧ g j ≤ 99) (hz : (t < n ∧ z = t ∧ t2 = t + 1 ∧ g2 = uP g t.toNat x) ∨ (n ≤ t ∧ z = -1 ∧ t2 = t ∧ g2 = g)) : (0 ≤ t2 ∧ t2 ≤ n) ∧ ∀ j : Nat, (j : Int) < t2 → 0 ≤ g2 j ∧ g2 j ≤ 99 := by
  rcases hz with ⟨h1, -, h2, h3⟩ | ⟨h1, -, h2, h3⟩
  · subst h2 h3
    refine ⟨by omega, fun j hj => ?_⟩
    by_cases e : j = t.toNat
    · rw [e, uP_s]; exact hx
    · rw [uP_n e]; exact hg j (by omega)
  · subst h2 h3
    exact ⟨ht, hg⟩
theorem rowok {tn : Nat → Int} {gs : Nat → Nat → Int} {k0 : Nat} {t2 : Int} {g2 : Nat → Int} (htn : ∀ k : Nat, k < 3 → 0 ≤ tn k ∧ tn k ≤ 10) (hgs : ∀ k : Nat, k < 3 → ∀ j : Nat, (j : Int) < tn k → 0 ≤ gs k j ∧ gs k j ≤ 99) (h : (0 ≤ t2 ∧ t2 ≤ 10) ∧ ∀ j : Nat, (j : Int) < t2 → 0 ≤ g2 j ∧ g2 j ≤ 99) :
    (∀ k : Nat, k < 3 → 0 ≤ uP tn k0 t2 k ∧ uP tn k0 t2 k ≤ 10) ∧ ∀ k : Nat, k < 3 → ∀ j : Nat, (j : Int) < uP tn k0 t2 k → 0 ≤ uPP gs k0 g2 k j ∧ uPP gs k0 g2 k j ≤ 99 := by
  refine ⟨fun k hk => ?_, fun k hk j hj => ?_⟩
  · by_cases e : k = k0
    · rw [e, uP_s]; exact h.1
    · rw [uP_n e]; exact htn k hk
  · unfold uPP
    by_cases e : k = k0
    · rw [if_pos e]; rw [e, uP_s] at hj; exact h.2 j hj
    · rw [if_neg e]; rw [uP_n e] at hj; exact hgs k hk j hj
theorem zt_callSv {p : Program} {l : Launch} {e : Env} {R : Room} {s : State} {m : MethodId} {args : Array Value} {below : List Frame} {meth : Method} {c : Code} {H : Heap} {locs : List Loc} {cells slots : Nat} {Q : State → Prop} {cc : ByteArray} {pc : Nat} {ls : Array Slot} {nL : Nat} {D : va_G} {gi gc gr : ClassId} {wc : va_W} {y : MethodName} {bytes : ByteArray} {maxL n index : Nat} {ret : Option FieldType} {ws : List Cond} {rm : Room} {Ts : List Cond} {own : String} {st0 : List Value}
    (S : CallFix p m c cc nL s args Ts own) {As rest : List Value} {post : Unit → Prop} (hM : Met l y ws rm (zPr D gi gc gr wc As) (va_Sv post) 0 0 (fun _ => False)) (cw : CallB R s args own index y bytes maxL ret ws rm 0 0 n ∧ (Cond.static y).before args s = true) (hp : PreS s H (zPr D gi gc gr wc As) As)
    (hn : As.length = n) (hsize : ls.size = nL) (hstack : st0 = As.reverse ++ rest) (hW : (rest.map fun v => v.category).sum ≤ 8) (hdg : decode cc pc = .ok (.invokestatic index, 3)) (hf : cells ≤ R.cells ∧ slots ≤ R.slots)
    (kk : post () → W p l e R s m args below meth c H locs cells slots Q (F0 m (pc + 3) ls rest)) : W p l e R s m args below meth c H locs cells slots Q (F0 m pc ls st0) :=
  va_csv ((va_runS S hM cw hp rfl hn hsize hstack (lv_room hW) hdg hf).run) kk

set_option maxHeartbeats 4000000 in
set_option maxRecDepth 100000 in
theorem c_X6_requireLook (l : Launch) (D : va_G) (gi gc gr : ClassId) (x : Int) (hx0 : 0 ≤ x ∧ x < 100) : Met l yX6_requireLook wsX6_requireLook { frames := 0, cells := 0, slots := 0, locals := 0 } (zPr D gi gc gr [] [.int (iI x)]) (va_Sv (fun _ => True)) 0 0 (fun _ => False) := by
  refine zt_metRv (own := RX6) (cc := cX6_requireLook) (maxL := 1) (by decide) rfl rfl (Nat.le_of_ble_eq_true rfl) ?_
  intro p e s m args below meth c Q C hK hP hQ ls hl
  have hx := C.1
  have hb := C.2.1
  have hml := C.2.2.1
  have hown := C.2.2.2.1
  have hts := C.2.2.2.2
  have hl : lv_has ls 1 [(0, .int (iI x))] := hl
  refine lv_iload_n hx hb dX6_requireLook_0 rfl (lv_at hl 0 rfl) ?_
  refine zt_if_lt (tgt := 10) hx hb dX6_requireLook_1 (by decide) (by omega) (fun c_1 => absurd c_1 (by omega)) (fun c_1 => ?_)
  refine lv_iload_n hx hb dX6_requireLook_4 rfl (lv_at hl 0 rfl) ?_
  refine lv_bipush (v := iI (100)) hx hb dX6_requireLook_5 (by decide +kernel) ?_
  refine zt_icmp_lt (tgt := 21) hx hb dX6_requireLook_7 (by decide) (by omega) (fun c_2 => ?_) (fun c_2 => absurd c_2 (by omega))
  exact hQ _ _ (trivial) dX6_requireLook_21
set_option maxHeartbeats 4000000 in
set_option maxRecDepth 100000 in
theorem c_X2_row (l : Launch) (D : va_G) (gi gc gr : ClassId) (w : Nat) (rw : Nat) (bq : Nat) (sq : Nat) (mp : Int) (ra : Nat → Nat) (x1 : Int) (hx1 : 0 ≤ x1 ∧ x1 < 3) : Met l yX2_row wsX2_row { frames := 0, cells := 0, slots := 0, locals := 0 } (zPr D gi gc gr [(w, .inr (1, [.ref rw, .ref bq, .ref sq, .int (iI mp)])), (rw, .inl (gr, 3, .inr (.inr (.inr (.inr (rF ra))))))] [.ref w, .int (iI x1)]) (zSr (fun v => v = ra x1.toNat)) 0 0 (fun _ => False) := by
  refine zt_metRr (own := RX2) (cc := cX2_row) (maxL := 2) (by decide) rfl rfl (Nat.le_of_ble_eq_true rfl) ?_
  intro p e s m args below meth c Q C hK hP hQ ls hl
  have hx := C.1
  have hb := C.2.1
  have hml := C.2.2.1
  have hown := C.2.2.2.1
  have hts := C.2.2.2.2
  have i2 : ∀ w ∈ u_ws RX2 TX2 4, w ∈ wsX2_row := by decide +kernel
  have f11 := hts (.fieldLink RX2 11 "Threetwo$Prints" "rows" "[LThreetwo$Row;") (by decide +kernel)
  have hl : lv_has ls 2 [(0, .ref w), (1, .int (iI x1))] := hl
  refine lv_aload_n hx hb dX2_row_0 rfl (lv_at hl 0 rfl) ?_
  refine va_get (D := D) (ci := 1) (v := .ref rw) (C := RX2) (T := TX2) (N := 4) hx hb hts i2 hown hK.1 hP 0 rfl rfl 0 (by decide) f11 (fun _ h9 => h9) rfl dX2_row_1 ?_
  refine lv_iload_n hx hb dX2_row_4 rfl (lv_at hl 1 rfl) ?_
  refine zt_aald hx hb hK.1 hP 1 2 rfl rfl (by omega) (by omega) dX2_row_5 ?_
  exact hQ _ _ _ rfl dX2_row_6
set_option maxHeartbeats 4000000 in
set_option maxRecDepth 100000 in
theorem c_X6_pull (l : Launch) (D : va_G) (gi gc gr : ClassId) (sz : Nat) (h : Nat) (k1 : Nat) (d : Nat) (o : Nat) (w : Nat) (bu : Nat) (chg : Int) (rfd : Int) (k2 : Nat) (rn : Int) (rg : Nat → Int) (r2 : Nat) (n1 : Nat) (n2 : Nat) (sg : Nat) (nn : Int) (r : Nat) (a : Nat) (t : Int) (g : Nat → Int) (q1 : Nat) (q2 : Nat) (q3 : Nat) (q4 : Nat) (q5 : Nat) (q6 : Nat) (cst : Int) (F : Int) (kn : Int) (ph : Int) (ht : 0 ≤ t ∧ t ≤ 60) (hrn : 0 ≤ rn ∧ rn ≤ 24) (hph : 0 ≤ ph ∧ ph ≤ 1) : Met l yX6_pull wsX6_pull { frames := 2, cells := 0, slots := 0, locals := 46 } (zPw D gi gc gr [(h, .inr (5, [.ref k1, .ref d, .ref o, .ref w, .ref bu, .int (iI chg), .int (iI rfd)])), (k1, .inr (3, [.ref k2, .int (iI rn)])), (k2, aI gi 24 rg), (d, .inr (4, [.ref r, .ref r2, .ref n1, .ref n2, .ref sg, .int (iI nn)])), (r, .inr (3, [.ref a, .int (iI t)])), (a, aI gi 60 g), (o, .inr (2, [.ref q1, .ref q2, .ref q3, .ref q4, .ref q5, .ref q6, .int (iI cst), .int (iI F), .int (iI kn)]))] sz [.ref h, .int (iI ph)]) (va_Qi (S := Int × (Nat → Int)) (fun _ u => 0 ≤ u.1 ∧ u.1 ≤ 60) (zB D (va_A [(h, .inr (5, [.ref k1, .ref d, .ref o, .ref w, .ref bu, .int (iI chg), .int (iI rfd)])), (k1, .inr (3, [.ref k2, .int (iI rn)])), (k2, aI gi 24 rg), (d, .inr (4, [.ref r, .ref r2, .ref n1, .ref n2, .ref sg, .int (iI nn)])), (r, .inr (3, [.ref a, .int (iI t)])), (a, aI gi 60 g), (o, .inr (2, [.ref q1, .ref q2, .ref q3, .ref q4, .ref q5, .ref q6, .int (iI cst), .int (iI F), .int (iI kn)]))] sz) (fun u => [(h, .inr (5, [.ref k1, .ref d, .ref o, .ref w, .ref bu, .int (iI chg), .int (iI rfd)])), (k1, .inr (3, [.ref k2, .int (iI rn)])), (k2, aI gi 24 rg), (d, .inr (4, [.ref r, .ref r2, .ref n1, .ref n2, .ref sg, .int (iI 0)])), (r, .inr (3, [.ref a, .int (iI u.1)])), (a, aI gi 60 u.2), (o, .inr (2, [.ref q1, .ref q2, .ref q3, .ref q4, .ref q5, .ref q6, .int (iI cst), .int (iI F), .int (iI 0)]))])) (va_A [(h, .inr (5, [.ref k1, .ref d, .ref o, .ref w, .ref bu, .int (iI chg), .int (iI rfd)])), (k1, .inr (3, [.ref k2, .int (iI rn)])), (k2, aI gi 24 rg), (d, .inr (4, [.ref r, .ref r2, .ref n1, .ref n2, .ref sg, .int (iI nn)])), (r, .inr (3, [.ref a, .int (iI t)])), (a, aI gi 60 g), (o, .inr (2, [.ref q1, .ref q2, .ref q3, .ref q4, .ref q5, .ref q6, .int (iI cst), .int (iI F), .int (iI kn)]))] sz)) 0 0 (va_A [(h, .inr (5, [.ref k1, .ref d, .ref o, .ref w, .ref bu, .int (iI chg), .int (iI rfd)])), (k1, .inr (3, [.ref k2, .int (iI rn)])), (k2, aI gi 24 rg), (d, .inr (4, [.ref r, .ref r2, .ref n1, .ref n2, .ref sg, .int (iI nn)])), (r, .inr (3, [.ref a, .int (iI t)])), (a, aI gi 60 g), (o, .inr (2, [.ref q1, .ref q2, .ref q3, .ref q4, .ref q5, .ref q6, .int (iI cst), .int (iI F), .int (iI kn)]))] sz) := by
  refine zt_metWi (own := RX6) (cc := cX6_pull) (maxL := 2) (by decide) rfl rfl (Nat.le_of_ble_eq_true rfl) ?_
  intro p e s m args below meth c Q A C hK hP hD hS hA _ hQ ls hl
  have hx := C.1
  have hb := C.2.1
  have hml := C.2.2.1
  have hown := C.2.2.2.1
  have hts := C.2.2.2.2
  have i5 : ∀ w ∈ u_ws RX5 TX5 6, w ∈ wsX6_pull := by decide +kernel
  have i6 : ∀ w ∈ u_ws RX6 TX6 7, w ∈ wsX6_pull := by decide +kernel
  have f14 := hts (.fieldLink RX6 14 "Threetwo" "reel" "LThreetwo$Row;") (by decide +kernel)
  have f21 := hts (.fieldLink RX6 21 "Threetwo" "strip" "LThreetwo$Strip;") (by decide +kernel)
  have f28 := hts (.fieldLink RX6 28 "Threetwo" "rhythm" "LThreetwo$Rhythm;") (by decide +kernel)
  have hl : lv_has ls 2 [(0, .ref h), (1, .int (iI ph))] := hl
  refine lv_iload_n hx hb dX6_pull_0 rfl (lv_at hl 1 rfl) ?_
  refine zt_if_eq (tgt := 19) hx hb dX6_pull_1 (by decide) (by omega) (fun c_1 => ?_) (fun c_1 => ?_)
  · refine lv_aload_n hx hb dX6_pull_19 rfl (lv_at hl 0 rfl) ?_
    refine va_get (D := D) (ci := 5) (v := .ref d) (C := RX6) (T := TX6) (N := 7) hx hb hts i6 hown hK.1 hP 0 rfl rfl 1 (by decide) f21 (fun _ h9 => h9) rfl dX6_pull_20 ?_
    refine lv_aload_n hx hb dX6_pull_23 rfl (lv_at hl 0 rfl) ?_
    refine va_get (D := D) (ci := 5) (v := .ref k1) (C := RX6) (T := TX6) (N := 7) hx hb hts i6 hown hK.1 hP 0 rfl rfl 0 (by decide) f14 (fun _ h9 => h9) rfl dX6_pull_24 ?_
    refine lv_iload_n hx hb dX6_pull_27 rfl (lv_at hl 1 rfl) ?_
    have hPc := hP.sub (ws' := [(d, .inr (4, [.ref r, .ref r2, .ref n1, .ref n2, .ref sg, .int (iI nn)])), (r, .inr (3, [.ref a, .int (iI t)])), (a, aI gi 60 g), (k1, .inr (3, [.ref k2, .int (iI rn)])), (k2, aI gi 24 rg)]) [3, 4, 5, 1, 2] rfl
    have hDc := hD.sub (ws' := [(d, .inr (4, [.ref r, .ref r2, .ref n1, .ref n2, .ref sg, .int (iI nn)])), (r, .inr (3, [.ref a, .int (iI t)])), (a, aI gi 60 g), (k1, .inr (3, [.ref k2, .int (iI rn)])), (k2, aI gi 24 rg)]) [3, 4, 5, 1, 2] (by decide) rfl
    have hFc := va_free (wc := [(d, .inr (4, [.ref r, .ref r2, .ref n1, .ref n2, .ref sg, .int (iI nn)])), (r, .inr (3, [.ref a, .int (iI t)])), (a, aI gi 60 g), (k1, .inr (3, [.ref k2, .int (iI rn)])), (k2, aI gi 24 rg)]) hD hS hA [3, 4, 5, 1, 2] rfl
    refine va_callv (va_runV C (As := [.ref k1, .int (iI ph)]) (rest := []) (c_X5_pullDown l D gi gc gr s.heap.size d r2 n1 n2 sg nn r a t g k1 k2 rn rg ph (by first | omega | assumption) (by first | omega | assumption) (by first | omega | assumption)) (cwV 2 hts gX6_pull_X5_pullDown rfl rfl rfl (by decide +kernel) ⟨Nat.le_of_ble_eq_true rfl, Nat.le_of_ble_eq_true rfl⟩) (zt_preVw hK hPc hDc [.ref k1, .int (iI ph)] 0 rfl rfl) rfl rfl hl.1 rfl (lv_room (Nat.le_of_ble_eq_true rfl)) dX6_pull_28 ⟨Nat.le_of_ble_eq_true rfl, Nat.le_of_ble_eq_true rfl⟩) hS (fun q _ h => hFc q h) hFc (fun u_r_2 T9 H1 locs hT9 hvm hw hB hz1 hk1 hS => ?_)
    obtain ⟨t_2, g_2⟩ := u_r_2
    try dsimp only at hw
    obtain ⟨hP1, hD1⟩ := hB
    rw [hT9] at hP1
    obtain ⟨hP, hD⟩ := zt_back (w1 := [(d, .inr (4, [.ref r, .ref r2, .ref n1, .ref n2, .ref sg, .int (iI 0)])), (r, .inr (3, [.ref a, .int (iI t_2)])), (a, aI gi 60 g_2), (k1, .inr (3, [.ref k2, .int (iI rn)])), (k2, aI gi 24 rg)]) (wr := [(h, .inr (5, [.ref k1, .ref d, .ref o, .ref w, .ref bu, .int (iI chg), .int (iI rfd)])), (o, .inr (2, [.ref q1, .ref q2, .ref q3, .ref q4, .ref q5, .ref q6, .int (iI cst), .int (iI F), .int (iI kn)]))]) (wn := [(h, .inr (5, [.ref k1, .ref d, .ref o, .ref w, .ref bu, .int (iI chg), .int (iI rfd)])), (k1, .inr (3, [.ref k2, .int (iI rn)])), (k2, aI gi 24 rg), (d, .inr (4, [.ref r, .ref r2, .ref n1, .ref n2, .ref sg, .int (iI 0)])), (r, .inr (3, [.ref a, .int (iI t_2)])), (a, aI gi 60 g_2), (o, .inr (2, [.ref q1, .ref q2, .ref q3, .ref q4, .ref q5, .ref q6, .int (iI cst), .int (iI F), .int (iI kn)]))]) hP hD [3, 4, 5, 1, 2] [0, 6] [0, 5, 6, 2, 3, 4, 1] rfl rfl (by decide) (by decide) hk1 hFc hP1 hD1 rfl (by decide)
    generalize H1 = H at hP hS ⊢
    have hw0 := hw
    refine lv_aload_n hx hb dX6_pull_31 rfl (lv_at hl 0 rfl) ?_
    refine va_get (D := D) (ci := 5) (v := .ref o) (C := RX6) (T := TX6) (N := 7) hx hb hts i6 hown hK.1 hP 0 rfl rfl 2 (by decide) f28 (fun _ h9 => h9) rfl dX6_pull_32 ?_
    have hPc := hP.sub (ws' := [(o, .inr (2, [.ref q1, .ref q2, .ref q3, .ref q4, .ref q5, .ref q6, .int (iI cst), .int (iI F), .int (iI kn)]))]) [6] rfl
    have hDc := hD.sub (ws' := [(o, .inr (2, [.ref q1, .ref q2, .ref q3, .ref q4, .ref q5, .ref q6, .int (iI cst), .int (iI F), .int (iI kn)]))]) [6] (by decide) rfl
    have hFc := va_free (wc := [(o, .inr (2, [.ref q1, .ref q2, .ref q3, .ref q4, .ref q5, .ref q6, .int (iI cst), .int (iI F), .int (iI kn)]))]) hD hS hA [6] rfl
    refine va_callv (va_runV C (As := []) (rest := []) (c_X3_forget l D gi gc gr H.size o q1 q2 q3 q4 q5 q6 cst F kn) (cwV 0 hts gX6_pull_X3_forget rfl rfl rfl (by decide +kernel) ⟨Nat.le_of_ble_eq_true rfl, Nat.le_of_ble_eq_true rfl⟩) (zt_preVw hK hPc hDc [] 0 rfl rfl) rfl rfl hl.1 rfl (lv_room (Nat.le_of_ble_eq_true rfl)) dX6_pull_35 ⟨Nat.le_of_ble_eq_true rfl, Nat.le_of_ble_eq_true rfl⟩) hS (fun q _ h => hFc q h) hFc (fun u_r_3 T9 H1 locs hT9 hvm hw hB hz1 hk1 hS => ?_)
    obtain ⟨hP1, hD1⟩ := hB
    rw [hT9] at hP1
    obtain ⟨hP, hD⟩ := zt_back (w1 := [(o, .inr (2, [.ref q1, .ref q2, .ref q3, .ref q4, .ref q5, .ref q6, .int (iI cst), .int (iI F), .int (iI 0)]))]) (wr := [(h, .inr (5, [.ref k1, .ref d, .ref o, .ref w, .ref bu, .int (iI chg), .int (iI rfd)])), (k1, .inr (3, [.ref k2, .int (iI rn)])), (k2, aI gi 24 rg), (d, .inr (4, [.ref r, .ref r2, .ref n1, .ref n2, .ref sg, .int (iI 0)])), (r, .inr (3, [.ref a, .int (iI t_2)])), (a, aI gi 60 g_2)]) (wn := [(h, .inr (5, [.ref k1, .ref d, .ref o, .ref w, .ref bu, .int (iI chg), .int (iI rfd)])), (k1, .inr (3, [.ref k2, .int (iI rn)])), (k2, aI gi 24 rg), (d, .inr (4, [.ref r, .ref r2, .ref n1, .ref n2, .ref sg, .int (iI 0)])), (r, .inr (3, [.ref a, .int (iI t_2)])), (a, aI gi 60 g_2), (o, .inr (2, [.ref q1, .ref q2, .ref q3, .ref q4, .ref q5, .ref q6, .int (iI cst), .int (iI F), .int (iI 0)]))]) hP hD [6] [0, 1, 2, 3, 4, 5] [0, 1, 2, 3, 4, 5, 6] rfl rfl (by decide) (by decide) hk1 hFc hP1 hD1 rfl (by decide)
    generalize H1 = H at hP hS ⊢
    refine lv_aload_n hx hb dX6_pull_38 rfl (lv_at hl 0 rfl) ?_
    refine va_get (D := D) (ci := 5) (v := .ref d) (C := RX6) (T := TX6) (N := 7) hx hb hts i6 hown hK.1 hP 0 rfl rfl 1 (by decide) f21 (fun _ h9 => h9) rfl dX6_pull_39 ?_
    refine va_getN (D := D) (ci := 4) (v := .ref r) (C := RX5) (T := TX5) (N := 6) hx hb hts i5 hown hK.1 hP 3 rfl rfl 0 (by decide) (zK.n79 hK _) (fun _ h9 => h9) rfl dX6_pull_42 ?_
    refine zt_callV C (As := []) (rest := []) (c_X4_many l D gi gc gr r a t_2) (cwV 0 hts gX6_pull_X4_many rfl rfl rfl (by decide +kernel) ⟨Nat.le_of_ble_eq_true rfl, Nat.le_of_ble_eq_true rfl⟩) (zt_preV hK (hP.sub (ws' := [(r, .inr (3, [.ref a, .int (iI t_2)]))]) [4] rfl) [] 0 rfl rfl) rfl hl.1 rfl (Nat.le_of_ble_eq_true rfl) dX6_pull_45 ⟨Nat.le_of_ble_eq_true rfl, Nat.le_of_ble_eq_true rfl⟩ (fun r_4 hr_4 => ?_)
    obtain rfl := hr_4
    exact hQ (t_2, g_2) _ _ _ _ _ (hw0) hP hD hS dX6_pull_48
  · refine lv_iload_n hx hb dX6_pull_4 rfl (lv_at hl 1 rfl) ?_
    refine lv_iconst (v := iI (1)) hx hb dX6_pull_5 (by decide +kernel) ?_
    refine zt_icmp_eq (tgt := 19) hx hb dX6_pull_6 (by decide) (by omega) (fun c_5 => ?_) (fun c_5 => absurd c_5 (by omega))
    refine lv_aload_n hx hb dX6_pull_19 rfl (lv_at hl 0 rfl) ?_
    refine va_get (D := D) (ci := 5) (v := .ref d) (C := RX6) (T := TX6) (N := 7) hx hb hts i6 hown hK.1 hP 0 rfl rfl 1 (by decide) f21 (fun _ h9 => h9) rfl dX6_pull_20 ?_
    refine lv_aload_n hx hb dX6_pull_23 rfl (lv_at hl 0 rfl) ?_
    refine va_get (D := D) (ci := 5) (v := .ref k1) (C := RX6) (T := TX6) (N := 7) hx hb hts i6 hown hK.1 hP 0 rfl rfl 0 (by decide) f14 (fun _ h9 => h9) rfl dX6_pull_24 ?_
    refine lv_iload_n hx hb dX6_pull_27 rfl (lv_at hl 1 rfl) ?_
    have hPc := hP.sub (ws' := [(d, .inr (4, [.ref r, .ref r2, .ref n1, .ref n2, .ref sg, .int (iI nn)])), (r, .inr (3, [.ref a, .int (iI t)])), (a, aI gi 60 g), (k1, .inr (3, [.ref k2, .int (iI rn)])), (k2, aI gi 24 rg)]) [3, 4, 5, 1, 2] rfl
    have hDc := hD.sub (ws' := [(d, .inr (4, [.ref r, .ref r2, .ref n1, .ref n2, .ref sg, .int (iI nn)])), (r, .inr (3, [.ref a, .int (iI t)])), (a, aI gi 60 g), (k1, .inr (3, [.ref k2, .int (iI rn)])), (k2, aI gi 24 rg)]) [3, 4, 5, 1, 2] (by decide) rfl
    have hFc := va_free (wc := [(d, .inr (4, [.ref r, .ref r2, .ref n1, .ref n2, .ref sg, .int (iI nn)])), (r, .inr (3, [.ref a, .int (iI t)])), (a, aI gi 60 g), (k1, .inr (3, [.ref k2, .int (iI rn)])), (k2, aI gi 24 rg)]) hD hS hA [3, 4, 5, 1, 2] rfl
    refine va_callv (va_runV C (As := [.ref k1, .int (iI ph)]) (rest := []) (c_X5_pullDown l D gi gc gr s.heap.size d r2 n1 n2 sg nn r a t g k1 k2 rn rg ph (by first | omega | assumption) (by first | omega | assumption) (by first | omega | assumption)) (cwV 2 hts gX6_pull_X5_pullDown rfl rfl rfl (by decide +kernel) ⟨Nat.le_of_ble_eq_true rfl, Nat.le_of_ble_eq_true rfl⟩) (zt_preVw hK hPc hDc [.ref k1, .int (iI ph)] 0 rfl rfl) rfl rfl hl.1 rfl (lv_room (Nat.le_of_ble_eq_true rfl)) dX6_pull_28 ⟨Nat.le_of_ble_eq_true rfl, Nat.le_of_ble_eq_true rfl⟩) hS (fun q _ h => hFc q h) hFc (fun u_r_6 T9 H1 locs hT9 hvm hw hB hz1 hk1 hS => ?_)
    obtain ⟨t_6, g_6⟩ := u_r_6
    try dsimp only at hw
    obtain ⟨hP1, hD1⟩ := hB
    rw [hT9] at hP1
    obtain ⟨hP, hD⟩ := zt_back (w1 := [(d, .inr (4, [.ref r, .ref r2, .ref n1, .ref n2, .ref sg, .int (iI 0)])), (r, .inr (3, [.ref a, .int (iI t_6)])), (a, aI gi 60 g_6), (k1, .inr (3, [.ref k2, .int (iI rn)])), (k2, aI gi 24 rg)]) (wr := [(h, .inr (5, [.ref k1, .ref d, .ref o, .ref w, .ref bu, .int (iI chg), .int (iI rfd)])), (o, .inr (2, [.ref q1, .ref q2, .ref q3, .ref q4, .ref q5, .ref q6, .int (iI cst), .int (iI F), .int (iI kn)]))]) (wn := [(h, .inr (5, [.ref k1, .ref d, .ref o, .ref w, .ref bu, .int (iI chg), .int (iI rfd)])), (k1, .inr (3, [.ref k2, .int (iI rn)])), (k2, aI gi 24 rg), (d, .inr (4, [.ref r, .ref r2, .ref n1, .ref n2, .ref sg, .int (iI 0)])), (r, .inr (3, [.ref a, .int (iI t_6)])), (a, aI gi 60 g_6), (o, .inr (2, [.ref q1, .ref q2, .ref q3, .ref q4, .ref q5, .ref q6, .int (iI cst), .int (iI F), .int (iI kn)]))]) hP hD [3, 4, 5, 1, 2] [0, 6] [0, 5, 6, 2, 3, 4, 1] rfl rfl (by decide) (by decide) hk1 hFc hP1 hD1 rfl (by decide)
    generalize H1 = H at hP hS ⊢
    have hw0 := hw
    refine lv_aload_n hx hb dX6_pull_31 rfl (lv_at hl 0 rfl) ?_
    refine va_get (D := D) (ci := 5) (v := .ref o) (C := RX6) (T := TX6) (N := 7) hx hb hts i6 hown hK.1 hP 0 rfl rfl 2 (by decide) f28 (fun _ h9 => h9) rfl dX6_pull_32 ?_
    have hPc := hP.sub (ws' := [(o, .inr (2, [.ref q1, .ref q2, .ref q3, .ref q4, .ref q5, .ref q6, .int (iI cst), .int (iI F), .int (iI kn)]))]) [6] rfl
    have hDc := hD.sub (ws' := [(o, .inr (2, [.ref q1, .ref q2, .ref q3, .ref q4, .ref q5, .ref q6, .int (iI cst), .int (iI F), .int (iI kn)]))]) [6] (by decide) rfl
    have hFc := va_free (wc := [(o, .inr (2, [.ref q1, .ref q2, .ref q3, .ref q4, .ref q5, .ref q6, .int (iI cst), .int (iI F), .int (iI kn)]))]) hD hS hA [6] rfl
    refine va_callv (va_runV C (As := []) (rest := []) (c_X3_forget l D gi gc gr H.size o q1 q2 q3 q4 q5 q6 cst F kn) (cwV 0 hts gX6_pull_X3_forget rfl rfl rfl (by decide +kernel) ⟨Nat.le_of_ble_eq_true rfl, Nat.le_of_ble_eq_true rfl⟩) (zt_preVw hK hPc hDc [] 0 rfl rfl) rfl rfl hl.1 rfl (lv_room (Nat.le_of_ble_eq_true rfl)) dX6_pull_35 ⟨Nat.le_of_ble_eq_true rfl, Nat.le_of_ble_eq_true rfl⟩) hS (fun q _ h => hFc q h) hFc (fun u_r_7 T9 H1 locs hT9 hvm hw hB hz1 hk1 hS => ?_)
    obtain ⟨hP1, hD1⟩ := hB
    rw [hT9] at hP1
    obtain ⟨hP, hD⟩ := zt_back (w1 := [(o, .inr (2, [.ref q1, .ref q2, .ref q3, .ref q4, .ref q5, .ref q6, .int (iI cst), .int (iI F), .int (iI 0)]))]) (wr := [(h, .inr (5, [.ref k1, .ref d, .ref o, .ref w, .ref bu, .int (iI chg), .int (iI rfd)])), (k1, .inr (3, [.ref k2, .int (iI rn)])), (k2, aI gi 24 rg), (d, .inr (4, [.ref r, .ref r2, .ref n1, .ref n2, .ref sg, .int (iI 0)])), (r, .inr (3, [.ref a, .int (iI t_6)])), (a, aI gi 60 g_6)]) (wn := [(h, .inr (5, [.ref k1, .ref d, .ref o, .ref w, .ref bu, .int (iI chg), .int (iI rfd)])), (k1, .inr (3, [.ref k2, .int (iI rn)])), (k2, aI gi 24 rg), (d, .inr (4, [.ref r, .ref r2, .ref n1, .ref n2, .ref sg, .int (iI 0)])), (r, .inr (3, [.ref a, .int (iI t_6)])), (a, aI gi 60 g_6), (o, .inr (2, [.ref q1, .ref q2, .ref q3, .ref q4, .ref q5, .ref q6, .int (iI cst), .int (iI F), .int (iI 0)]))]) hP hD [6] [0, 1, 2, 3, 4, 5] [0, 1, 2, 3, 4, 5, 6] rfl rfl (by decide) (by decide) hk1 hFc hP1 hD1 rfl (by decide)
    generalize H1 = H at hP hS ⊢
    refine lv_aload_n hx hb dX6_pull_38 rfl (lv_at hl 0 rfl) ?_
    refine va_get (D := D) (ci := 5) (v := .ref d) (C := RX6) (T := TX6) (N := 7) hx hb hts i6 hown hK.1 hP 0 rfl rfl 1 (by decide) f21 (fun _ h9 => h9) rfl dX6_pull_39 ?_
    refine va_getN (D := D) (ci := 4) (v := .ref r) (C := RX5) (T := TX5) (N := 6) hx hb hts i5 hown hK.1 hP 3 rfl rfl 0 (by decide) (zK.n79 hK _) (fun _ h9 => h9) rfl dX6_pull_42 ?_
    refine zt_callV C (As := []) (rest := []) (c_X4_many l D gi gc gr r a t_6) (cwV 0 hts gX6_pull_X4_many rfl rfl rfl (by decide +kernel) ⟨Nat.le_of_ble_eq_true rfl, Nat.le_of_ble_eq_true rfl⟩) (zt_preV hK (hP.sub (ws' := [(r, .inr (3, [.ref a, .int (iI t_6)]))]) [4] rfl) [] 0 rfl rfl) rfl hl.1 rfl (Nat.le_of_ble_eq_true rfl) dX6_pull_45 ⟨Nat.le_of_ble_eq_true rfl, Nat.le_of_ble_eq_true rfl⟩ (fun r_8 hr_8 => ?_)
    obtain rfl := hr_8
    exact hQ (t_6, g_6) _ _ _ _ _ (hw0) hP hD hS dX6_pull_48
set_option maxHeartbeats 4000000 in
set_option maxRecDepth 100000 in
theorem c_X6_heal (l : Launch) (D : va_G) (gi gc gr : ClassId) (sz : Nat) (h : Nat) (k1 : Nat) (d : Nat) (o : Nat) (w : Nat) (bu : Nat) (chg : Int) (rfd : Int) (r2 : Nat) (n1 : Nat) (n2 : Nat) (sg : Nat) (nn : Int) (r : Nat) (a : Nat) (t : Int) (g : Nat → Int) (nf : Nat → Int) (nl : Nat → Int) (q1 : Nat) (q2 : Nat) (q3 : Nat) (q4 : Nat) (q5 : Nat) (q6 : Nat) (cst : Int) (F : Int) (kn : Int) (ht : 0 ≤ t ∧ t ≤ 60) (hnn : 0 ≤ nn ∧ nn ≤ 512) : Met l yX6_heal wsX6_heal { frames := 3, cells := 0, slots := 0, locals := 64 } (zPw D gi gc gr [(h, .inr (5, [.ref k1, .ref d, .ref o, .ref w, .ref bu, .int (iI chg), .int (iI rfd)])), (d, .inr (4, [.ref r, .ref r2, .ref n1, .ref n2, .ref sg, .int (iI nn)])), (n1, aI gi 512 nf), (n2, aI gi 512 nl), (r, .inr (3, [.ref a, .int (iI t)])), (a, aI gi 60 g), (o, .inr (2, [.ref q1, .ref q2, .ref q3, .ref q4, .ref q5, .ref q6, .int (iI cst), .int (iI F), .int (iI kn)]))] sz [.ref h]) (va_Qi (S := Int × (Nat → Int) × Int) (fun _ u => (0 ≤ u.1 ∧ u.1 ≤ 512) ∧ (u.2.2 = 0 ∨ u.2.2 = kn)) (zB D (va_A [(h, .inr (5, [.ref k1, .ref d, .ref o, .ref w, .ref bu, .int (iI chg), .int (iI rfd)])), (d, .inr (4, [.ref r, .ref r2, .ref n1, .ref n2, .ref sg, .int (iI nn)])), (n1, aI gi 512 nf), (n2, aI gi 512 nl), (r, .inr (3, [.ref a, .int (iI t)])), (a, aI gi 60 g), (o, .inr (2, [.ref q1, .ref q2, .ref q3, .ref q4, .ref q5, .ref q6, .int (iI cst), .int (iI F), .int (iI kn)]))] sz) (fun u => [(h, .inr (5, [.ref k1, .ref d, .ref o, .ref w, .ref bu, .int (iI chg), .int (iI rfd)])), (d, .inr (4, [.ref r, .ref r2, .ref n1, .ref n2, .ref sg, .int (iI u.1)])), (n1, aI gi 512 nf), (n2, aI gi 512 nl), (r, .inr (3, [.ref a, .int (iI t)])), (a, aI gi 60 u.2.1), (o, .inr (2, [.ref q1, .ref q2, .ref q3, .ref q4, .ref q5, .ref q6, .int (iI cst), .int (iI F), .int (iI u.2.2)]))])) (va_A [(h, .inr (5, [.ref k1, .ref d, .ref o, .ref w, .ref bu, .int (iI chg), .int (iI rfd)])), (d, .inr (4, [.ref r, .ref r2, .ref n1, .ref n2, .ref sg, .int (iI nn)])), (n1, aI gi 512 nf), (n2, aI gi 512 nl), (r, .inr (3, [.ref a, .int (iI t)])), (a, aI gi 60 g), (o, .inr (2, [.ref q1, .ref q2, .ref q3, .ref q4, .ref q5, .ref q6, .int (iI cst), .int (iI F), .int (iI kn)]))] sz)) 0 0 (va_A [(h, .inr (5, [.ref k1, .ref d, .ref o, .ref w, .ref bu, .int (iI chg), .int (iI rfd)])), (d, .inr (4, [.ref r, .ref r2, .ref n1, .ref n2, .ref sg, .int (iI nn)])), (n1, aI gi 512 nf), (n2, aI gi 512 nl), (r, .inr (3, [.ref a, .int (iI t)])), (a, aI gi 60 g), (o, .inr (2, [.ref q1, .ref q2, .ref q3, .ref q4, .ref q5, .ref q6, .int (iI cst), .int (iI F), .int (iI kn)]))] sz) := by
  refine zt_metWi (own := RX6) (cc := cX6_heal) (maxL := 2) (by decide) rfl rfl (Nat.le_of_ble_eq_true rfl) ?_
  intro p e s m args below meth c Q A C hK hP hD hS hA _ hQ ls hl
  have hx := C.1
  have hb := C.2.1
  have hml := C.2.2.1
  have hown := C.2.2.2.1
  have hts := C.2.2.2.2
  have i6 : ∀ w ∈ u_ws RX6 TX6 7, w ∈ wsX6_heal := by decide +kernel
  have f21 := hts (.fieldLink RX6 21 "Threetwo" "strip" "LThreetwo$Strip;") (by decide +kernel)
  have f28 := hts (.fieldLink RX6 28 "Threetwo" "rhythm" "LThreetwo$Rhythm;") (by decide +kernel)
  have hl : lv_has ls 2 [(0, .ref h)] := hl
  refine lv_aload_n hx hb dX6_heal_0 rfl (lv_at hl 0 rfl) ?_
  refine va_get (D := D) (ci := 5) (v := .ref d) (C := RX6) (T := TX6) (N := 7) hx hb hts i6 hown hK.1 hP 0 rfl rfl 1 (by decide) f21 (fun _ h9 => h9) rfl dX6_heal_1 ?_
  have hPc := hP.sub (ws' := [(d, .inr (4, [.ref r, .ref r2, .ref n1, .ref n2, .ref sg, .int (iI nn)])), (n1, aI gi 512 nf), (n2, aI gi 512 nl), (r, .inr (3, [.ref a, .int (iI t)])), (a, aI gi 60 g)]) [1, 2, 3, 4, 5] rfl
  have hDc := hD.sub (ws' := [(d, .inr (4, [.ref r, .ref r2, .ref n1, .ref n2, .ref sg, .int (iI nn)])), (n1, aI gi 512 nf), (n2, aI gi 512 nl), (r, .inr (3, [.ref a, .int (iI t)])), (a, aI gi 60 g)]) [1, 2, 3, 4, 5] (by decide) rfl
  have hFc := va_free (wc := [(d, .inr (4, [.ref r, .ref r2, .ref n1, .ref n2, .ref sg, .int (iI nn)])), (n1, aI gi 512 nf), (n2, aI gi 512 nl), (r, .inr (3, [.ref a, .int (iI t)])), (a, aI gi 60 g)]) hD hS hA [1, 2, 3, 4, 5] rfl
  refine va_calli (va_runV C (As := []) (rest := []) (c_X5_takeBack l D gi gc gr s.heap.size d r2 n1 n2 sg nn r a t g nf nl (by first | omega | assumption) (by first | omega | assumption)) (cwV 0 hts gX6_heal_X5_takeBack rfl rfl rfl (by decide +kernel) ⟨Nat.le_of_ble_eq_true rfl, Nat.le_of_ble_eq_true rfl⟩) (zt_preVw hK hPc hDc [] 0 rfl rfl) rfl rfl hl.1 rfl (lv_room (Nat.le_of_ble_eq_true rfl)) dX6_heal_4 ⟨Nat.le_of_ble_eq_true rfl, Nat.le_of_ble_eq_true rfl⟩) hS (fun q _ h => hFc q h) hFc (fun r_1 u_r_1 T9 H1 locs hT9 hvm hw hB hz1 hk1 hS => ?_)
  obtain ⟨nn_1, g_1⟩ := u_r_1
  try dsimp only at hw
  obtain ⟨⟨z_1, rfl⟩, hnn_1⟩ := hw
  obtain ⟨hP1, hD1⟩ := hB
  rw [hT9] at hP1
  obtain ⟨hP, hD⟩ := zt_back (w1 := [(d, .inr (4, [.ref r, .ref r2, .ref n1, .ref n2, .ref sg, .int (iI nn_1)])), (n1, aI gi 512 nf), (n2, aI gi 512 nl), (r, .inr (3, [.ref a, .int (iI t)])), (a, aI gi 60 g_1)]) (wr := [(h, .inr (5, [.ref k1, .ref d, .ref o, .ref w, .ref bu, .int (iI chg), .int (iI rfd)])), (o, .inr (2, [.ref q1, .ref q2, .ref q3, .ref q4, .ref q5, .ref q6, .int (iI cst), .int (iI F), .int (iI kn)]))]) (wn := [(h, .inr (5, [.ref k1, .ref d, .ref o, .ref w, .ref bu, .int (iI chg), .int (iI rfd)])), (d, .inr (4, [.ref r, .ref r2, .ref n1, .ref n2, .ref sg, .int (iI nn_1)])), (n1, aI gi 512 nf), (n2, aI gi 512 nl), (r, .inr (3, [.ref a, .int (iI t)])), (a, aI gi 60 g_1), (o, .inr (2, [.ref q1, .ref q2, .ref q3, .ref q4, .ref q5, .ref q6, .int (iI cst), .int (iI F), .int (iI kn)]))]) hP hD [1, 2, 3, 4, 5] [0, 6] [0, 2, 3, 4, 5, 6, 1] rfl rfl (by decide) (by decide) hk1 hFc hP1 hD1 rfl (by decide)
  generalize H1 = H at hP hS ⊢
  have hnn2 := hnn_1
  refine lv_istore_n (lv' := [(1, .int (iI z_1)), (0, .ref h)]) hx hb dX6_heal_7 rfl hl (by decide) rfl (fun ls hl => ?_)
  refine lv_iload_n hx hb dX6_heal_8 rfl (lv_at hl 0 rfl) ?_
  refine lv_iconst (v := iI (-1)) hx hb dX6_heal_9 (by decide +kernel) ?_
  refine lv_icmp_eq (tgt := 20) hx hb dX6_heal_10 (by decide) (fun c_2 => ?_) (fun c_2 => ?_)
  · refine lv_iload_n hx hb dX6_heal_20 rfl (lv_at hl 0 rfl) ?_
    exact hQ (nn_1, g_1, kn) _ _ _ _ _ (⟨hnn2, by dsimp only; omega⟩) hP hD hS dX6_heal_21
  · refine lv_aload_n hx hb dX6_heal_13 rfl (lv_at hl 1 rfl) ?_
    refine va_get (D := D) (ci := 5) (v := .ref o) (C := RX6) (T := TX6) (N := 7) hx hb hts i6 hown hK.1 hP 0 rfl rfl 2 (by decide) f28 (fun _ h9 => h9) rfl dX6_heal_14 ?_
    have hPc := hP.sub (ws' := [(o, .inr (2, [.ref q1, .ref q2, .ref q3, .ref q4, .ref q5, .ref q6, .int (iI cst), .int (iI F), .int (iI kn)]))]) [6] rfl
    have hDc := hD.sub (ws' := [(o, .inr (2, [.ref q1, .ref q2, .ref q3, .ref q4, .ref q5, .ref q6, .int (iI cst), .int (iI F), .int (iI kn)]))]) [6] (by decide) rfl
    have hFc := va_free (wc := [(o, .inr (2, [.ref q1, .ref q2, .ref q3, .ref q4, .ref q5, .ref q6, .int (iI cst), .int (iI F), .int (iI kn)]))]) hD hS hA [6] rfl
    refine va_callv (va_runV C (As := []) (rest := []) (c_X3_forget l D gi gc gr H.size o q1 q2 q3 q4 q5 q6 cst F kn) (cwV 0 hts gX6_heal_X3_forget rfl rfl rfl (by decide +kernel) ⟨Nat.le_of_ble_eq_true rfl, Nat.le_of_ble_eq_true rfl⟩) (zt_preVw hK hPc hDc [] 0 rfl rfl) rfl rfl hl.1 rfl (lv_room (Nat.le_of_ble_eq_true rfl)) dX6_heal_17 ⟨Nat.le_of_ble_eq_true rfl, Nat.le_of_ble_eq_true rfl⟩) hS (fun q _ h => hFc q h) hFc (fun u_r_3 T9 H1 locs hT9 hvm hw hB hz1 hk1 hS => ?_)
    obtain ⟨hP1, hD1⟩ := hB
    rw [hT9] at hP1
    obtain ⟨hP, hD⟩ := zt_back (w1 := [(o, .inr (2, [.ref q1, .ref q2, .ref q3, .ref q4, .ref q5, .ref q6, .int (iI cst), .int (iI F), .int (iI 0)]))]) (wr := [(h, .inr (5, [.ref k1, .ref d, .ref o, .ref w, .ref bu, .int (iI chg), .int (iI rfd)])), (d, .inr (4, [.ref r, .ref r2, .ref n1, .ref n2, .ref sg, .int (iI nn_1)])), (n1, aI gi 512 nf), (n2, aI gi 512 nl), (r, .inr (3, [.ref a, .int (iI t)])), (a, aI gi 60 g_1)]) (wn := [(h, .inr (5, [.ref k1, .ref d, .ref o, .ref w, .ref bu, .int (iI chg), .int (iI rfd)])), (d, .inr (4, [.ref r, .ref r2, .ref n1, .ref n2, .ref sg, .int (iI nn_1)])), (n1, aI gi 512 nf), (n2, aI gi 512 nl), (r, .inr (3, [.ref a, .int (iI t)])), (a, aI gi 60 g_1), (o, .inr (2, [.ref q1, .ref q2, .ref q3, .ref q4, .ref q5, .ref q6, .int (iI cst), .int (iI F), .int (iI 0)]))]) hP hD [6] [0, 1, 2, 3, 4, 5] [0, 1, 2, 3, 4, 5, 6] rfl rfl (by decide) (by decide) hk1 hFc hP1 hD1 rfl (by decide)
    generalize H1 = H at hP hS ⊢
    refine lv_iload_n hx hb dX6_heal_20 rfl (lv_at hl 0 rfl) ?_
    exact hQ (nn_1, g_1, 0) _ _ _ _ _ (⟨hnn2, by dsimp only; omega⟩) hP hD hS dX6_heal_21
set_option maxHeartbeats 4000000 in
set_option maxRecDepth 100000 in
theorem c_X6_change (l : Launch) (D : va_G) (gi gc gr : ClassId) (sz : Nat) (h : Nat) (k1 : Nat) (d : Nat) (o : Nat) (w : Nat) (bu : Nat) (chg : Int) (rfd : Int) (q1 : Nat) (q2 : Nat) (q3 : Nat) (q4 : Nat) (q5 : Nat) (q6 : Nat) (cst : Int) (F : Int) (kn : Int) (x : Int) (hx0 : 1 ≤ x ∧ x ≤ 20) : Met l yX6_change wsX6_change { frames := 1, cells := 0, slots := 0, locals := 20 } (zPw D gi gc gr [(h, .inr (5, [.ref k1, .ref d, .ref o, .ref w, .ref bu, .int (iI chg), .int (iI rfd)])), (o, .inr (2, [.ref q1, .ref q2, .ref q3, .ref q4, .ref q5, .ref q6, .int (iI cst), .int (iI F), .int (iI kn)]))] sz [.ref h, .int (iI x)]) (va_Qi (S := Unit) (fun _ _ => True) (zB D (va_A [(h, .inr (5, [.ref k1, .ref d, .ref o, .ref w, .ref bu, .int (iI chg), .int (iI rfd)])), (o, .inr (2, [.ref q1, .ref q2, .ref q3, .ref q4, .ref q5, .ref q6, .int (iI cst), .int (iI F), .int (iI kn)]))] sz) (fun _ => [(h, .inr (5, [.ref k1, .ref d, .ref o, .ref w, .ref bu, .int (iI x), .int (iI rfd)])), (o, .inr (2, [.ref q1, .ref q2, .ref q3, .ref q4, .ref q5, .ref q6, .int (iI cst), .int (iI F), .int (iI 0)]))])) (va_A [(h, .inr (5, [.ref k1, .ref d, .ref o, .ref w, .ref bu, .int (iI chg), .int (iI rfd)])), (o, .inr (2, [.ref q1, .ref q2, .ref q3, .ref q4, .ref q5, .ref q6, .int (iI cst), .int (iI F), .int (iI kn)]))] sz)) 0 0 (va_A [(h, .inr (5, [.ref k1, .ref d, .ref o, .ref w, .ref bu, .int (iI chg), .int (iI rfd)])), (o, .inr (2, [.ref q1, .ref q2, .ref q3, .ref q4, .ref q5, .ref q6, .int (iI cst), .int (iI F), .int (iI kn)]))] sz) := by
  refine zt_metWi (own := RX6) (cc := cX6_change) (maxL := 3) (by decide) rfl rfl (Nat.le_of_ble_eq_true rfl) ?_
  intro p e s m args below meth c Q A C hK hP hD hS hA _ hQ ls hl
  have hx := C.1
  have hb := C.2.1
  have hml := C.2.2.1
  have hown := C.2.2.2.1
  have hts := C.2.2.2.2
  have i6 : ∀ w ∈ u_ws RX6 TX6 7, w ∈ wsX6_change := by decide +kernel
  have f28 := hts (.fieldLink RX6 28 "Threetwo" "rhythm" "LThreetwo$Rhythm;") (by decide +kernel)
  have f46 := hts (.fieldLink RX6 46 "Threetwo" "changeNow" "I") (by decide +kernel)
  have hl : lv_has ls 3 [(0, .ref h), (1, .int (iI x))] := hl
  refine lv_iload_n hx hb dX6_change_0 rfl (lv_at hl 1 rfl) ?_
  refine lv_iconst (v := iI (1)) hx hb dX6_change_1 (by decide +kernel) ?_
  refine zt_icmp_lt (tgt := 11) hx hb dX6_change_2 (by decide) (by omega) (fun c_1 => absurd c_1 (by omega)) (fun c_1 => ?_)
  refine lv_iload_n hx hb dX6_change_5 rfl (lv_at hl 1 rfl) ?_
  refine lv_bipush (v := iI (20)) hx hb dX6_change_6 (by decide +kernel) ?_
  refine zt_icmp_le (tgt := 21) hx hb dX6_change_8 (by decide) (by omega) (fun c_2 => ?_) (fun c_2 => absurd c_2 (by omega))
  refine lv_aload_n hx hb dX6_change_21 rfl (lv_at hl 0 rfl) ?_
  refine va_get (D := D) (ci := 5) (v := .int (iI chg)) (C := RX6) (T := TX6) (N := 7) hx hb hts i6 hown hK.1 hP 0 rfl rfl 5 (by decide) f46 (fun _ h9 => h9) rfl dX6_change_22 ?_
  refine lv_istore_n (lv' := [(2, .int (iI chg)), (0, .ref h), (1, .int (iI x))]) hx hb dX6_change_25 rfl hl (by decide) rfl (fun ls hl => ?_)
  refine lv_aload_n hx hb dX6_change_26 rfl (lv_at hl 1 rfl) ?_
  refine lv_iload_n hx hb dX6_change_27 rfl (lv_at hl 2 rfl) ?_
  refine va_put (D := D) (ci := 5) (v := .int (iI x)) (ty := .int) (C := RX6) (T := TX6) (N := 7) hx hb hts i6 tyX6 tyX6_ok nmX6 hown hK.1 hP hD hS 0 rfl rfl 5 (by decide) f46 (fun _ h9 => h9) rfl (by decide +kernel) rfl rfl (Nat.le_of_ble_eq_true rfl) dX6_change_28 (fun H locs hP hD hS => ?_)
  have hP : va_P D vwCl [(h, .inr (5, [.ref k1, .ref d, .ref o, .ref w, .ref bu, .int (iI x), .int (iI rfd)])), (o, .inr (2, [.ref q1, .ref q2, .ref q3, .ref q4, .ref q5, .ref q6, .int (iI cst), .int (iI F), .int (iI kn)]))] H := hP
  have hD : va_D A [(h, .inr (5, [.ref k1, .ref d, .ref o, .ref w, .ref bu, .int (iI x), .int (iI rfd)])), (o, .inr (2, [.ref q1, .ref q2, .ref q3, .ref q4, .ref q5, .ref q6, .int (iI cst), .int (iI F), .int (iI kn)]))] := hD
  refine lv_aload_n hx hb dX6_change_31 rfl (lv_at hl 1 rfl) ?_
  refine va_get (D := D) (ci := 5) (v := .ref o) (C := RX6) (T := TX6) (N := 7) hx hb hts i6 hown hK.1 hP 0 rfl rfl 2 (by decide) f28 (fun _ h9 => h9) rfl dX6_change_32 ?_
  have hPc := hP.sub (ws' := [(o, .inr (2, [.ref q1, .ref q2, .ref q3, .ref q4, .ref q5, .ref q6, .int (iI cst), .int (iI F), .int (iI kn)]))]) [1] rfl
  have hDc := hD.sub (ws' := [(o, .inr (2, [.ref q1, .ref q2, .ref q3, .ref q4, .ref q5, .ref q6, .int (iI cst), .int (iI F), .int (iI kn)]))]) [1] (by decide) rfl
  have hFc := va_free (wc := [(o, .inr (2, [.ref q1, .ref q2, .ref q3, .ref q4, .ref q5, .ref q6, .int (iI cst), .int (iI F), .int (iI kn)]))]) hD hS hA [1] rfl
  refine va_callv (va_runV C (As := []) (rest := []) (c_X3_forget l D gi gc gr H.size o q1 q2 q3 q4 q5 q6 cst F kn) (cwV 0 hts gX6_change_X3_forget rfl rfl rfl (by decide +kernel) ⟨Nat.le_of_ble_eq_true rfl, Nat.le_of_ble_eq_true rfl⟩) (zt_preVw hK hPc hDc [] 0 rfl rfl) rfl rfl hl.1 rfl (lv_room (Nat.le_of_ble_eq_true rfl)) dX6_change_35 ⟨Nat.le_of_ble_eq_true rfl, Nat.le_of_ble_eq_true rfl⟩) hS (fun q _ h => hFc q h) hFc (fun u_r_3 T9 H1 locs hT9 hvm hw hB hz1 hk1 hS => ?_)
  obtain ⟨hP1, hD1⟩ := hB
  rw [hT9] at hP1
  obtain ⟨hP, hD⟩ := zt_back (w1 := [(o, .inr (2, [.ref q1, .ref q2, .ref q3, .ref q4, .ref q5, .ref q6, .int (iI cst), .int (iI F), .int (iI 0)]))]) (wr := [(h, .inr (5, [.ref k1, .ref d, .ref o, .ref w, .ref bu, .int (iI x), .int (iI rfd)]))]) (wn := [(h, .inr (5, [.ref k1, .ref d, .ref o, .ref w, .ref bu, .int (iI x), .int (iI rfd)])), (o, .inr (2, [.ref q1, .ref q2, .ref q3, .ref q4, .ref q5, .ref q6, .int (iI cst), .int (iI F), .int (iI 0)]))]) hP hD [1] [0] [0, 1] rfl rfl (by decide) (by decide) hk1 hFc hP1 hD1 rfl (by decide)
  generalize H1 = H at hP hS ⊢
  refine lv_iload_n hx hb dX6_change_38 rfl (lv_at hl 0 rfl) ?_
  exact hQ () _ _ _ _ _ (by trivial) hP hD hS dX6_change_39
set_option maxHeartbeats 4000000 in
set_option maxRecDepth 100000 in
theorem c_X6_rate (l : Launch) (D : va_G) (gi gc gr : ClassId) (sz : Nat) (h : Nat) (k1 : Nat) (d : Nat) (o : Nat) (w : Nat) (bu : Nat) (chg : Int) (rfd : Int) (br : Nat) (rate : Int) (x : Int) (hx0 : 1 ≤ x ∧ x ≤ 50) : Met l yX6_rate wsX6_rate { frames := 0, cells := 0, slots := 0, locals := 0 } (zPw D gi gc gr [(h, .inr (5, [.ref k1, .ref d, .ref o, .ref w, .ref bu, .int (iI chg), .int (iI rfd)])), (bu, .inr (0, [.ref br, .int (iI rate)]))] sz [.ref h, .int (iI x)]) (va_Qi (S := Unit) (fun _ _ => True) (zB D (va_A [(h, .inr (5, [.ref k1, .ref d, .ref o, .ref w, .ref bu, .int (iI chg), .int (iI rfd)])), (bu, .inr (0, [.ref br, .int (iI rate)]))] sz) (fun _ => [(h, .inr (5, [.ref k1, .ref d, .ref o, .ref w, .ref bu, .int (iI chg), .int (iI rfd)])), (bu, .inr (0, [.ref br, .int (iI x)]))])) (va_A [(h, .inr (5, [.ref k1, .ref d, .ref o, .ref w, .ref bu, .int (iI chg), .int (iI rfd)])), (bu, .inr (0, [.ref br, .int (iI rate)]))] sz)) 0 0 (va_A [(h, .inr (5, [.ref k1, .ref d, .ref o, .ref w, .ref bu, .int (iI chg), .int (iI rfd)])), (bu, .inr (0, [.ref br, .int (iI rate)]))] sz) := by
  refine zt_metWi (own := RX6) (cc := cX6_rate) (maxL := 3) (by decide) rfl rfl (Nat.le_of_ble_eq_true rfl) ?_
  intro p e s m args below meth c Q A C hK hP hD hS hA _ hQ ls hl
  have hx := C.1
  have hb := C.2.1
  have hml := C.2.2.1
  have hown := C.2.2.2.1
  have hts := C.2.2.2.2
  have i0 : ∀ w ∈ u_ws RX0 TX0 2, w ∈ wsX6_rate := by decide +kernel
  have i6 : ∀ w ∈ u_ws RX6 TX6 7, w ∈ wsX6_rate := by decide +kernel
  have f42 := hts (.fieldLink RX6 42 "Threetwo" "buffer" "LThreetwo$Buffer;") (by decide +kernel)
  have hl : lv_has ls 3 [(0, .ref h), (1, .int (iI x))] := hl
  refine lv_iload_n hx hb dX6_rate_0 rfl (lv_at hl 1 rfl) ?_
  refine lv_iconst (v := iI (1)) hx hb dX6_rate_1 (by decide +kernel) ?_
  refine zt_icmp_lt (tgt := 11) hx hb dX6_rate_2 (by decide) (by omega) (fun c_1 => absurd c_1 (by omega)) (fun c_1 => ?_)
  refine lv_iload_n hx hb dX6_rate_5 rfl (lv_at hl 1 rfl) ?_
  refine lv_bipush (v := iI (50)) hx hb dX6_rate_6 (by decide +kernel) ?_
  refine zt_icmp_le (tgt := 21) hx hb dX6_rate_8 (by decide) (by omega) (fun c_2 => ?_) (fun c_2 => absurd c_2 (by omega))
  refine lv_aload_n hx hb dX6_rate_21 rfl (lv_at hl 0 rfl) ?_
  refine va_get (D := D) (ci := 5) (v := .ref bu) (C := RX6) (T := TX6) (N := 7) hx hb hts i6 hown hK.1 hP 0 rfl rfl 4 (by decide) f42 (fun _ h9 => h9) rfl dX6_rate_22 ?_
  refine va_getN (D := D) (ci := 0) (v := .int (iI rate)) (C := RX0) (T := TX0) (N := 2) hx hb hts i0 hown hK.1 hP 1 rfl rfl 1 (by decide) (zK.n122 hK _) (fun _ h9 => h9) rfl dX6_rate_25 ?_
  refine lv_istore_n (lv' := [(2, .int (iI rate)), (0, .ref h), (1, .int (iI x))]) hx hb dX6_rate_28 rfl hl (by decide) rfl (fun ls hl => ?_)
  refine lv_aload_n hx hb dX6_rate_29 rfl (lv_at hl 1 rfl) ?_
  refine va_get (D := D) (ci := 5) (v := .ref bu) (C := RX6) (T := TX6) (N := 7) hx hb hts i6 hown hK.1 hP 0 rfl rfl 4 (by decide) f42 (fun _ h9 => h9) rfl dX6_rate_30 ?_
  refine lv_iload_n hx hb dX6_rate_33 rfl (lv_at hl 2 rfl) ?_
  refine va_putN (D := D) (ci := 0) (v := .int (iI x)) (ty := .int) (C := RX0) (T := TX0) (N := 2) hx hb hts i0 tyX0 tyX0_ok nmX0 hown hK.1 hP hD hS 1 rfl rfl 1 (by decide) (zK.n122 hK _) (fun _ h9 => h9) rfl (by decide +kernel) rfl rfl (Nat.le_of_ble_eq_true rfl) dX6_rate_34 (fun H locs hP hD hS => ?_)
  have hP : va_P D vwCl [(h, .inr (5, [.ref k1, .ref d, .ref o, .ref w, .ref bu, .int (iI chg), .int (iI rfd)])), (bu, .inr (0, [.ref br, .int (iI x)]))] H := hP
  have hD : va_D A [(h, .inr (5, [.ref k1, .ref d, .ref o, .ref w, .ref bu, .int (iI chg), .int (iI rfd)])), (bu, .inr (0, [.ref br, .int (iI x)]))] := hD
  refine lv_iload_n hx hb dX6_rate_37 rfl (lv_at hl 0 rfl) ?_
  exact hQ () _ _ _ _ _ (by trivial) hP hD hS dX6_rate_38
