/-! ===== throws: what is known of them, their ends, their calls ===== -/
def zNames : List String := ["java/lang/RuntimeException", "java/lang/Exception"]
def zTexts : List (Nat × String) := [(274, "no such PRINT"), (198, "what of the house is 0 to 11"), (205, "a picture is 0 to 107891"), (215, "a DELAY is 0 to 2000"), (271, "no such FIELD"), (146, "what of a FIELD is 0 to 3"), (153, "no such FOUND FRAME"), (165, "what of a FOUND FRAME is 0 to 2"), (266, "a LOOK is 0 to 99"), (62, "the REEL is full"), (69, "PHASE is 0 or 1"), (89, "there are not so many FIELDS to CUT OUT"), (104, "CHANGE is 1 to 20"), (109, "there are three PRINTS"), (118, "the PRINT is full"), (120, "RATE is 1 to 50"), (125, "a SIZE is 0 to 99"), (130, "there are twenty SIZES")]
def zXw : List Cond := [.declares (Bundle.initS "java/lang/RuntimeException"), .declares (Bundle.initS "java/lang/Exception"), .declares (Bundle.initS Bundle.tN), .castable "java/lang/IllegalArgumentException" "java/lang/IllegalArgumentException", .castable "java/lang/IllegalStateException" "java/lang/IllegalStateException", .castable "java/lang/IndexOutOfBoundsException" "java/lang/IndexOutOfBoundsException"]
def zX (U : State) : Prop := (∀ w ∈ zXw, va_Nw w U) ∧ ∀ q ∈ zTexts, ∃ a : Nat, vk_R RX6 q.1 q.2 a U
theorem zX.warm {s U : State} (hW : s.WarmedH U.vm) (h : zX s) : zX U := by
  refine ⟨fun w hw => ?_, fun q hq => ?_⟩
  · have h1 := h.1 w hw
    simp only [zXw, List.mem_cons, List.not_mem_nil, or_false] at hw
    rcases hw with e | e | e | e | e | e
    · subst e; exact va_Nw.warmD hW h1
    · subst e; exact va_Nw.warmD hW h1
    · subst e; exact va_Nw.warmD hW h1
    · subst e; exact va_Nw.warmC hW h1
    · subst e; exact va_Nw.warmC hW h1
    · subst e; exact va_Nw.warmC hW h1
  · obtain ⟨a, ha⟩ := h.2 q hq
    exact ⟨a, vk_R.warm hW ha⟩
theorem zX.same {u U : State} (hv : u.vm = U.vm) (h : zX u) : zX U := by
  refine ⟨fun w hw => ?_, fun q hq => ?_⟩
  · have h1 := h.1 w hw
    simp only [zXw, List.mem_cons, List.not_mem_nil, or_false] at hw
    rcases hw with e | e | e | e | e | e <;> (subst e; exact va_Nw.same rfl hv h1)
  · obtain ⟨a, ha⟩ := h.2 q hq
    exact ⟨a, vk_R.same hv.symm ha⟩
def zS (A : Nat → Prop) (U : State) (H : Heap) : Prop := vx_Zq Bundle.tN "UNASSIGNED_STACK" Bundle.steD A U H ∧ vx_Zq Bundle.tN "SUPPRESSED_SENTINEL" Bundle.listD A U H
theorem zS.go {A B : Nat → Prop} {s U : State} {H : Heap} {locs : List Loc} (h : zS A s s.heap) (hS : va_S A s.heap H locs) (hAB : ∀ q, B q → A q) (hv : s.vm.Alike U.vm) (hU : U.heap = H) : zS B U U.heap := by
  rw [hU]
  exact ⟨((h.1.kept (fun a h1 h2 => hS.2.1 a h1 h2)).moved hv).narrow hAB, ((h.2.kept (fun a h1 h2 => hS.2.1 a h1 h2)).moved hv).narrow hAB⟩
def zEn (E : String) : Prop := E = "java/lang/IllegalArgumentException" ∨ E = "java/lang/IllegalStateException" ∨ E = "java/lang/IndexOutOfBoundsException"
def zPx (D : va_G) (gi gc gr : ClassId) (w : va_W) (sz : Nat) (av : List Value) : Array Value → State → Prop := fun v U => zPw D gi gc gr w sz av v U ∧ zX U ∧ zS (va_A w sz) U U.heap
theorem zS.same {A : Nat → Prop} {u U : State} (hv : u.vm = U.vm) (hh : u.heap = U.heap) (h : zS A u u.heap) : zS A U U.heap := by
  rw [← hh]
  exact ⟨h.1.moved (hv ▸ Vm.Alike.refl u.vm), h.2.moved (hv ▸ Vm.Alike.refl u.vm)⟩
theorem zPx.blind {D : va_G} {gi gc gr : ClassId} {w : va_W} {sz : Nat} {av : List Value} : FrameBlind (zPx D gi gc gr w sz av) := fun a U g mk q => ⟨zPw.blind a U g mk q.1, zX.same (u := U) (U := U.calling g mk a) rfl q.2.1, zS.same (u := U) (U := U.calling g mk a) rfl rfl q.2.2⟩
/-- what a method that may throw says at its end -/
abbrev zQx {S : Type} (post : S → Prop) (D : va_G) (A : Nat → Prop) (wf : S → va_W) : String → State → State → Prop := vx_X post (fun E u t => zEn E ∧ zB D A wf u t) A
theorem zx_ng71 : ∀ w ∈ (vx_atS RX6 71 "java/lang/IllegalArgumentException" zNames).filter (fun w => !goodWord w), w ∈ zXw := by decide +kernel
theorem zx_ng64 : ∀ w ∈ (vx_atS RX6 64 "java/lang/IllegalStateException" zNames).filter (fun w => !goodWord w), w ∈ zXw := by decide +kernel
theorem zx_ng155 : ∀ w ∈ (vx_atS RX6 155 "java/lang/IndexOutOfBoundsException" zNames).filter (fun w => !goodWord w), w ∈ zXw := by decide +kernel
theorem zx_ok71 : ∀ w ∈ Cond.classLink RX6 67 "java/lang/IllegalArgumentException" :: Cond.initialized "java/lang/IllegalArgumentException" :: vx_atS RX6 71 "java/lang/IllegalArgumentException" zNames, vx_ot w = true := by decide +kernel
theorem zx_ok64 : ∀ w ∈ Cond.classLink RX6 60 "java/lang/IllegalStateException" :: Cond.initialized "java/lang/IllegalStateException" :: vx_atS RX6 64 "java/lang/IllegalStateException" zNames, vx_ot w = true := by decide +kernel
theorem zx_ok155 : ∀ w ∈ Cond.classLink RX6 151 "java/lang/IndexOutOfBoundsException" :: Cond.initialized "java/lang/IndexOutOfBoundsException" :: vx_atS RX6 155 "java/lang/IndexOutOfBoundsException" zNames, vx_ot w = true := by decide +kernel
theorem zx_names : ∀ n ∈ zNames, Bundle.fit n = true := by decide +kernel
section ZXR
variable {p : Program} {l : Launch} {e : Env} {R : Room} {s : State} {m : MethodId} {args : Array Value} {below : List Frame} {meth : Method} {c : Code} {H : Heap} {locs : List Loc} {cells slots mc ms : Nat}
variable {cc : ByteArray} {pc maxL : Nat} {ls : Array Slot} {rest : List Value} {S : Type} {post : S → Prop} {wf : S → va_W} {Qc : Array Value → State → Outcome → State → Prop} {D : va_G} {A : Nat → Prop} {ws : List Cond}
theorem zt_xc {cls : String} (hcls : zEn cls) (u : S) (hp : post u) (hP : va_P D vwCl (wf u) H) (hD : va_D A (wf u)) (hS : va_S A s.heap H locs) {t : State} (hz : H.size ≤ t.heap.size) (hk : ∀ q : Nat, q < H.size → t.heap[q]? = H[q]?) : zQx post D A wf cls s t :=
  ⟨u, hp, ⟨hcls, hP.kept (fun k q hq => hk q.1 (hP k q hq).lt), hD⟩, Nat.le_trans hS.1 hz, fun q h1 h2 => (hk q (Nat.lt_of_lt_of_le h1 hS.1)).trans (hS.2.1 q h1 h2)⟩
theorem zt_throwS {cls text : String} {ik is ic : Nat} (C : CallFix p m c cc maxL s args ws RX6) (hl : l.stackTraces = false) (hlk : meth.locks = false) (htab : ∀ x ∈ c.exceptionTable.toList, False) (hX : zX s) (hZ : zS A s s.heap) (hS : va_S A s.heap H locs) (hsize : ls.size = maxL)
    (hcls : zEn cls) (hq : (is, text) ∈ zTexts) (hk : Cond.classLink RX6 ik cls ∈ ws) (hini : Cond.initialized cls ∈ ws) (hat : ∀ w ∈ (vx_atS RX6 ic cls zNames).filter goodWord, w ∈ ws) (hng : ∀ w ∈ (vx_atS RX6 ic cls zNames).filter (fun w => !goodWord w), w ∈ zXw)
    (hgood : ∀ w ∈ Cond.classLink RX6 ik cls :: Cond.initialized cls :: vx_atS RX6 ic cls zNames, vx_ot w = true) (hfit : Bundle.fit cls = true)
    (d0 : decode cc pc = .ok (.new ik, 3)) (d3 : decode cc (pc + 3) = .ok (.dup, 1)) (d4 : decode cc (pc + 4) = .ok (.ldc is, 2)) (d6 : decode cc (pc + 6) = .ok (.invokespecial ic, 3)) (d9 : decode cc (pc + 9) = .ok (.athrow, 1))
    (hR : 5 < R.frames ∧ (rest.map fun v => v.category).sum + 82 ≤ R.locals ∧ cells + 1 ≤ R.cells ∧ slots + 6 ≤ R.slots) (hc : cells + 1 ≤ mc) (hs : slots + 6 ≤ ms) (u : S) (hp : post u) (hP : va_P D vwCl (wf u) H) (hD : va_D A (wf u)) :
    W p l e R s m args below meth c H locs cells slots (vx_MQ below Qc (zQx post D A wf) args s mc ms A) (F0 m pc ls rest) := by
  obtain ⟨sa, hsa⟩ := hX.2 _ hq
  exact vx_throwS C.1 C.2.1 hl C.2.2.2.1 hfit zx_names (C.2.2.2.2 _ hk) (C.2.2.2.2 _ hini) hsa (vx_hat (fun w hw => C.2.2.2.2 w (hat w hw)) hng (fun w hw => va_tabs (by simp only [zXw, List.mem_cons, List.not_mem_nil, or_false] at hw; rcases hw with e | e | e | e | e | e <;> (subst e; rfl)) rfl (hX.1 w hw))) hgood hZ.1 hZ.2 hS (hsize.trans C.2.2.1.symm) d0 d3 d4 d6 d9 (fun x hx => (htab x hx).elim) (by exact hR.1) (by exact hR.2.1) hR.2.2.1 hR.2.2.2 hlk
    (fun t _ hz hk => zt_xc hcls u hp hP hD hS hz hk) hS.2.2 hc hs
theorem zt_throwSW {cls text : String} {ik is ic : Nat} (C : CallFix p m c cc maxL s args ws RX6) (hl : l.stackTraces = false) (hlk : meth.locks = false) (htab : ∀ x ∈ c.exceptionTable.toList, False) (hX : zX s) (hZ : zS A s s.heap) (hS : va_S A s.heap H locs) (hsize : ls.size = maxL)
    (hcls : zEn cls) (hq : (is, text) ∈ zTexts) (hk : Cond.classLink RX6 ik cls ∈ ws) (hini : Cond.initialized cls ∈ ws) (hat : ∀ w ∈ (vx_atS RX6 ic cls zNames).filter goodWord, w ∈ ws) (hng : ∀ w ∈ (vx_atS RX6 ic cls zNames).filter (fun w => !goodWord w), w ∈ zXw)
    (hgood : ∀ w ∈ Cond.classLink RX6 ik cls :: Cond.initialized cls :: vx_atS RX6 ic cls zNames, vx_ot w = true) (hfit : Bundle.fit cls = true)
    (d0 : decode cc pc = .ok (.new ik, 3)) (d3 : decode cc (pc + 3) = .ok (.dup, 1)) (d4 : decode cc (pc + 4) = .ok (.ldc_w is, 3)) (d7 : decode cc (pc + 7) = .ok (.invokespecial ic, 3)) (d10 : decode cc (pc + 10) = .ok (.athrow, 1))
    (hR : 5 < R.frames ∧ (rest.map fun v => v.category).sum + 82 ≤ R.locals ∧ cells + 1 ≤ R.cells ∧ slots + 6 ≤ R.slots) (hc : cells + 1 ≤ mc) (hs : slots + 6 ≤ ms) (u : S) (hp : post u) (hP : va_P D vwCl (wf u) H) (hD : va_D A (wf u)) :
    W p l e R s m args below meth c H locs cells slots (vx_MQ below Qc (zQx post D A wf) args s mc ms A) (F0 m pc ls rest) := by
  obtain ⟨sa, hsa⟩ := hX.2 _ hq
  exact vx_throwSW C.1 C.2.1 hl C.2.2.2.1 hfit zx_names (C.2.2.2.2 _ hk) (C.2.2.2.2 _ hini) hsa (vx_hat (fun w hw => C.2.2.2.2 w (hat w hw)) hng (fun w hw => va_tabs (by simp only [zXw, List.mem_cons, List.not_mem_nil, or_false] at hw; rcases hw with e | e | e | e | e | e <;> (subst e; rfl)) rfl (hX.1 w hw))) hgood hZ.1 hZ.2 hS (hsize.trans C.2.2.1.symm) d0 d3 d4 d7 d10 (fun x hx => (htab x hx).elim) (by exact hR.1) (by exact hR.2.1) hR.2.2.1 hR.2.2.2 hlk
    (fun t _ hz hk => zt_xc hcls u hp hP hD hS hz hk) hS.2.2 hc hs
/-- a throw of a callee goes on to the caller -/
theorem zt_outX {E : String} {ce : Cell} {q : Addr} (hlk : meth.locks = false) (htab : ∀ x ∈ c.exceptionTable.toList, False) (hE : zEn E) (hcell : H[q]? = some ce) (hv : ce.vm = .none) (hcl : s.vm.findClass E = some ce.cls) (hS : va_S A s.heap H locs) (hc : cells ≤ mc) (hs : slots ≤ ms) (u : S) (hp : post u) (hP : va_P D vwCl (wf u) H) (hD : va_D A (wf u)) :
    vx_W p l e R s m args below meth c H locs cells slots (vx_MQ below Qc (zQx post D A wf) args s mc ms A) (F0 m pc ls rest) q :=
  vx_out (fun x hx => (htab x hx).elim) hlk hcell hv hcl (fun t ht _ => zt_xc hE u hp hP hD hS (by rw [ht]; exact Nat.le_refl _) (fun q _ => by rw [ht])) hS.2.2 hc hs
theorem zt_iretX {postN : Int32 → S → Prop} {XC : String → State → State → Prop} (hx : p.tables.exec = Jvm.exec) (hb : c.code = cc) (hr : meth.sig.returnType = some .int) (hlk : meth.locks = false) {v : Int32} (hc : cells ≤ mc) (hs : slots ≤ ms) (u : S) (hp : postN v u) (hP : va_P D vwCl (wf u) H) (hD : va_D A (wf u)) (hS : va_S A s.heap H locs) (hdg : decode cc pc = .ok (.ireturn, 1)) :
    W p l e R s m args below meth c H locs cells slots (vx_MQ below (va_Qi postN (zB D A wf) A) XC args s mc ms A) (F0 m pc ls [.int v]) :=
  W.widen hc hs (vx_ret (W.iret hx hb hr (fun t ht _ => ⟨⟨v, u, rfl, hp, by rw [ht]; exact hP, hD⟩, hS.F ht⟩) hS.2.2 hdg hlk))
theorem zt_vretX {XC : String → State → State → Prop} (hx : p.tables.exec = Jvm.exec) (hb : c.code = cc) (hr : meth.sig.returnType = none) (hlk : meth.locks = false) (hc : cells ≤ mc) (hs : slots ≤ ms) (u : S) (hp : post u) (hP : va_P D vwCl (wf u) H) (hD : va_D A (wf u)) (hS : va_S A s.heap H locs) (hdg : decode cc pc = .ok (.return_, 1)) :
    W p l e R s m args below meth c H locs cells slots (vx_MQ below (va_Qv post (zB D A wf) A) XC args s mc ms A) (F0 m pc ls []) :=
  W.widen hc hs (vx_ret (W.vret hx hb hr (fun t ht _ => ⟨⟨u, rfl, hp, by rw [ht]; exact hP, hD⟩, hS.F ht⟩) hS.2.2 hdg hlk))
end ZXR
/-- the entry of a method that may throw -/
theorem zt_metX {l : Launch} {y : MethodName} {ws ws' : List Cond} {rm : Room} {cc : ByteArray} {maxL mc ms : Nat} {ret : Option FieldType} {own : String} {D : va_G} {gi gc gr : ClassId} {w : va_W} {sz : Nat} {av : List Value} {Qc : Array Value → State → Outcome → State → Prop} {XC : String → State → State → Prop}
    (hy : plainName y.cls = true) (hcls : y.cls = own) (hw : ws = Cond.code y cc maxL ret :: ws') (hn : (lg_sl av).length ≤ maxL)
    (body : ∀ (p : Program) (e : Env) (s : State) (m : MethodId) (args : Array Value) (below : List Frame) (meth : Method) (c : Code) (A : Nat → Prop), A = va_A w sz → CallFix p m c cc maxL s args ws own → meth.sig.returnType = ret → meth.locks = false → (∀ x ∈ c.exceptionTable.toList, False) → zK D gi gc gr s → zX s → zS A s s.heap → va_P D vwCl w s.heap → va_D A w → va_S A s.heap s.heap [] → (∀ q : Nat, s.heap.size ≤ q → A q) → ∀ ls : Array Slot, lv_has ls maxL (lv_args 0 av) →
      W p l e rm s m args below meth c s.heap [] 0 0 (vx_MQ below Qc XC args s mc ms A) (F0 m 0 ls [])) : vx_Met l y ws rm (zPx D gi gc gr w sz av) Qc XC mc ms (va_A w sz) := by
  refine vx_ofW (cc := cc) (maxL := maxL) (ret := ret) hy hw ?_
  intro p e s m args below meth c s₁ B hml htab hv
  obtain ⟨⟨rfl, hsz, hP, hK, hD⟩, hX, hZ⟩ := hv
  have hl := lv_entry av (n := maxL) hn
  rw [lg_entry_eq]
  exact body p e s m av.toArray below meth c (va_A w sz) rfl ⟨B.exec, B.bytes, hml, by rw [← hcls]; exact findClass_of_methodNamed B.named, atoms_spec (ws := ws) B.pre⟩ B.returns B.notSynchronized htab hK hX hZ hP hD.self va_S.rf (fun q h => Or.inr (hsz ▸ h)) _ hl
section ZXC
variable {p : Program} {l : Launch} {e : Env} {s : State} {H : Heap} {locs : List Loc} {D : va_G} {gi gc gr : ClassId} {wc : va_W} {b : Addr} {A : Nat → Prop}
theorem zt_preVx (hK : zK D gi gc gr s) (hX : zX s) (hZ : zS A s s.heap) (hS : va_S A s.heap H locs) (hF : ∀ q, va_A wc H.size q → A q) (hP : va_P D vwCl wc H) (hD : va_D A wc) (As : List Value) {ci : Nat} {fs : List Value} (q0 : Nat) (he : wc[q0]? = some (b, .inr (ci, fs))) {C : String} {T : u_T} {N : Nat} (hc : vwCl[ci]? = some (C, T, N)) : PreV s H C b (zPx D gi gc gr wc H.size (.ref b :: As)) As :=
  ⟨zPx.blind, va_recv hK.1 hP hc he, fun U hU hW => ⟨⟨rfl, by rw [hU], by rw [hU]; exact hP, hK.warm hW, hD.weaken (fun _ _ _ _ => trivial)⟩, hX.warm hW, hZ.go hS hF hW.alike hU⟩⟩
theorem zt_preSx (hK : zK D gi gc gr s) (hX : zX s) (hZ : zS A s s.heap) (hS : va_S A s.heap H locs) (hF : ∀ q, va_A wc H.size q → A q) (hP : va_P D vwCl wc H) (hD : va_D A wc) (As : List Value) : PreS s H (zPx D gi gc gr wc H.size As) As :=
  ⟨zPx.blind, fun U hU hW => ⟨⟨rfl, by rw [hU], by rw [hU]; exact hP, hK.warm hW, hD.weaken (fun _ _ _ _ => trivial)⟩, hX.warm hW, hZ.go hS hF hW.alike hU⟩⟩
end ZXC
