section
-- ===== PART A: goes FIRST, ahead of the names: the tables' words, and 'selects' of the private methods out of them =====
/-- a private method of a class that the tables say can be made, by its rows of tables_1 -/
def lw_okq (q : MethodName × Nat) : Prop := (q.1.cls ≠ "java/lang/invoke/MethodHandle" ∧ q.1.cls ≠ "java/lang/invoke/VarHandle") ∧ Cond.instantiable q.1.cls q.2 ∈ tables_1 ∧ Cond.privateMethod q.1 ∈ tables_1 ∧ Cond.instanceMethod q.1 ∈ tables_1
theorem lw_p0 : lw_okq (⟨"Threetwo", "requirePrint", "(I)V"⟩, 7) := ⟨⟨by decide +kernel, by decide +kernel⟩, List.mem_of_getElem? (i := 16) (by decide +kernel), List.mem_of_getElem? (i := 178) (by decide +kernel), List.mem_of_getElem? (i := 179) (by decide +kernel)⟩
theorem lw_p1 : lw_okq (⟨"java/lang/Throwable", "fillInStackTrace", "(I)Ljava/lang/Throwable;"⟩, 6) := ⟨⟨by decide +kernel, by decide +kernel⟩, List.mem_of_getElem? (i := 224) (by decide +kernel), List.mem_of_getElem? (i := 222) (by decide +kernel), List.mem_of_getElem? (i := 223) (by decide +kernel)⟩
theorem lw_p2 : lw_okq (⟨"Threetwo$Prints", "leastFrom", "(LThreetwo$Row;LThreetwo$Row;II)I"⟩, 4) := ⟨⟨by decide +kernel, by decide +kernel⟩, List.mem_of_getElem? (i := 112) (by decide +kernel), List.mem_of_getElem? (i := 262) (by decide +kernel), List.mem_of_getElem? (i := 263) (by decide +kernel)⟩
theorem lw_p3 : lw_okq (⟨"Threetwo$Rhythm", "bestNext", "(IIZI)I"⟩, 9) := ⟨⟨by decide +kernel, by decide +kernel⟩, List.mem_of_getElem? (i := 71) (by decide +kernel), List.mem_of_getElem? (i := 298) (by decide +kernel), List.mem_of_getElem? (i := 299) (by decide +kernel)⟩
theorem lw_p4 : lw_okq (⟨"Threetwo$Rhythm", "bestFirst", "()I"⟩, 9) := ⟨⟨by decide +kernel, by decide +kernel⟩, List.mem_of_getElem? (i := 71) (by decide +kernel), List.mem_of_getElem? (i := 305) (by decide +kernel), List.mem_of_getElem? (i := 306) (by decide +kernel)⟩
theorem lw_p5 : lw_okq (⟨"Threetwo$Rhythm", "tracePath", "(LThreetwo$Row;I)V"⟩, 9) := ⟨⟨by decide +kernel, by decide +kernel⟩, List.mem_of_getElem? (i := 71) (by decide +kernel), List.mem_of_getElem? (i := 309) (by decide +kernel), List.mem_of_getElem? (i := 310) (by decide +kernel)⟩
theorem lw_p6 : lw_okq (⟨"Threetwo$Rhythm", "gatherFrames", "(I)V"⟩, 9) := ⟨⟨by decide +kernel, by decide +kernel⟩, List.mem_of_getElem? (i := 71) (by decide +kernel), List.mem_of_getElem? (i := 313) (by decide +kernel), List.mem_of_getElem? (i := 314) (by decide +kernel)⟩
theorem lw_p7 : lw_okq (⟨"Threetwo$Rhythm", "beginsFrame", "(I)Z"⟩, 9) := ⟨⟨by decide +kernel, by decide +kernel⟩, List.mem_of_getElem? (i := 71) (by decide +kernel), List.mem_of_getElem? (i := 317) (by decide +kernel), List.mem_of_getElem? (i := 318) (by decide +kernel)⟩
theorem lw_p8 : lw_okq (⟨"Threetwo$Buffer", "sumOfSizes", "()I"⟩, 2) := ⟨⟨by decide +kernel, by decide +kernel⟩, List.mem_of_getElem? (i := 135) (by decide +kernel), List.mem_of_getElem? (i := 339) (by decide +kernel), List.mem_of_getElem? (i := 340) (by decide +kernel)⟩
theorem lw_p9 : lw_okq (⟨"Threetwo$Buffer", "cameIn", "(II)I"⟩, 2) := ⟨⟨by decide +kernel, by decide +kernel⟩, List.mem_of_getElem? (i := 135) (by decide +kernel), List.mem_of_getElem? (i := 343) (by decide +kernel), List.mem_of_getElem? (i := 344) (by decide +kernel)⟩
theorem lw_p10 : lw_okq (⟨"Threetwo", "printsAreSound", "()Z"⟩, 7) := ⟨⟨by decide +kernel, by decide +kernel⟩, List.mem_of_getElem? (i := 16) (by decide +kernel), List.mem_of_getElem? (i := 396) (by decide +kernel), List.mem_of_getElem? (i := 397) (by decide +kernel)⟩
theorem lw_p11 : lw_okq (⟨"Threetwo", "pairIsSound", "(II)Z"⟩, 7) := ⟨⟨by decide +kernel, by decide +kernel⟩, List.mem_of_getElem? (i := 16) (by decide +kernel), List.mem_of_getElem? (i := 400) (by decide +kernel), List.mem_of_getElem? (i := 401) (by decide +kernel)⟩
theorem lw_p12 : lw_okq (⟨"Threetwo", "bufferIsSound", "()Z"⟩, 7) := ⟨⟨by decide +kernel, by decide +kernel⟩, List.mem_of_getElem? (i := 16) (by decide +kernel), List.mem_of_getElem? (i := 404) (by decide +kernel), List.mem_of_getElem? (i := 405) (by decide +kernel)⟩
theorem lw_p13 : lw_okq (⟨"Threetwo", "framesAreSound", "()Z"⟩, 7) := ⟨⟨by decide +kernel, by decide +kernel⟩, List.mem_of_getElem? (i := 16) (by decide +kernel), List.mem_of_getElem? (i := 408) (by decide +kernel), List.mem_of_getElem? (i := 409) (by decide +kernel)⟩
theorem lw_p14 : lw_okq (⟨"Threetwo", "withFields", "(J)J"⟩, 7) := ⟨⟨by decide +kernel, by decide +kernel⟩, List.mem_of_getElem? (i := 16) (by decide +kernel), List.mem_of_getElem? (i := 428) (by decide +kernel), List.mem_of_getElem? (i := 429) (by decide +kernel)⟩
theorem lw_p15 : lw_okq (⟨"Threetwo", "requireField", "(I)V"⟩, 7) := ⟨⟨by decide +kernel, by decide +kernel⟩, List.mem_of_getElem? (i := 16) (by decide +kernel), List.mem_of_getElem? (i := 436) (by decide +kernel), List.mem_of_getElem? (i := 437) (by decide +kernel)⟩
def lw_privs_1 : List (MethodName × Nat) := [(⟨"Threetwo", "requirePrint", "(I)V"⟩, 7), (⟨"java/lang/Throwable", "fillInStackTrace", "(I)Ljava/lang/Throwable;"⟩, 6), (⟨"Threetwo$Prints", "leastFrom", "(LThreetwo$Row;LThreetwo$Row;II)I"⟩, 4), (⟨"Threetwo$Rhythm", "bestNext", "(IIZI)I"⟩, 9), (⟨"Threetwo$Rhythm", "bestFirst", "()I"⟩, 9), (⟨"Threetwo$Rhythm", "tracePath", "(LThreetwo$Row;I)V"⟩, 9), (⟨"Threetwo$Rhythm", "gatherFrames", "(I)V"⟩, 9), (⟨"Threetwo$Rhythm", "beginsFrame", "(I)Z"⟩, 9), (⟨"Threetwo$Buffer", "sumOfSizes", "()I"⟩, 2), (⟨"Threetwo$Buffer", "cameIn", "(II)I"⟩, 2), (⟨"Threetwo", "printsAreSound", "()Z"⟩, 7), (⟨"Threetwo", "pairIsSound", "(II)Z"⟩, 7), (⟨"Threetwo", "bufferIsSound", "()Z"⟩, 7), (⟨"Threetwo", "framesAreSound", "()Z"⟩, 7), (⟨"Threetwo", "withFields", "(J)J"⟩, 7), (⟨"Threetwo", "requireField", "(I)V"⟩, 7)]
theorem lw_r1 : ∀ q ∈ lw_privs_1, lw_okq q := List.forall_mem_cons.mpr ⟨lw_p0, List.forall_mem_cons.mpr ⟨lw_p1, List.forall_mem_cons.mpr ⟨lw_p2, List.forall_mem_cons.mpr ⟨lw_p3, List.forall_mem_cons.mpr ⟨lw_p4, List.forall_mem_cons.mpr ⟨lw_p5, List.forall_mem_cons.mpr ⟨lw_p6, List.forall_mem_cons.mpr ⟨lw_p7, List.forall_mem_cons.mpr ⟨lw_p8, List.forall_mem_cons.mpr ⟨lw_p9, List.forall_mem_cons.mpr ⟨lw_p10, List.forall_mem_cons.mpr ⟨lw_p11, List.forall_mem_cons.mpr ⟨lw_p12, List.forall_mem_cons.mpr ⟨lw_p13, List.forall_mem_cons.mpr ⟨lw_p14, List.forall_mem_cons.mpr ⟨lw_p15, fun _ h => absurd h List.not_mem_nil⟩⟩⟩⟩⟩⟩⟩⟩⟩⟩⟩⟩⟩⟩⟩⟩
theorem lw_p16 : lw_okq (⟨"Threetwo", "withFoundFrames", "(J)J"⟩, 7) := ⟨⟨by decide +kernel, by decide +kernel⟩, List.mem_of_getElem? (i := 16) (by decide +kernel), List.mem_of_getElem? (i := 448) (by decide +kernel), List.mem_of_getElem? (i := 449) (by decide +kernel)⟩
theorem lw_p17 : lw_okq (⟨"Threetwo", "withPrints", "(J)J"⟩, 7) := ⟨⟨by decide +kernel, by decide +kernel⟩, List.mem_of_getElem? (i := 16) (by decide +kernel), List.mem_of_getElem? (i := 458) (by decide +kernel), List.mem_of_getElem? (i := 459) (by decide +kernel)⟩
theorem lw_p18 : lw_okq (⟨"Threetwo$Prints", "signAt", "(LThreetwo$Row;LThreetwo$Row;II)C"⟩, 4) := ⟨⟨by decide +kernel, by decide +kernel⟩, List.mem_of_getElem? (i := 112) (by decide +kernel), List.mem_of_getElem? (i := 467) (by decide +kernel), List.mem_of_getElem? (i := 468) (by decide +kernel)⟩
theorem lw_p19 : lw_okq (⟨"Threetwo$Strip", "firstLike", "(I)I"⟩, 6) := ⟨⟨by decide +kernel, by decide +kernel⟩, List.mem_of_getElem? (i := 41) (by decide +kernel), List.mem_of_getElem? (i := 478) (by decide +kernel), List.mem_of_getElem? (i := 479) (by decide +kernel)⟩
def lw_privs_2 : List (MethodName × Nat) := [(⟨"Threetwo", "withFoundFrames", "(J)J"⟩, 7), (⟨"Threetwo", "withPrints", "(J)J"⟩, 7), (⟨"Threetwo$Prints", "signAt", "(LThreetwo$Row;LThreetwo$Row;II)C"⟩, 4), (⟨"Threetwo$Strip", "firstLike", "(I)I"⟩, 6)]
theorem lw_r2 : ∀ q ∈ lw_privs_2, lw_okq q := List.forall_mem_cons.mpr ⟨lw_p16, List.forall_mem_cons.mpr ⟨lw_p17, List.forall_mem_cons.mpr ⟨lw_p18, List.forall_mem_cons.mpr ⟨lw_p19, fun _ h => absurd h List.not_mem_nil⟩⟩⟩⟩
def lw_privs : List (MethodName × Nat) := lw_privs_1 ++ (lw_privs_2)
def lw_tbl : List Cond := k2_sels lw_privs ++ tables_1
theorem lw_privs_ok : ∀ q ∈ lw_privs, lw_okq q := by
  show ∀ q ∈ lw_privs_1 ++ (lw_privs_2), lw_okq q
  exact List.forall_mem_append.mpr ⟨lw_r1, lw_r2⟩
/-! ===== BEGIN words of one list among another's, by their places ===== -/
theorem goodIn_r {big : List Cond} (ws : List Cond) (ps : List Nat) (hp : ws = ps.filterMap (fun i => big[i]?)) (h : ws.all goodWord = true) : GoodIn big ws := by
  intro w hw
  have h1 := List.all_eq_true.mp h w hw
  rw [hp] at hw
  obtain ⟨i, -, hi⟩ := List.mem_filterMap.mp hw
  have hm : w ∈ big := by first | exact List.mem_of_getElem? hi | exact List.getElem?_mem hi
  exact ⟨hm, good_of_word h1⟩
theorem goodIn_app {big a b : List Cond} (ha : GoodIn big a) (hb : GoodIn big b) : GoodIn big (a ++ b) := fun w h => (List.mem_append.mp h).elim (ha w) (hb w)
theorem goodIn_ca {big a b : List Cond} {c : Cond} (ha : GoodIn big (c :: a)) (hb : GoodIn big b) : GoodIn big (c :: (a ++ b)) := fun w h => (List.mem_cons.mp h).elim (fun e => ha w (List.mem_cons.mpr (Or.inl e))) (fun h => (List.mem_append.mp h).elim (fun h => ha w (List.mem_cons.mpr (Or.inr h))) (hb w))
theorem goodIn_sub {big ws : List Cond} (hm : ∀ w ∈ ws, w ∈ big) (h : ws.all goodWord = true) : GoodIn big ws := fun w hw => ⟨hm w hw, good_of_word (List.all_eq_true.mp h w hw)⟩
/-! ===== END ===== -/

/-! ===== BEGIN exceptions that leave a method, and their catching by the caller (launches without stack traces) ===== -/
section VXA
/-! The laws vx_back, vx_callV, vx_callS, vx_callSW, vx_throw0, vx_throwS follow proofs of the library, with one case more: JvmDerived/Free/Laws.lean (Back.of_free), Shelf42/LK1.lean (callV, callS), Shelf/KitTraced.lean (throwNew0V, throwNewS). -/
/-- where a method has thrown q: the class by its name, the cell, what was written, the world -/
def vx_T (XC : String → State → State → Prop) (st : State) (q : Addr) (t : State) (mc ms : Nat) (free : Addr → Prop) : Prop :=
  ∃ (E : String) (ce : Cell) (L : List Loc), XC E st t ∧ t.heap[q]? = some ce ∧ ce.vm = .none ∧ st.vm.findClass E = some ce.cls ∧ st.WarmedH t.vm ∧ st.sameButNew ({ t with vm := st.vm } : State) L mc ms ∧ ∀ z ∈ L, free z.base
def vx_Q (Qc : Array Value → State → Outcome → State → Prop) (XC : String → State → State → Prop) (mc ms : Nat) (free : Addr → Prop) : Array Value → State → Outcome → State → Prop := fun a st o t =>
  (Qc a st o t ∧ ∃ L, FrameEnd st o t L mc ms ∧ ∀ q ∈ L, free q.base) ∨ ∃ q, o = .threw q ∧ vx_T XC st q t mc ms free
/-- a callee that returns or throws -/
def vx_Met (l : Launch) (y : MethodName) (ws : List Cond) (rm : Room) (Pc : Array Value → State → Prop) (Qc : Array Value → State → Outcome → State → Prop) (XC : String → State → State → Prop) (mc ms : Nat) (free : Addr → Prop) : Prop :=
  MetFree l y (headSpec ws rm) Pc (fun _ _ _ _ _ => True) (vx_Q Qc XC mc ms free)
def vx_Post (XC : String → State → State → Prop) (mc ms : Nat) (free : Addr → Prop) : Pt → Array Value → Addr → Pt → Prop := fun A a q B =>
  ∃ (g : JFrame) (mk : MethodId) (t : State) (L : List Loc) (E : String) (ce : Cell), B.U.heap = t.heap ∧ B.U.vm = t.vm ∧ XC E (A.U.calling g mk a) t ∧ t.heap[q]? = some ce ∧ ce.vm = .none ∧ A.U.vm.findClass E = some ce.cls ∧ B.locs = A.locs ++ L ∧ (∀ z ∈ L, free z.base) ∧ B.cells = A.cells + mc ∧ B.slots = A.slots + ms
def vx_Back (l : Launch) (R : Room) (p : Program) (e : Env) (below : List Frame) (s : State) (sargs : Array Value) (y : MethodName) (len W9 : Nat)
    (Pre : Pt → Array Value → Prop) (Post : Pt → Array Value → Option Value → Pt → Prop) (PostX : Pt → Array Value → Addr → Pt → Prop) : Prop :=
  ∀ (m : MethodId) (meth : Method) (c : Code) (A : Pt) (g : JFrame) (ig : Instr) (mk : MethodId) (a : Array Value),
    Stand p l e R s m sargs below meth c A.U A.locs A.cells A.slots → g.method = m → g.locals.size = c.maxLocals → decode c.code g.pc = .ok (ig, len) →
    2 * g.monitorRoom + (g.stack.map fun v => v.category).sum ≤ W9 → A.U.methodNamed? y = some mk → Pre A a →
    (∃ (v : Option Value) (B : Pt), Stand p l e R s m sargs below meth c B.U B.locs B.cells B.slots ∧ Post A a v B ∧
      Steps p.tables e below (doInvoke e (A.U.setTop g) [] mk a).1 (B.U.setTop { g with pc := g.pc + len, stack := v.toList ++ g.stack })) ∨
    (∃ (q : Addr) (B : Pt), Stand p l e R s m sargs below meth c B.U B.locs B.cells B.slots ∧ PostX A a q B ∧
      Steps p.tables e below (doInvoke e (A.U.setTop g) [] mk a).1 ((B.U.setTop g).pushFrame (.throwing q)))
section Payer
variable {l : Launch} {R : Room} {p : Program} {e : Env} {below : List Frame} {s : State} {sargs : Array Value} {y : MethodName} {len W9 : Nat}
theorem vx_back {ws : List Cond} {rm : Room} {Pc : Array Value → State → Prop} {Qc : Array Value → State → Outcome → State → Prop} {XC : String → State → State → Prop} {mc ms : Nat} {free : Addr → Prop} {bytes : ByteArray} {maxL : Nat} {ret : Option FieldType}
    (hM : vx_Met l y ws rm Pc Qc XC mc ms free) (hblind : FrameBlind Pc) (hrc : rm.cells = mc) (hrs : rm.slots = ms)
    (hframes : rm.frames + 1 ≤ R.frames) (hlocals : W9 + (maxL + 11) + rm.locals ≤ R.locals)
    (hws : ∀ w ∈ ws, ∀ a' U, s.WarmedH U.vm → w.before a' U = true) (hcode : Cond.code y bytes maxL ret ∈ ws) (hinit : ∀ a' U, s.WarmedH U.vm → (Cond.initialized y.cls).before a' U = true) :
    vx_Back l R p e below s sargs y len W9 (PreOf R mc ms Pc) (PostOf Qc mc ms free) (vx_Post XC mc ms free) := by
  intro m meth c A g ig mk a X hg hsize hdg hW hn hp
  have h1 : (headSpec ws rm).pre.before a A.U = true := atoms_intro fun w hw => hws w hw _ _ X.warmed
  have h2 : (Cond.code y bytes maxL ret).before a A.U = true := hws _ hcode _ _ X.warmed
  have h3 : (Cond.initialized y.cls).before a A.U = true := hinit _ _ X.warmed
  have h4 : A.cells + (headSpec ws rm).room.cells ≤ R.cells := by rw [show (headSpec ws rm).room.cells = mc from hrc]; exact hp.1
  have h5 : A.slots + (headSpec ws rm).room.slots ≤ R.slots := by rw [show (headSpec ws rm).room.slots = ms from hrs]; exact hp.2.1
  have hPc : Pc a (A.U.calling g mk a) := hblind _ _ _ _ hp.2.2
  obtain ⟨U, Ls, c0, s0⟩ := A
  dsimp only [Pt.U, Pt.locs, Pt.cells, Pt.slots] at h1 h2 h3 h4 h5 X hn hPc ⊢
  obtain ⟨methY, cY, hmY, hcY, -, hlY, -, -, -, -⟩ := Cond.code_spec hn h2
  obtain ⟨kY, hkY, -⟩ := className_of_methodNamed hn
  have hinitY : kY.init = .initialized := Cond.initialized_spec (findClass_of_methodNamed hn) hkY h3
  have h : At U g.method c below := by rw [hg]; exact X.here
  have hlocals9 : W9 + (maxL + 11) + (headSpec ws rm).room.locals ≤ R.locals := hlocals
  have happ : (headSpec ws rm).appliesLoose y e.platform (U.calling g mk a) = true :=
    Spec.appliesLoose_calling (g := g) h hdg hn hkY hinitY
      (X.room_calling (g := g) (R' := (headSpec ws rm).room) hsize hmY hcY hframes (by rw [hlY]; omega) h4 h5) h1
  obtain ⟨mid, hmid⟩ := h.above
  have hfr : (U.setTop g).frames = (.java g :: mid) ++ below := by rw [State.frames_setTop' g h.top, hmid]; rfl
  obtain ⟨o, s₂, hsteps, -, hend, hq⟩ := Steps.callFree hM p X.admits X.cas X.clock (acts := []) hfr happ hPc trivial
  have hq' : vx_Q Qc XC mc ms free a (U.calling g mk a) o s₂ := hq
  rw [State.frames_setTop' g h.top] at hend
  obtain ⟨g₀, hg0⟩ := Option.isSome_iff_exists.mp h.top
  obtain ⟨r, hr⟩ := State.topJava?_eq_some.mp hg0
  have hr' : (({ U with heap := s₂.heap, slotsUsed := s₂.slotsUsed } : State).setVm s₂.vm).frames = .java g₀ :: r := hr
  rcases hq' with ⟨hqc, L, hfe, hL⟩ | ⟨q, rfl, E, ce, L, hx, hce, hcv, hcl, hW₂, hsm, hL⟩
  · obtain ⟨⟨v, rfl⟩, hW₂, e2, q2, q3, q4, q5, q6⟩ := id hfe
    have e3 : s₂ = ({ (U.calling g mk a).setFrames s₂.frames with heap := s₂.heap, slotsUsed := s₂.slotsUsed } : State).setVm s₂.vm := by
      have : s₂ = ({ s₂ with vm := (U.calling g mk a).vm } : State).setVm s₂.vm := rfl
      rw [e2] at this
      exact this
    obtain ⟨c₂, i₂, len₂, hc₂, hd₂, hf₂⟩ := hend
    have hW' : U.WarmedH s₂.vm := hW₂
    have hcc : c₂ = c := by
      have h1 : s₂.code? g.method = U.code? g.method := by
        rw [State.code?_eq, State.code?_eq, hW'.alike.method?]
      exact Option.some.inj (hc₂.symm.trans (h1.trans h.code))
    subst hcc
    have hlen : len₂ = len := by rw [hdg] at hd₂; cases hd₂; rfl
    subst hlen
    have hs₂ : s₂ = (({ U with heap := s₂.heap, slotsUsed := s₂.slotsUsed } : State).setVm s₂.vm).setTop { g with pc := g.pc + len₂, stack := v.toList ++ g.stack } := by
      refine e3.trans ?_
      rw [hf₂, State.calling_eq h.top, State.setFrames_setFrames, State.setTop_of_frames _ hr', hr]
      rfl
    have hsame : U.sameButNew ({ U with heap := s₂.heap, slotsUsed := s₂.slotsUsed } : State) L mc ms := by
      refine ⟨?_, q2, q3, q4, q5, q6⟩
      obtain ⟨t, ht, -⟩ := State.frames_cons hr
      show ({ U with heap := s₂.heap, slotsUsed := s₂.slotsUsed } : State) = { U.setFrames U.frames with heap := s₂.heap, slotsUsed := s₂.slotsUsed }
      rw [State.setFrames_self ht]
    subst hg
    refine Or.inl ⟨v, ⟨(({ U with heap := s₂.heap, slotsUsed := s₂.slotsUsed } : State).setVm s₂.vm), Ls ++ L, c0 + mc, s0 + ms⟩,
      ⟨X.admits, X.cas, X.clock, X.frames, X.room, X.hears, X.method, X.code, (X.here.setHeapUsed s₂.heap s₂.slotsUsed).setVm hW'.alike, X.tail, State.WarmedH.trans X.warmed hW', X.limits, X.bytes, X.same.trans (hsame.setVm s.vm)⟩,
      ⟨g, mk, s₂, L, rfl, rfl, hqc, rfl, hL, rfl, rfl⟩, ?_⟩
    show Steps p.tables e below _ ((({ U with heap := s₂.heap, slotsUsed := s₂.slotsUsed } : State).setVm s₂.vm).setTop { g with pc := g.pc + len₂, stack := v.toList ++ g.stack })
    rw [← hs₂]
    exact hsteps
  · obtain ⟨e2, q2, q3, q4, q5, q6⟩ := id hsm
    have e3 : s₂ = ({ (U.calling g mk a).setFrames s₂.frames with heap := s₂.heap, slotsUsed := s₂.slotsUsed } : State).setVm s₂.vm := by
      have : s₂ = ({ s₂ with vm := (U.calling g mk a).vm } : State).setVm s₂.vm := rfl
      rw [e2] at this
      exact this
    have hf₂ : s₂.frames = .throwing q :: .java g :: U.frames.tail := hend
    have hW' : U.WarmedH s₂.vm := hW₂
    have hs₂ : s₂ = ((({ U with heap := s₂.heap, slotsUsed := s₂.slotsUsed } : State).setVm s₂.vm).setTop g).pushFrame (.throwing q) := by
      refine e3.trans ?_
      rw [hf₂, State.calling_eq h.top, State.setFrames_setFrames, State.pushFrame, State.frames_setTop _ hr', State.setTop_of_frames _ hr', State.setFrames_setFrames, hr]
      rfl
    have hsame : U.sameButNew ({ U with heap := s₂.heap, slotsUsed := s₂.slotsUsed } : State) L mc ms := by
      refine ⟨?_, q2, q3, q4, q5, q6⟩
      obtain ⟨t, ht, -⟩ := State.frames_cons hr
      show ({ U with heap := s₂.heap, slotsUsed := s₂.slotsUsed } : State) = { U.setFrames U.frames with heap := s₂.heap, slotsUsed := s₂.slotsUsed }
      rw [State.setFrames_self ht]
    subst hg
    refine Or.inr ⟨q, ⟨(({ U with heap := s₂.heap, slotsUsed := s₂.slotsUsed } : State).setVm s₂.vm), Ls ++ L, c0 + mc, s0 + ms⟩,
      ⟨X.admits, X.cas, X.clock, X.frames, X.room, X.hears, X.method, X.code, (X.here.setHeapUsed s₂.heap s₂.slotsUsed).setVm hW'.alike, X.tail, State.WarmedH.trans X.warmed hW', X.limits, X.bytes, X.same.trans (hsame.setVm s.vm)⟩,
      ⟨g, mk, s₂, L, E, ce, rfl, rfl, hx, hce, hcv, hcl, rfl, hL, rfl, rfl⟩, ?_⟩
    show Steps p.tables e below _ (((({ U with heap := s₂.heap, slotsUsed := s₂.slotsUsed } : State).setVm s₂.vm).setTop g).pushFrame (.throwing q))
    rw [← hs₂]
    exact hsteps
end Payer
section Calls
variable {p : Program} {l : Launch} {e : Env} {R : Room} {s : State} {m : MethodId} {args : Array Value} {below : List Frame} {meth : Method} {c : Code} {T : State} {locs : List Loc} {cells slots : Nat}
theorem vx_callV (X : Stand p l e R s m args below meth c T locs cells slots) (hexec : p.tables.exec = Jvm.exec) {own C : String} {index : Nat} {y : MethodName} {bytes : ByteArray} {maxL : Nat} {ret : Option FieldType}
    (hown : s.vm.findClass own = some m.cls) (hlink : (Cond.methodLink own index y).before args s = true) (hinst : (Cond.instanceMethod y).before args s = true) (hsel : (Cond.selects C y y).before args s = true)
    (hcode : (Cond.code y bytes maxL ret).before args s = true) (hy : y.cls ≠ "java/lang/invoke/MethodHandle" ∧ y.cls ≠ "java/lang/invoke/VarHandle")
    {W9 : Nat} {Pre : Pt → Array Value → Prop} {Post : Pt → Array Value → Option Value → Pt → Prop} {PostX : Pt → Array Value → Addr → Pt → Prop} (hK : vx_Back l R p e below s args y 3 W9 Pre Post PostX)
    {b : Addr} {cellB : Cell} (hcell : T.heap[b]? = some cellB) (hobj : cellB.vm.isStatics = false) (hcls : s.vm.findClass C = some cellB.cls)
    {g : JFrame} (hg : g.method = m) (hsize : g.locals.size = c.maxLocals) {argsL rest : List Value} (hlen : ∀ sig, parseMethodDescriptor y.desc = some sig → argsL.length = sig.parameters.length)
    (hstack : g.stack = argsL.reverse ++ .ref b :: rest) (hW : 2 * g.monitorRoom + (rest.map fun v => v.category).sum ≤ W9) (hdg : decode c.code g.pc = .ok (.invokevirtual index, 3))
    (hpre : ∀ vm₁, s.WarmedH vm₁ → Pre ⟨T.setVm vm₁, locs, cells, slots⟩ (Value.ref b :: argsL).toArray) :
    (∃ (v : Option Value) (vm₁ : Vm) (B : Pt), s.WarmedH vm₁ ∧ Stand p l e R s m args below meth c B.U B.locs B.cells B.slots ∧ Post ⟨T.setVm vm₁, locs, cells, slots⟩ (Value.ref b :: argsL).toArray v B ∧
      ∀ target, Steps p.tables e below (B.U.setTop { g with pc := g.pc + 3, stack := v.toList ++ rest }) target → Steps p.tables e below (T.setTop g) target) ∨
    (∃ (q : Addr) (vm₁ : Vm) (B : Pt), s.WarmedH vm₁ ∧ Stand p l e R s m args below meth c B.U B.locs B.cells B.slots ∧ PostX ⟨T.setVm vm₁, locs, cells, slots⟩ (Value.ref b :: argsL).toArray q B ∧
      Steps p.tables e below (T.setTop g) ((B.U.setTop { g with stack := rest }).pushFrame (.throwing q))) := by
  obtain ⟨mk, methM, hnamed, hmethM, hstM, habM⟩ := Cond.instanceMethod_spec hinst
  obtain ⟨methM', cM, hmethM', -, -, -, -, -, -, hsigM⟩ := Cond.code_spec hnamed hcode
  cases hmethM.symm.trans hmethM'
  obtain ⟨c2, r2, m2, q1, q2, q3, q4, kP, hkP, hkPi⟩ := Cond.selects_spec hsel
  cases hcls.symm.trans q1
  cases (State.methodFound?_of_named hnamed hy).symm.trans q2
  cases hnamed.symm.trans q3
  have hselP : selectMethod e.platform s.vm cellB.cls mk = .method mk := by rw [Launch.admits_selectMethod X.admits]; exact q4
  obtain ⟨vm₁, X₁, hstep₁⟩ := X.invokevirtual hexec hown hlink hnamed hmethM hstM hkP hkPi hy (a := b) (cell := cellB) hcell
    (fun z h => by rw [h] at hobj; cases hobj) hselP hmethM habM hkP hkPi (g := g) hg (argsL := argsL) (rest := rest) (hlen _ hsigM) hstack hdg
  rcases hK m meth c ⟨T.setVm vm₁, locs, cells, slots⟩ { g with stack := rest } (.invokevirtual index) mk (Value.ref b :: argsL).toArray X₁ hg hsize hdg hW (X₁.named hnamed) (hpre vm₁ X₁.warmed) with ⟨v, B, X', hpost, hsteps⟩ | ⟨q, B, X', hpost, hsteps⟩
  · exact Or.inl ⟨v, vm₁, B, X₁.warmed, X', hpost, fun target h => hstep₁ _ fun acts => by rw [doInvoke_state]; exact hsteps.trans h⟩
  · exact Or.inr ⟨q, vm₁, B, X₁.warmed, X', hpost, hstep₁ _ fun acts => by rw [doInvoke_state]; exact hsteps⟩
theorem vx_callS (X : Stand p l e R s m args below meth c T locs cells slots) (hexec : p.tables.exec = Jvm.exec) {own : String} {index : Nat} {y : MethodName} {bytes : ByteArray} {maxL : Nat} {ret : Option FieldType}
    (hown : s.vm.findClass own = some m.cls) (hlink : (Cond.methodLink own index y).before args s = true) (hstat : (Cond.static y).before args s = true) (hinit : (Cond.initialized y.cls).before args s = true)
    (hcode : (Cond.code y bytes maxL ret).before args s = true) (hy : y.cls ≠ "java/lang/invoke/MethodHandle" ∧ y.cls ≠ "java/lang/invoke/VarHandle")
    {W9 : Nat} {Pre : Pt → Array Value → Prop} {Post : Pt → Array Value → Option Value → Pt → Prop} {PostX : Pt → Array Value → Addr → Pt → Prop} (hK : vx_Back l R p e below s args y 3 W9 Pre Post PostX)
    {g : JFrame} (hg : g.method = m) (hsize : g.locals.size = c.maxLocals) {argsL rest : List Value} (hlen : ∀ sig, parseMethodDescriptor y.desc = some sig → argsL.length = sig.parameters.length)
    (hstack : g.stack = argsL.reverse ++ rest) (hW : 2 * g.monitorRoom + (rest.map fun v => v.category).sum ≤ W9) (hdg : decode c.code g.pc = .ok (.invokestatic index, 3))
    (hpre : ∀ vm₁, s.WarmedH vm₁ → Pre ⟨T.setVm vm₁, locs, cells, slots⟩ argsL.toArray) :
    (∃ (v : Option Value) (vm₁ : Vm) (B : Pt), s.WarmedH vm₁ ∧ Stand p l e R s m args below meth c B.U B.locs B.cells B.slots ∧ Post ⟨T.setVm vm₁, locs, cells, slots⟩ argsL.toArray v B ∧
      ∀ target, Steps p.tables e below (B.U.setTop { g with pc := g.pc + 3, stack := v.toList ++ rest }) target → Steps p.tables e below (T.setTop g) target) ∨
    (∃ (q : Addr) (vm₁ : Vm) (B : Pt), s.WarmedH vm₁ ∧ Stand p l e R s m args below meth c B.U B.locs B.cells B.slots ∧ PostX ⟨T.setVm vm₁, locs, cells, slots⟩ argsL.toArray q B ∧
      Steps p.tables e below (T.setTop g) ((B.U.setTop { g with stack := rest }).pushFrame (.throwing q))) := by
  obtain ⟨mk, hnamed⟩ := Cond.code_named hcode
  obtain ⟨methM, cM, hmethM, -, -, -, -, -, -, hsigM⟩ := Cond.code_spec hnamed hcode
  have hstatic : methM.isStatic = true := Cond.static_spec hnamed hmethM hstat
  obtain ⟨kP, hkP, -⟩ := className_of_methodNamed hnamed
  have hinitP : kP.init = .initialized := Cond.initialized_spec (findClass_of_methodNamed hnamed) hkP hinit
  obtain ⟨vm₁, X₁, hstep₁⟩ := X.invokestatic hexec hown hlink hnamed hmethM hstatic hkP hinitP hy (g := g) hg (argsL := argsL) (rest := rest) (hlen _ hsigM) hstack hdg
  rcases hK m meth c ⟨T.setVm vm₁, locs, cells, slots⟩ { g with stack := rest } (.invokestatic index) mk argsL.toArray X₁ hg hsize hdg hW (X₁.named hnamed) (hpre vm₁ X₁.warmed) with ⟨v, B, X', hpost, hsteps⟩ | ⟨q, B, X', hpost, hsteps⟩
  · exact Or.inl ⟨v, vm₁, B, X₁.warmed, X', hpost, fun target h => hstep₁ _ fun acts => by rw [doInvoke_state]; exact hsteps.trans h⟩
  · exact Or.inr ⟨q, vm₁, B, X₁.warmed, X', hpost, hstep₁ _ fun acts => by rw [doInvoke_state]; exact hsteps⟩
end Calls
theorem vx_cls {s : State} {T : State} {vm₁ : Vm} {E : String} {k : ClassId} (hW : s.WarmedH vm₁) (h : (T.setVm vm₁).vm.findClass E = some k) : s.vm.findClass E = some k := by
  have h1 : vm₁.findClass E = some k := h
  rw [hW.alike.findClass] at h1
  exact h1
/-- the method's frame g, with q thrown over it -/
def vx_W (p : Program) (l : Launch) (e : Env) (R : Room) (s : State) (m : MethodId) (args : Array Value) (below : List Frame) (meth : Method) (c : Code) (H : Heap) (locs : List Loc) (cells slots : Nat) (Q : State → Prop) (g : JFrame) (q : Addr) : Prop :=
  ∀ T : State, T.heap = H → Stand p l e R s m args below meth c T locs cells slots → ∃ t, Steps p.tables e below ((T.setTop g).pushFrame (.throwing q)) t ∧ Q t
def vx_Run (p : Program) (l : Launch) (e : Env) (R : Room) (s : State) (m : MethodId) (args : Array Value) (below : List Frame) (meth : Method) (c : Code) (H : Heap) (locs : List Loc) (cells slots mc ms : Nat) (g : JFrame) (rest : List Value) (Qa : State → Outcome → State → Prop) (XC : String → State → State → Prop) (free : Addr → Prop) : Prop :=
  ∀ T : State, T.heap = H → Stand p l e R s m args below meth c T locs cells slots →
    (∃ (v : Option Value) (st₀ t T' : State) (L : List Loc), st₀.heap = H ∧ Stand p l e R s m args below meth c T' (locs ++ L) (cells + mc) (slots + ms) ∧ (∀ q ∈ L, free q.base) ∧ T'.heap = t.heap ∧ T'.vm = t.vm ∧ Qa st₀ (.returned v) t ∧
      Goes p e below T g T' { g with pc := g.pc + 3, stack := v.toList ++ rest }) ∨
    (∃ (q : Addr) (st₀ t T' : State) (L : List Loc) (E : String) (ce : Cell), st₀.heap = H ∧ Stand p l e R s m args below meth c T' (locs ++ L) (cells + mc) (slots + ms) ∧ (∀ z ∈ L, free z.base) ∧ T'.heap = t.heap ∧ T'.vm = t.vm ∧ XC E st₀ t ∧ t.heap[q]? = some ce ∧ ce.vm = .none ∧ s.vm.findClass E = some ce.cls ∧
      Steps p.tables e below (T.setTop g) ((T'.setTop { g with stack := rest }).pushFrame (.throwing q)))
def vx_X {S : Type} (px : S → Prop) (B : String → S → State → Prop) (A : Nat → Prop) : String → State → State → Prop := fun E st t => ∃ u : S, px u ∧ B E u t ∧ va_F A st t
section Runs
variable {p : Program} {l : Launch} {e : Env} {R : Room} {s : State} {m : MethodId} {args : Array Value} {below : List Frame} {meth : Method} {c : Code} {H : Heap} {locs : List Loc} {cells slots : Nat}
variable {y : MethodName} {bytes cc : ByteArray} {maxL nL mc ms n index : Nat} {ret : Option FieldType} {ws : List Cond} {rm : Room} {Pc : Array Value → State → Prop} {Qc : Array Value → State → Outcome → State → Prop} {XC : String → State → State → Prop} {free : Addr → Prop} {Ts : List Cond} {own C : String} {b : Addr} {As rest : List Value} {g : JFrame}
theorem vx_callBack (cb : CallB R s args own index y bytes maxL ret ws rm mc ms n) (hM : vx_Met l y ws rm Pc Qc XC mc ms free) (hbl : FrameBlind Pc) : vx_Back l R p e below s args y 3 8 (PreOf R mc ms Pc) (PostOf Qc mc ms free) (vx_Post XC mc ms free) := by
  obtain ⟨hrc, hrs, hfr, hlo, hws, hcw, -, hini, -⟩ := cb
  exact vx_back (bytes := bytes) (maxL := maxL) (ret := ret) hM hbl hrc hrs hfr hlo hws hcw (fun a' U hW => word_at hW (Or.inl (by first | rfl | simp [Cond.onTables, Cond.keeps, Cond.steady])) hini)
theorem vx_runV (S : CallFix p m c cc nL s args Ts own) (hM : vx_Met l y ws rm Pc Qc XC mc ms free) (cw : CallW R s args own C index y bytes maxL ret ws rm mc ms n) (hp : PreV s H C b Pc As)
    (hg : g.method = m) (hn : As.length = n) (hsize : g.locals.size = nL) (hstack : g.stack = As.reverse ++ .ref b :: rest) (hW : 2 * g.monitorRoom + (rest.map fun v => v.category).sum ≤ 8) (hdg : decode cc g.pc = .ok (.invokevirtual index, 3)) (hf : cells + mc ≤ R.cells ∧ slots + ms ≤ R.slots) :
    vx_Run p l e R s m args below meth c H locs cells slots mc ms g rest (Qc (Value.ref b :: As).toArray) XC free := by
  have hK : vx_Back l R p e below s args y 3 8 (PreOf R mc ms Pc) (PostOf Qc mc ms free) (vx_Post XC mc ms free) := vx_callBack cw.1 hM hp.1
  obtain ⟨⟨-, -, -, -, -, -, hcode, -, hy, hlen, hl⟩, hin, hse⟩ := cw
  obtain ⟨hx, hb, hml, ho, -⟩ := S
  obtain ⟨-, ⟨cellB, hcB, hoB, hclB⟩, hPc⟩ := hp
  intro T hT X
  rcases vx_callV X hx (C := C) (bytes := bytes) (maxL := maxL) (ret := ret) ho hl hin hse hcode hy hK (by rw [hT]; exact hcB) hoB hclB hg (hsize.trans hml.symm) (argsL := As) (rest := rest) (fun sig h => hn.trans (hlen sig h)) hstack hW (by rw [hb]; exact hdg)
    (fun vm₁ hW₁ => ⟨hf.1, hf.2, hPc (T.setVm vm₁) hT hW₁⟩) with ⟨v, vm₁, ⟨U', l2, c2, s2⟩, hW₁, X', ⟨g', mk, t, L, e1, e2, hq, h1, hL, h2, h3⟩, st⟩ | ⟨q, vm₁, ⟨U', l2, c2, s2⟩, hW₁, X', ⟨g', mk, t, L, E, ce, e1, e2, hq, hce, hcv, hcl, h1, hL, h2, h3⟩, st⟩
  · dsimp only [Pt.U, Pt.locs, Pt.cells, Pt.slots] at X' e1 e2 h1 h2 h3 st
    subst h1; subst h2; subst h3
    exact Or.inl ⟨v, (T.setVm vm₁).calling g' mk (Value.ref b :: As).toArray, t, U', L, hT, X', hL, e1, e2, hq, st⟩
  · dsimp only [Pt.U, Pt.locs, Pt.cells, Pt.slots] at X' e1 e2 h1 h2 h3 st hcl
    subst h1; subst h2; subst h3
    exact Or.inr ⟨q, (T.setVm vm₁).calling g' mk (Value.ref b :: As).toArray, t, U', L, E, ce, hT, X', hL, e1, e2, hq, hce, hcv, vx_cls hW₁ hcl, st⟩
theorem vx_runS (S : CallFix p m c cc nL s args Ts own) (hM : vx_Met l y ws rm Pc Qc XC mc ms free) (cw : CallB R s args own index y bytes maxL ret ws rm mc ms n ∧ (Cond.static y).before args s = true) (hp : PreS s H Pc As)
    (hg : g.method = m) (hn : As.length = n) (hsize : g.locals.size = nL) (hstack : g.stack = As.reverse ++ rest) (hW : 2 * g.monitorRoom + (rest.map fun v => v.category).sum ≤ 8) (hdg : decode cc g.pc = .ok (.invokestatic index, 3)) (hf : cells + mc ≤ R.cells ∧ slots + ms ≤ R.slots) :
    vx_Run p l e R s m args below meth c H locs cells slots mc ms g rest (Qc As.toArray) XC free := by
  have hK : vx_Back l R p e below s args y 3 8 (PreOf R mc ms Pc) (PostOf Qc mc ms free) (vx_Post XC mc ms free) := vx_callBack cw.1 hM hp.1
  obtain ⟨⟨-, -, -, -, -, -, hcode, hini, hy, hlen, hl⟩, hstt⟩ := cw
  obtain ⟨hx, hb, hml, ho, -⟩ := S
  intro T hT X
  rcases vx_callS X hx (bytes := bytes) (maxL := maxL) (ret := ret) ho hl hstt hini hcode hy hK hg (hsize.trans hml.symm) (argsL := As) (rest := rest) (fun sig h => hn.trans (hlen sig h)) hstack hW (by rw [hb]; exact hdg)
    (fun vm₁ hW₁ => ⟨hf.1, hf.2, hp.2 (T.setVm vm₁) hT hW₁⟩) with ⟨v, vm₁, ⟨U', l2, c2, s2⟩, hW₁, X', ⟨g', mk, t, L, e1, e2, hq, h1, hL, h2, h3⟩, st⟩ | ⟨q, vm₁, ⟨U', l2, c2, s2⟩, hW₁, X', ⟨g', mk, t, L, E, ce, e1, e2, hq, hce, hcv, hcl, h1, hL, h2, h3⟩, st⟩
  · dsimp only [Pt.U, Pt.locs, Pt.cells, Pt.slots] at X' e1 e2 h1 h2 h3 st
    subst h1; subst h2; subst h3
    exact Or.inl ⟨v, (T.setVm vm₁).calling g' mk As.toArray, t, U', L, hT, X', hL, e1, e2, hq, st⟩
  · dsimp only [Pt.U, Pt.locs, Pt.cells, Pt.slots] at X' e1 e2 h1 h2 h3 st hcl
    subst h1; subst h2; subst h3
    exact Or.inr ⟨q, (T.setVm vm₁).calling g' mk As.toArray, t, U', L, E, ce, hT, X', hL, e1, e2, hq, hce, hcv, vx_cls hW₁ hcl, st⟩
end Runs
section Rows
variable {p : Program} {l : Launch} {e : Env} {R : Room} {s : State} {m : MethodId} {args : Array Value} {below : List Frame} {meth : Method} {c : Code} {H : Heap} {locs : List Loc} {cells slots : Nat} {Q : State → Prop}
variable {mc ms : Nat} {free : Addr → Prop} {A0 A1 : Nat → Prop} {H0 : Heap} {a : Array Value} {pc : Nat} {ls : Array Slot} {st0 rest : List Value}
theorem vx_keep {st₀ t T' : State} {L : List Loc} (h0 : st₀.heap = H) (e1 : T'.heap = t.heap) (hS : va_S A0 H0 H locs) (hA : ∀ q, q < H.size → A1 q → A0 q) (hf : ∀ q, free q → A0 q) (hL : ∀ q ∈ L, free q.base) (hF : va_F A1 st₀ t) :
    H.size ≤ T'.heap.size ∧ (∀ q : Nat, q < H.size → ¬ A1 q → T'.heap[q]? = H[q]?) ∧ va_S A0 H0 T'.heap (locs ++ L) := by
  obtain ⟨hz, hk⟩ := hF
  rw [h0] at hz hk
  exact ⟨by rw [e1]; exact hz, fun q h1 h2 => by rw [e1]; exact hk q h1 h2,
    ⟨Nat.le_trans hS.1 (by rw [e1]; exact hz), fun q h1 h2 => by rw [e1, hk q (Nat.lt_of_lt_of_le h1 hS.1) (fun z => h2 (hA q (Nat.lt_of_lt_of_le h1 hS.1) z))]; exact hS.2.1 q h1 h2, fun q hq => by
      rcases List.mem_append.mp hq with h | h
      · exact hS.2.2 q h
      · exact hf _ (hL q h)⟩⟩
theorem vx_calli {S SX : Type} {post : Int32 → S → Prop} {px : SX → Prop} {B : S → State → Prop} {BX : String → SX → State → Prop} {AX : Nat → Prop} (hr : vx_Run p l e R s m args below meth c H locs cells slots mc ms (F0 m pc ls st0) rest (va_Qi post B A1 a) (vx_X px BX AX) free) (hS : va_S A0 H0 H locs) (hA : ∀ q, q < H.size → A1 q → A0 q) (hf : ∀ q, free q → A0 q) (hAX : ∀ q, q < H.size → AX q → A0 q)
    (kx : ∀ (E : String) (ce : Cell) (q9 : Addr) (u : SX) (t : State) (H1 : Heap) (locs1 : List Loc), t.heap = H1 → s.vm.Alike t.vm → px u → BX E u t → H.size ≤ H1.size → (∀ q : Nat, q < H.size → ¬ AX q → H1[q]? = H[q]?) → va_S A0 H0 H1 locs1 → H1[q9]? = some ce → ce.vm = .none → s.vm.findClass E = some ce.cls → vx_W p l e R s m args below meth c H1 locs1 (cells + mc) (slots + ms) Q (F0 m pc ls rest) q9)
    (kk : ∀ (r : Int32) (u : S) (t : State) (H1 : Heap) (locs1 : List Loc), t.heap = H1 → s.vm.Alike t.vm → post r u → B u t → H.size ≤ H1.size → (∀ q : Nat, q < H.size → ¬ A1 q → H1[q]? = H[q]?) → va_S A0 H0 H1 locs1 → W p l e R s m args below meth c H1 locs1 (cells + mc) (slots + ms) Q (F0 m (pc + 3) ls (.int r :: rest))) : W p l e R s m args below meth c H locs cells slots Q (F0 m pc ls st0) := by
  intro T hT X
  rcases hr T hT X with ⟨v, st₀, t, T', L, h0, X', hL, e1, e2, ⟨⟨r, u, hv, hp, hb⟩, hF⟩, st⟩ | ⟨q, st₀, t, T', L, E, ce, h0, X', hL, e1, e2, ⟨u, hp, hb, hF⟩, hce, hcv, hcl, st⟩
  · cases hv
    obtain ⟨k1, k2, k3⟩ := vx_keep h0 e1 hS hA hf hL hF
    obtain ⟨t2, a1, b1⟩ := kk r u t T'.heap (locs ++ L) e1.symm (by rw [← e2]; exact X'.warmed.alike) hp hb k1 k2 k3 T' rfl X'
    exact ⟨t2, st t2 a1, b1⟩
  · obtain ⟨k1, k2, k3⟩ := vx_keep h0 e1 hS hAX hf hL hF
    obtain ⟨t2, a1, b1⟩ := kx E ce q u t T'.heap (locs ++ L) e1.symm (by rw [← e2]; exact X'.warmed.alike) hp hb k1 k2 k3 (by rw [e1]; exact hce) hcv hcl T' rfl X'
    exact ⟨t2, st.trans a1, b1⟩
theorem vx_calll {S SX : Type} {post : Int64 → S → Prop} {px : SX → Prop} {B : S → State → Prop} {BX : String → SX → State → Prop} {AX : Nat → Prop} (hr : vx_Run p l e R s m args below meth c H locs cells slots mc ms (F0 m pc ls st0) rest (va_Ql post B A1 a) (vx_X px BX AX) free) (hS : va_S A0 H0 H locs) (hA : ∀ q, q < H.size → A1 q → A0 q) (hf : ∀ q, free q → A0 q) (hAX : ∀ q, q < H.size → AX q → A0 q)
    (kx : ∀ (E : String) (ce : Cell) (q9 : Addr) (u : SX) (t : State) (H1 : Heap) (locs1 : List Loc), t.heap = H1 → s.vm.Alike t.vm → px u → BX E u t → H.size ≤ H1.size → (∀ q : Nat, q < H.size → ¬ AX q → H1[q]? = H[q]?) → va_S A0 H0 H1 locs1 → H1[q9]? = some ce → ce.vm = .none → s.vm.findClass E = some ce.cls → vx_W p l e R s m args below meth c H1 locs1 (cells + mc) (slots + ms) Q (F0 m pc ls rest) q9)
    (kk : ∀ (r : Int64) (u : S) (t : State) (H1 : Heap) (locs1 : List Loc), t.heap = H1 → s.vm.Alike t.vm → post r u → B u t → H.size ≤ H1.size → (∀ q : Nat, q < H.size → ¬ A1 q → H1[q]? = H[q]?) → va_S A0 H0 H1 locs1 → W p l e R s m args below meth c H1 locs1 (cells + mc) (slots + ms) Q (F0 m (pc + 3) ls (.long r :: rest))) : W p l e R s m args below meth c H locs cells slots Q (F0 m pc ls st0) := by
  intro T hT X
  rcases hr T hT X with ⟨v, st₀, t, T', L, h0, X', hL, e1, e2, ⟨⟨r, u, hv, hp, hb⟩, hF⟩, st⟩ | ⟨q, st₀, t, T', L, E, ce, h0, X', hL, e1, e2, ⟨u, hp, hb, hF⟩, hce, hcv, hcl, st⟩
  · cases hv
    obtain ⟨k1, k2, k3⟩ := vx_keep h0 e1 hS hA hf hL hF
    obtain ⟨t2, a1, b1⟩ := kk r u t T'.heap (locs ++ L) e1.symm (by rw [← e2]; exact X'.warmed.alike) hp hb k1 k2 k3 T' rfl X'
    exact ⟨t2, st t2 a1, b1⟩
  · obtain ⟨k1, k2, k3⟩ := vx_keep h0 e1 hS hAX hf hL hF
    obtain ⟨t2, a1, b1⟩ := kx E ce q u t T'.heap (locs ++ L) e1.symm (by rw [← e2]; exact X'.warmed.alike) hp hb k1 k2 k3 (by rw [e1]; exact hce) hcv hcl T' rfl X'
    exact ⟨t2, st.trans a1, b1⟩
theorem vx_callf {S SX : Type} {post : UInt32 → S → Prop} {px : SX → Prop} {B : S → State → Prop} {BX : String → SX → State → Prop} {AX : Nat → Prop} (hr : vx_Run p l e R s m args below meth c H locs cells slots mc ms (F0 m pc ls st0) rest (va_Qf post B A1 a) (vx_X px BX AX) free) (hS : va_S A0 H0 H locs) (hA : ∀ q, q < H.size → A1 q → A0 q) (hf : ∀ q, free q → A0 q) (hAX : ∀ q, q < H.size → AX q → A0 q)
    (kx : ∀ (E : String) (ce : Cell) (q9 : Addr) (u : SX) (t : State) (H1 : Heap) (locs1 : List Loc), t.heap = H1 → s.vm.Alike t.vm → px u → BX E u t → H.size ≤ H1.size → (∀ q : Nat, q < H.size → ¬ AX q → H1[q]? = H[q]?) → va_S A0 H0 H1 locs1 → H1[q9]? = some ce → ce.vm = .none → s.vm.findClass E = some ce.cls → vx_W p l e R s m args below meth c H1 locs1 (cells + mc) (slots + ms) Q (F0 m pc ls rest) q9)
    (kk : ∀ (r : UInt32) (u : S) (t : State) (H1 : Heap) (locs1 : List Loc), t.heap = H1 → s.vm.Alike t.vm → post r u → B u t → H.size ≤ H1.size → (∀ q : Nat, q < H.size → ¬ A1 q → H1[q]? = H[q]?) → va_S A0 H0 H1 locs1 → W p l e R s m args below meth c H1 locs1 (cells + mc) (slots + ms) Q (F0 m (pc + 3) ls (.float r :: rest))) : W p l e R s m args below meth c H locs cells slots Q (F0 m pc ls st0) := by
  intro T hT X
  rcases hr T hT X with ⟨v, st₀, t, T', L, h0, X', hL, e1, e2, ⟨⟨r, u, hv, hp, hb⟩, hF⟩, st⟩ | ⟨q, st₀, t, T', L, E, ce, h0, X', hL, e1, e2, ⟨u, hp, hb, hF⟩, hce, hcv, hcl, st⟩
  · cases hv
    obtain ⟨k1, k2, k3⟩ := vx_keep h0 e1 hS hA hf hL hF
    obtain ⟨t2, a1, b1⟩ := kk r u t T'.heap (locs ++ L) e1.symm (by rw [← e2]; exact X'.warmed.alike) hp hb k1 k2 k3 T' rfl X'
    exact ⟨t2, st t2 a1, b1⟩
  · obtain ⟨k1, k2, k3⟩ := vx_keep h0 e1 hS hAX hf hL hF
    obtain ⟨t2, a1, b1⟩ := kx E ce q u t T'.heap (locs ++ L) e1.symm (by rw [← e2]; exact X'.warmed.alike) hp hb k1 k2 k3 (by rw [e1]; exact hce) hcv hcl T' rfl X'
    exact ⟨t2, st.trans a1, b1⟩
theorem vx_calld {S SX : Type} {post : UInt64 → S → Prop} {px : SX → Prop} {B : S → State → Prop} {BX : String → SX → State → Prop} {AX : Nat → Prop} (hr : vx_Run p l e R s m args below meth c H locs cells slots mc ms (F0 m pc ls st0) rest (va_Qd post B A1 a) (vx_X px BX AX) free) (hS : va_S A0 H0 H locs) (hA : ∀ q, q < H.size → A1 q → A0 q) (hf : ∀ q, free q → A0 q) (hAX : ∀ q, q < H.size → AX q → A0 q)
    (kx : ∀ (E : String) (ce : Cell) (q9 : Addr) (u : SX) (t : State) (H1 : Heap) (locs1 : List Loc), t.heap = H1 → s.vm.Alike t.vm → px u → BX E u t → H.size ≤ H1.size → (∀ q : Nat, q < H.size → ¬ AX q → H1[q]? = H[q]?) → va_S A0 H0 H1 locs1 → H1[q9]? = some ce → ce.vm = .none → s.vm.findClass E = some ce.cls → vx_W p l e R s m args below meth c H1 locs1 (cells + mc) (slots + ms) Q (F0 m pc ls rest) q9)
    (kk : ∀ (r : UInt64) (u : S) (t : State) (H1 : Heap) (locs1 : List Loc), t.heap = H1 → s.vm.Alike t.vm → post r u → B u t → H.size ≤ H1.size → (∀ q : Nat, q < H.size → ¬ A1 q → H1[q]? = H[q]?) → va_S A0 H0 H1 locs1 → W p l e R s m args below meth c H1 locs1 (cells + mc) (slots + ms) Q (F0 m (pc + 3) ls (.double r :: rest))) : W p l e R s m args below meth c H locs cells slots Q (F0 m pc ls st0) := by
  intro T hT X
  rcases hr T hT X with ⟨v, st₀, t, T', L, h0, X', hL, e1, e2, ⟨⟨r, u, hv, hp, hb⟩, hF⟩, st⟩ | ⟨q, st₀, t, T', L, E, ce, h0, X', hL, e1, e2, ⟨u, hp, hb, hF⟩, hce, hcv, hcl, st⟩
  · cases hv
    obtain ⟨k1, k2, k3⟩ := vx_keep h0 e1 hS hA hf hL hF
    obtain ⟨t2, a1, b1⟩ := kk r u t T'.heap (locs ++ L) e1.symm (by rw [← e2]; exact X'.warmed.alike) hp hb k1 k2 k3 T' rfl X'
    exact ⟨t2, st t2 a1, b1⟩
  · obtain ⟨k1, k2, k3⟩ := vx_keep h0 e1 hS hAX hf hL hF
    obtain ⟨t2, a1, b1⟩ := kx E ce q u t T'.heap (locs ++ L) e1.symm (by rw [← e2]; exact X'.warmed.alike) hp hb k1 k2 k3 (by rw [e1]; exact hce) hcv hcl T' rfl X'
    exact ⟨t2, st.trans a1, b1⟩
theorem vx_callv {S SX : Type} {post : S → Prop} {px : SX → Prop} {B : S → State → Prop} {BX : String → SX → State → Prop} {AX : Nat → Prop} (hr : vx_Run p l e R s m args below meth c H locs cells slots mc ms (F0 m pc ls st0) rest (va_Qv post B A1 a) (vx_X px BX AX) free) (hS : va_S A0 H0 H locs) (hA : ∀ q, q < H.size → A1 q → A0 q) (hf : ∀ q, free q → A0 q) (hAX : ∀ q, q < H.size → AX q → A0 q)
    (kx : ∀ (E : String) (ce : Cell) (q9 : Addr) (u : SX) (t : State) (H1 : Heap) (locs1 : List Loc), t.heap = H1 → s.vm.Alike t.vm → px u → BX E u t → H.size ≤ H1.size → (∀ q : Nat, q < H.size → ¬ AX q → H1[q]? = H[q]?) → va_S A0 H0 H1 locs1 → H1[q9]? = some ce → ce.vm = .none → s.vm.findClass E = some ce.cls → vx_W p l e R s m args below meth c H1 locs1 (cells + mc) (slots + ms) Q (F0 m pc ls rest) q9)
    (kk : ∀ (u : S) (t : State) (H1 : Heap) (locs1 : List Loc), t.heap = H1 → s.vm.Alike t.vm → post u → B u t → H.size ≤ H1.size → (∀ q : Nat, q < H.size → ¬ A1 q → H1[q]? = H[q]?) → va_S A0 H0 H1 locs1 → W p l e R s m args below meth c H1 locs1 (cells + mc) (slots + ms) Q (F0 m (pc + 3) ls (rest))) : W p l e R s m args below meth c H locs cells slots Q (F0 m pc ls st0) := by
  intro T hT X
  rcases hr T hT X with ⟨v, st₀, t, T', L, h0, X', hL, e1, e2, ⟨⟨u, hv, hp, hb⟩, hF⟩, st⟩ | ⟨q, st₀, t, T', L, E, ce, h0, X', hL, e1, e2, ⟨u, hp, hb, hF⟩, hce, hcv, hcl, st⟩
  · cases hv
    obtain ⟨k1, k2, k3⟩ := vx_keep h0 e1 hS hA hf hL hF
    obtain ⟨t2, a1, b1⟩ := kk u t T'.heap (locs ++ L) e1.symm (by rw [← e2]; exact X'.warmed.alike) hp hb k1 k2 k3 T' rfl X'
    exact ⟨t2, st t2 a1, b1⟩
  · obtain ⟨k1, k2, k3⟩ := vx_keep h0 e1 hS hAX hf hL hF
    obtain ⟨t2, a1, b1⟩ := kx E ce q u t T'.heap (locs ++ L) e1.symm (by rw [← e2]; exact X'.warmed.alike) hp hb k1 k2 k3 (by rw [e1]; exact hce) hcv hcl T' rfl X'
    exact ⟨t2, st.trans a1, b1⟩
/-- caught by the row x of this method's table; the rows ahead don't take it -/
theorem vx_catch {own name : String} {E : String} {ce : Cell} {q : Addr} (hown : s.vm.findClass own = some m.cls) (pre : List ExceptionTableEntry) (x : ExceptionTableEntry) (suf : List ExceptionTableEntry) (hsplit : c.exceptionTable.toList = pre ++ x :: suf)
    (hpass : ∀ z ∈ pre, covers z pc = false ∨ (z.catchType ≠ 0 ∧ ∃ nm : String, (Cond.classLink own z.catchType nm).before args s = true ∧ va_Nc E nm s)) (hx : covers x pc = true) (h0 : x.catchType ≠ 0)
    (hlink : (Cond.classLink own x.catchType name).before args s = true) (hcast : (Cond.castable E name).before args s = true) (hcell : H[q]? = some ce) (hv : ce.vm = .none) (hcl : s.vm.findClass E = some ce.cls)
    (kk : W p l e R s m args below meth c H locs cells slots Q (F0 m x.handlerPc ls [.ref q])) : vx_W p l e R s m args below meth c H locs cells slots Q (F0 m pc ls rest) q := by
  intro T hT X
  have hpl : e.platform.magicAccessors = ({} : Platform).magicAccessors := by rw [X.admits.platform]
  obtain ⟨c3, c4, hc3, hc4, hasg⟩ := Cond.castable_spec hcast
  cases Option.some.inj (hc3.symm.trans hcl)
  obtain ⟨c5, hc5, hcl5⟩ := Cond.classLink_spec hown hlink e.platform hpl
  cases Option.some.inj (hc4.symm.trans hc5)
  obtain ⟨vm', X', st⟩ := X.thenCaughtThrough q (g := F0 m pc ls rest) rfl (Steps.refl _) (by rw [hT]; exact hcell) (by rw [hv]; rfl) (by obtain ⟨k9, h9, -⟩ := Vm.findClass_spec hcl; exact ⟨k9, h9⟩) pre x suf hsplit
    (fun z hz => by
      rcases hpass z hz with h | ⟨hz0, nm, hl1, hn1⟩
      · exact Or.inl h
      · obtain ⟨c6, hc6, hcl6⟩ := Cond.classLink_spec hown hl1 e.platform hpl
        obtain ⟨a8, b8, h1, h2, h3⟩ := hn1
        cases Option.some.inj (h1.symm.trans hcl)
        cases Option.some.inj (h2.symm.trans hc6)
        exact Or.inr ⟨hz0, _, hcl6, h3⟩) hx (Or.inr ⟨h0, c4, hcl5, hasg⟩)
  obtain ⟨t, a1, b1⟩ := kk (T.setVm vm') hT X'
  exact ⟨t, st.trans a1, b1⟩
end Rows
section Ends
variable {p : Program} {l : Launch} {e : Env} {R : Room} {s : State} {m : MethodId} {args : Array Value} {below : List Frame} {meth : Method} {c : Code} {H : Heap} {locs : List Loc} {cells slots : Nat} {Q : State → Prop}
variable {mc ms : Nat} {free : Addr → Prop} {A0 A1 : Nat → Prop} {H0 : Heap} {a : Array Value} {ls : Array Slot} {st0 rest : List Value}
variable {Qc : Array Value → State → Outcome → State → Prop} {XC : String → State → State → Prop}
/-- what a body that may throw owes at its end -/
def vx_MQ (below : List Frame) (Qc : Array Value → State → Outcome → State → Prop) (XC : String → State → State → Prop) (a : Array Value) (s : State) (mc ms : Nat) (free : Addr → Prop) : State → Prop := fun t =>
  ∃ o, t.status = .running ∧ Ended t below o ∧ vx_Q Qc XC mc ms free a s o t
theorem vx_ret {g : JFrame} {mc ms : Nat} (k : W p l e R s m args below meth c H locs cells slots (MQ below Qc args s mc ms free) g) : W p l e R s m args below meth c H locs cells slots (vx_MQ below Qc XC args s mc ms free) g := by
  intro T hT X
  obtain ⟨t, a1, o, b1, b2, b3, b4⟩ := k T hT X
  exact ⟨t, a1, o, b1, b2, Or.inl ⟨b3, b4⟩⟩
/-- not caught here: it goes on to the caller -/
theorem vx_widen {g : JFrame} {q : Addr} {k n : Nat} (h1 : cells ≤ k) (h2 : slots ≤ n) (kk : vx_W p l e R s m args below meth c H locs k n Q g q) : vx_W p l e R s m args below meth c H locs cells slots Q g q := fun T hT X => kk T hT (stand_widen X h1 h2)
theorem vx_out {pc : Nat} {E : String} {ce : Cell} {q : Addr} {mc ms : Nat} (hout : ∀ x ∈ c.exceptionTable.toList, covers x pc = false) (hlocks : meth.locks = false) (hcell : H[q]? = some ce) (hv : ce.vm = .none) (hcl : s.vm.findClass E = some ce.cls)
    (hx : ∀ t : State, t.heap = H → s.vm.Alike t.vm → XC E s t) (hf : ∀ z ∈ locs, free z.base) (hc : cells ≤ mc) (hs : slots ≤ ms) :
    vx_W p l e R s m args below meth c H locs cells slots (vx_MQ below Qc XC args s mc ms free) (F0 m pc ls rest) q := by
  intro T hT X
  obtain ⟨st1, hrun, hend, hW, hsm⟩ := X.leaveThrown q (g := F0 m pc ls rest) rfl rfl rfl hout hlocks
  have hcell9 : (T.setFrames (.throwing q :: below)).heap[q]? = some ce := by
    show T.heap[q]? = some ce
    rw [hT]; exact hcell
  exact ⟨_, st1, .threw q, hrun, hend, Or.inr ⟨q, rfl, E, ce, locs, hx _ hT hW.alike, hcell9, hv, hcl, hW, hsm.mono hc hs, hf⟩⟩
theorem vx_frame {U : State} {k n : Nat} (h : s.sameButNew ({ U with vm := s.vm } : State) locs k n) : s.heap.size ≤ U.heap.size ∧ ∀ q : Nat, q < s.heap.size → (∀ z ∈ locs, z.base ≠ q) → U.heap[q]? = s.heap[q]? := by
  obtain ⟨-, h2, -, -, -, h6⟩ := h
  refine ⟨h2, fun q hq hz => ?_⟩
  obtain ⟨c9, e1, e2, e3, e4⟩ := h6 q _ (Array.getElem?_eq_getElem hq)
  have hs : c9.slots = (s.heap[q]).slots := Array.ext_getElem? fun i => e4 i fun hm => hz _ hm rfl
  have h9 : c9 = s.heap[q] := by
    rw [hs] at e2
    exact e2
  have e5 : U.heap[q]? = some c9 := e1
  rw [e5, h9, Array.getElem?_eq_getElem hq]
/-- the words of a throw but the four that speak of the heap -/
def vx_no (w : Cond) : Bool := decide (w ≠ .isRef (.static Bundle.tN "UNASSIGNED_STACK" Bundle.steD)) && decide (w ≠ .isRef (.static Bundle.tN "SUPPRESSED_SENTINEL" Bundle.listD)) && decide (w ≠ .laysStatic Bundle.tN "UNASSIGNED_STACK" Bundle.steD) && decide (w ≠ .laysStatic Bundle.tN "SUPPRESSED_SENTINEL" Bundle.listD)
def vx_at0 (own : String) (ic : Nat) (X : String) (names : List String) : List Cond := (Bundle.ownAtoms0 own ic X names).filter vx_no
def vx_atS (own : String) (ic : Nat) (X : String) (names : List String) : List Cond := (Bundle.ownAtoms own ic X names).filter vx_no
/-- a word that the tables alone decide, or a good one -/
def vx_ot (w : Cond) : Bool := w.onTables || goodWord w
theorem vx_ot_at {args a' : Array Value} {s U : State} {w : Cond} (hW : s.WarmedH U.vm) (hvm : s.vm = U.vm) (hg : vx_ot w = true) (h : w.before args s = true) : w.before a' U = true := by
  simp only [vx_ot, Bool.or_eq_true] at hg
  rcases hg with hg | hg
  · exact va_tabs hg hvm h
  · exact word_at hW (good_of_word hg) h
/-- a list's words: the good ones out of the method's own list, the others by premises of their own -/
theorem vx_hat {args : Array Value} {s : State} {L B : List Cond} (h1 : ∀ w ∈ L.filter goodWord, w.before args s = true) (h2 : ∀ w ∈ L.filter (fun w => !goodWord w), w ∈ B) (h3 : ∀ w ∈ B, w.before args s = true) : ∀ w ∈ L, w.before args s = true := by
  intro w hw
  by_cases g : goodWord w = true
  · exact h1 w (List.mem_filter.mpr ⟨hw, g⟩)
  · refine h3 w (h2 w (List.mem_filter.mpr ⟨hw, ?_⟩))
    show (!goodWord w) = true
    cases hgw : goodWord w
    · rfl
    · exact absurd hgw g
theorem vx_c {args : Array Value} {s : State} {w : Cond} {B : List Cond} (h : w.before args s = true) (t : ∀ w ∈ B, w.before args s = true) : ∀ w' ∈ w :: B, w'.before args s = true := fun w' h' => (List.mem_cons.mp h').elim (fun e => by rw [e]; exact h) (t w')
theorem vx_n {args : Array Value} {s : State} : ∀ w ∈ ([] : List Cond), w.before args s = true := fun _ h => nomatch h
theorem vx_own {args : Array Value} {s : State} {L : List Cond} (h1 : ∀ w ∈ L.filter vx_no, w.before args s = true)
    (hU : (Cond.isRef (.static Bundle.tN "UNASSIGNED_STACK" Bundle.steD)).before args s = true) (hN : (Cond.isRef (.static Bundle.tN "SUPPRESSED_SENTINEL" Bundle.listD)).before args s = true)
    (lU : (Cond.laysStatic Bundle.tN "UNASSIGNED_STACK" Bundle.steD).before args s = true) (lN : (Cond.laysStatic Bundle.tN "SUPPRESSED_SENTINEL" Bundle.listD).before args s = true) : ∀ w ∈ L, w.before args s = true := by
  intro w hw
  by_cases e1 : w = .isRef (.static Bundle.tN "UNASSIGNED_STACK" Bundle.steD)
  · rw [e1]; exact hU
  · by_cases e2 : w = .isRef (.static Bundle.tN "SUPPRESSED_SENTINEL" Bundle.listD)
    · rw [e2]; exact hN
    · by_cases e3 : w = .laysStatic Bundle.tN "UNASSIGNED_STACK" Bundle.steD
      · rw [e3]; exact lU
      · by_cases e4 : w = .laysStatic Bundle.tN "SUPPRESSED_SENTINEL" Bundle.listD
        · rw [e4]; exact lN
        · exact h1 w (List.mem_filter.mpr ⟨hw, by unfold vx_no; rw [decide_eq_true e1, decide_eq_true e2, decide_eq_true e3, decide_eq_true e4]; rfl⟩)
/-- where a static field lies, its class's statics cell in H -/
def vx_L (C n d : String) (A : Nat → Prop) (U : State) (H : Heap) : Prop := ∃ (c : ClassId) (k : Class) (i : Nat) (f : Field) (a : Nat) (cell : Cell), U.vm.findClass C = some c ∧ U.fieldFound? C n d = some (c, k, i, f) ∧ f.isStatic = true ∧ k.statics = some a ∧ H[a]? = some cell ∧ cell.vm.isStatics = true ∧ cell.cls = c ∧ f.slot < cell.slots.size ∧ k.staticTypes[f.slot]? = some f.type ∧ ¬ A a
theorem vx_L.moved {C n d : String} {A : Nat → Prop} {u U : State} {H : Heap} (hvm : u.vm.Alike U.vm) (h : vx_L C n d A u H) : vx_L C n d A U H := by
  obtain ⟨c, k, i, f, a, cell, h1, h2, h3, h4, h5, h6, h7, h8, h9, h10⟩ := h
  obtain ⟨k', hi', he⟩ := State.fieldFound?_setVm hvm h2
  exact ⟨c, k', i, f, a, cell, by rw [hvm.findClass]; exact h1, hi', h3, by rw [he]; exact h4, h5, h6, h7, h8, by rw [he]; exact h9, h10⟩
theorem vx_L.kept {C n d : String} {A : Nat → Prop} {U : State} {H H1 : Heap} (h : vx_L C n d A U H) (hq : ∀ a : Nat, a < H.size → ¬ A a → H1[a]? = H[a]?) : vx_L C n d A U H1 := by
  obtain ⟨c, k, i, f, a, cell, h1, h2, h3, h4, h5, h6, h7, h8, h9, h10⟩ := h
  exact ⟨c, k, i, f, a, cell, h1, h2, h3, h4, by rw [hq a (Array.getElem?_eq_some_iff.mp h5).1 h10]; exact h5, h6, h7, h8, h9, h10⟩
theorem vx_L.narrow {C n d : String} {A B : Nat → Prop} {U : State} {H : Heap} (h : vx_L C n d A U H) (hAB : ∀ q, B q → A q) : vx_L C n d B U H := by
  obtain ⟨c, k, i, f, a, cell, h1, h2, h3, h4, h5, h6, h7, h8, h9, h10⟩ := h
  exact ⟨c, k, i, f, a, cell, h1, h2, h3, h4, h5, h6, h7, h8, h9, fun z => h10 (hAB _ z)⟩
theorem vx_L.word {C n d : String} {A : Nat → Prop} {s : State} {args : Array Value} (h : vx_L C n d A s s.heap) : (Cond.laysStatic C n d).before args s = true := by
  obtain ⟨c, k, i, f, a, cell, h1, h2, h3, h4, h5, h6, h7, h8, h9, -⟩ := h
  show (Cond.laysStatic C n d).holds args s none s [] = true
  exact Cond.laysStatic_of h1 h2 h3 h4 h5 h6 h7 h8 h9
/-- .. and what it holds: null or some reference -/
def vx_Zq (C n d : String) (A : Nat → Prop) (U : State) (H : Heap) : Prop := va_Zq C n d A U H ∧ vx_L C n d A U H
theorem vx_Zq.moved {C n d : String} {A : Nat → Prop} {u U : State} {H : Heap} (hvm : u.vm.Alike U.vm) (h : vx_Zq C n d A u H) : vx_Zq C n d A U H := ⟨va_Zq.moved hvm h.1, vx_L.moved hvm h.2⟩
theorem vx_Zq.kept {C n d : String} {A : Nat → Prop} {U : State} {H H1 : Heap} (h : vx_Zq C n d A U H) (hq : ∀ a : Nat, a < H.size → ¬ A a → H1[a]? = H[a]?) : vx_Zq C n d A U H1 := ⟨va_Zq.kept h.1 hq, vx_L.kept h.2 hq⟩
theorem vx_Zq.narrow {C n d : String} {A B : Nat → Prop} {U : State} {H : Heap} (h : vx_Zq C n d A U H) (hAB : ∀ q, B q → A q) : vx_Zq C n d B U H := ⟨va_Zq.narrow h.1 hAB, vx_L.narrow h.2 hAB⟩
theorem vx_Zqof {args : Array Value} {s : State} {C n d : String} {A : Nat → Prop} (hl : (Cond.laysStatic C n d).before args s = true) (hini : (Cond.initialized C).before args s = true) (h : (Cond.isRef (.static C n d)).before args s = true) (hA : ∀ a : Nat, a < s.heap.size → ¬ A a) : vx_Zq C n d A s s.heap := by
  refine ⟨va_Zqof hl hini h hA, ?_⟩
  obtain ⟨c, k, i, f, a, cell, h1, h2, h3, h4, h5, h6, h7, h8, h9⟩ := Cond.laysStatic_spec hl
  exact ⟨c, k, i, f, a, cell, h1, h2, h3, h4, h5, h6, h7, h8, h9, hA a (Array.getElem?_eq_some_iff.mp h5).1⟩
theorem vx_isRef {C n d : String} {v : Value} {A : Nat → Prop} {s : State} {args : Array Value} (h : va_Z C n d v A s s.heap) (hv : v.isRef = true) : (Cond.isRef (.static C n d)).before args s = true := by
  obtain ⟨cf, kf, fi, f, a, cell, h1, h2, h3, h4, h5, h6, h7, -⟩ := h
  have he : (Term.static C n d).eval args s none [] s = some v := by
    simp [Term.eval, State.fieldNamed?, h1, h2, h4, h5, h6, h7]
  simp only [Cond.before, Cond.holds, Cond.value, he]
  cases v <;> simp_all [Value.isRef]
theorem vx_isRefq {C n d : String} {A : Nat → Prop} {s : State} {args : Array Value} (h : va_Zq C n d A s s.heap) : (Cond.isRef (.static C n d)).before args s = true := by
  rcases h with h | ⟨t, h⟩
  · exact vx_isRef h rfl
  · exact vx_isRef h rfl
/-- the same frame, seen from here: as if the method were called anew in this heap -/
theorem vx_rebase {T : State} (X : Stand p l e R s m args below meth c T locs cells slots) {R' : Room} (hf : R'.frames ≤ R.frames) (hl : R'.locals ≤ R.locals) (hc : cells + R'.cells ≤ R.cells) (hs : slots + R'.slots ≤ R.slots) :
    Stand p l e R' ((T.setVm s.vm).setFrames (.invoking m args :: below)) m args below meth c T [] 0 0 := by
  have htop : (T.setVm s.vm).topJava?.isSome := X.here.top
  have hF : ((T.setVm s.vm).setFrames (.invoking m args :: below)).frames = .invoking m args :: below := State.frames_setFrames _ (State.cur_lt_of_top htop)
  obtain ⟨g₀, hg0⟩ := Option.isSome_iff_exists.mp htop
  obtain ⟨r, hr⟩ := State.topJava?_eq_some.mp hg0
  have hl9 : e.platform.stackLimits (T.setVm s.vm).me = e.platform.stackLimits s.me := X.limits
  have hb9 : (T.setVm s.vm).me.stackBytes = s.me.stackBytes := X.bytes
  refine ⟨X.admits, X.cas, X.clock, hF, ?_, X.hears, X.method, X.code, X.here, X.tail, X.warmed, ?_, ?_, ?_⟩
  · have h := X.room
    have hU : ((T.setVm s.vm).setFrames (.invoking m args :: below)).localsInUse = s.localsInUse := by
      rw [State.localsInUse_invoking hF (meth := meth) (c := c) X.method X.code, State.localsInUse_invoking X.frames X.method X.code]
    simp only [State.hasRoom, Bool.and_eq_true, decide_eq_true_eq] at h ⊢
    obtain ⟨⟨⟨⟨h1, h2, h3, h4, h5, h6⟩, h7⟩, h8⟩, h9⟩ := h
    rw [X.frames, List.length_cons] at h2 h3
    have q1 := X.heapSize
    have q2 := X.used
    simp only [hF, hU, List.length_cons, State.stackLimits_setFrames, State.stackBytes_setFrames, hl9, hb9]
    refine ⟨⟨⟨⟨by omega, by omega, by omega, by omega, by omega, h6⟩, ?_⟩, ?_⟩, X.book⟩
    · show T.heap.size + R'.cells ≤ e.platform.maxCells
      omega
    · show T.slotsUsed + R'.slots ≤ e.platform.maxSlots
      omega
  · rw [State.stackLimits_setFrames]; rfl
  · rw [State.stackBytes_setFrames]; rfl
  · refine ⟨?_, Nat.le_refl _, Nat.le_refl _, ?_, ?_, fun a c9 h9 => ⟨c9, h9, rfl, rfl, fun _ _ => rfl⟩⟩
    · obtain ⟨t, ht, -⟩ := State.frames_cons hr
      show T.setVm s.vm = { ((T.setVm s.vm).setFrames (.invoking m args :: below)).setFrames (T.setVm s.vm).frames with heap := T.heap, slotsUsed := T.slotsUsed }
      rw [State.setFrames_setFrames, State.setFrames_self ht]
      rfl
    · show T.slotsUsed = T.slotsUsed + ((T.heap.toList.drop T.heap.size).map (·.slots.size)).sum
      rw [List.drop_eq_nil_of_le (Nat.le_of_eq Array.length_toList)]
      rfl
    · show ((T.heap.toList.drop T.heap.size).map (·.slots.size)).sum ≤ 0
      rw [List.drop_eq_nil_of_le (Nat.le_of_eq Array.length_toList)]
      exact Nat.le_refl _
/-- 'throw new E()': new; dup; invokespecial; athrow -/
theorem vx_throw0 {cc : ByteArray} {pc : Nat} (hexec : p.tables.exec = Jvm.exec) (hb : c.code = cc) (hl : l.stackTraces = false) {own cls : String} {names : List String} {ik ic mc ms : Nat} {A : Nat → Prop}
    (hown : s.vm.findClass own = some m.cls) (hcls : Bundle.fit cls = true) (hnames : ∀ n ∈ names, Bundle.fit n = true)
    (hk : (Cond.classLink own ik cls).before args s = true) (hini : (Cond.initialized cls).before args s = true) (hat : ∀ w ∈ vx_at0 own ic cls names, w.before args s = true)
    (hgood : ∀ w ∈ Cond.classLink own ik cls :: Cond.initialized cls :: vx_at0 own ic cls names, vx_ot w = true)
    (hU : vx_Zq Bundle.tN "UNASSIGNED_STACK" Bundle.steD A s s.heap) (hN : vx_Zq Bundle.tN "SUPPRESSED_SENTINEL" Bundle.listD A s s.heap) (hS : va_S A s.heap H locs) (hsize : ls.size = c.maxLocals)
    (d0 : decode cc pc = .ok (.new ik, 3)) (d3 : decode cc (pc + 3) = .ok (.dup, 1)) (d4 : decode cc (pc + 4) = .ok (.invokespecial ic, 3)) (d7 : decode cc (pc + 7) = .ok (.athrow, 1))
    (hout : ∀ x ∈ c.exceptionTable.toList, covers x (pc + 7) = false)
    (hRframes : names.length + 3 < R.frames) (hRlocals : (rest.map fun v => v.category).sum + (13 * (names.length + 1) + 42) ≤ R.locals) (hRcells : cells + 1 ≤ R.cells) (hRslots : slots + 6 ≤ R.slots) (hlocks : meth.locks = false)
    (hx : ∀ t : State, s.vm.Alike t.vm → H.size ≤ t.heap.size → (∀ q : Nat, q < H.size → t.heap[q]? = H[q]?) → XC cls s t)
    (hf : ∀ z ∈ locs, free z.base) (hc : cells + 1 ≤ mc) (hs : slots + 6 ≤ ms) :
    W p l e R s m args below meth c H locs cells slots (vx_MQ below Qc XC args s mc ms free) (F0 m pc ls rest) := by
  intro T hT X
  have htr : e.platform.stackTraces = false := (show e.platform.stackTraces = l.stackTraces by rw [X.admits.platform]).trans hl
  have Y := vx_rebase X (R' := { frames := R.frames, locals := R.locals, cells := 1, slots := 6 }) (Nat.le_refl _) (Nat.le_refl _) hRcells hRslots
  obtain ⟨s', hA⟩ : ∃ z, z = (T.setVm s.vm).setFrames (.invoking m args :: below) := ⟨_, rfl⟩
  rw [← hA] at Y
  have hvm : s'.vm = s.vm := by rw [hA]; rfl
  have hhp : s'.heap = H := by rw [hA]; exact hT
  have hW0 : s.WarmedH s'.vm := by rw [hvm]; exact State.WarmedH.refl s
  have hat' : ∀ w ∈ vx_at0 own ic cls names, w.before args s' = true := fun w hw => vx_ot_at hW0 hvm.symm (hgood w (List.mem_cons_of_mem _ (List.mem_cons_of_mem _ hw))) (hat w hw)
  have hk' : (Cond.classLink own ik cls).before args s' = true := vx_ot_at hW0 hvm.symm (hgood _ List.mem_cons_self) hk
  have hini' : (Cond.initialized cls).before args s' = true := vx_ot_at hW0 hvm.symm (hgood _ (List.mem_cons_of_mem _ List.mem_cons_self)) hini
  have hU' : vx_Zq Bundle.tN "UNASSIGNED_STACK" Bundle.steD A s' s'.heap := by rw [hhp]; exact vx_Zq.moved hW0.alike (hU.kept hS.2.1)
  have hN' : vx_Zq Bundle.tN "SUPPRESSED_SENTINEL" Bundle.listD A s' s'.heap := by rw [hhp]; exact vx_Zq.moved hW0.alike (hN.kept hS.2.1)
  have h : ∀ w ∈ Bundle.ownAtoms0 own ic cls names, w.before args s' = true := vx_own hat' (vx_isRefq hU'.1) (vx_isRefq hN'.1) hU'.2.word hN'.2.word
  have hown' : s'.vm.findClass own = some m.cls := by rw [hvm]; exact hown
  have hins : (Cond.instantiable cls 6).before args s' = true := h _ (by simp [Bundle.ownAtoms0])
  obtain ⟨vm₁, cX, kX, hfX, hkX, -, -, X₁, st1⟩ := Y.newCold hexec (own := own) (C := cls) (index := ik) (n := 6) hown' hk' hins hini'
    (g := F0 m pc ls rest) rfl (by rw [hb]; exact d0) (Nat.le_refl _) (Nat.le_refl _)
  generalize hT1 : (T.setVm vm₁).pushCell { cls := cX, slots := kX.instanceTypes.map defaultValue, vm := .none } = T1 at X₁ st1
  have hcat : (Value.ref T.heap.size).category = 1 := rfl
  have hcellA : T1.heap[T.heap.size]? = some (freshCell cX kX) := by rw [← hT1]; exact State.heap_pushCell_size _ _
  have d3' : decode c.code (pc + 3) = .ok (.dup, 1) := by rw [hb]; exact d3
  obtain ⟨U, hsteps, hrun, hend, hW, hsame, ce, hce, hO⟩ := X₁.ctorThrow0 hexec htr (own := own) (cls := cls) (names := names) (ic := ic) hown' hcls hnames h (fun x hx => nomatch hx) hfX hkX hcellA (by rw [hhp, hT]; exact Nat.le_refl _)
    (g := { method := m, pc := pc + 4, locals := ls, stack := .ref T.heap.size :: .ref T.heap.size :: rest, locked := none }) rfl hsize rfl rfl (rest := rest) rfl
    (by rw [hb]; exact d4) (by rw [hb]; exact d7) hout hRframes (by simp only [List.map_cons, List.sum_cons, hcat]; omega) hlocks
  obtain ⟨f1, f2⟩ := vx_frame hsame
  rw [hhp] at f1 f2
  have hWs : s.WarmedH U.vm := State.WarmedH.trans hW0 hW
  have hcl : s.vm.findClass cls = some ce.cls := by
    have h9 := hO.cls
    rw [hvm] at h9
    exact h9
  have hall : s.sameButNew ({ U with vm := s.vm } : State) locs mc ms := by
    subst hA
    obtain ⟨e1, e2⟩ := hsame
    rw [State.setFrames_setFrames] at e1
    have h2 : (T.setVm s.vm).sameButNew ({ U with vm := s.vm } : State) [] (0 + 1) (0 + 6) := ⟨e1, e2⟩
    have h3 := X.same.trans h2
    rw [List.append_nil] at h3
    exact h3.mono hc hs
  refine ⟨U, ?_, .threw T.heap.size, hrun, hend, Or.inr ⟨T.heap.size, rfl, cls, ce, locs, hx U hWs.alike f1 (fun q hq => f2 q hq (fun z hz => nomatch hz)), hce, hO.vm, hcl, hWs, hall, hf⟩⟩
  refine st1 _ ?_
  show Steps p.tables e below (T1.setTop { method := m, pc := pc + 3, locals := ls, stack := .ref T.heap.size :: rest, locked := none }) _
  jvm_step X₁.here [X₁.here.top, hexec, d3', Value.category]
  exact hsteps
/-- 'throw new E("text")': new; dup; ldc; invokespecial; athrow -/
theorem vx_throwS {cc : ByteArray} {pc : Nat} (hexec : p.tables.exec = Jvm.exec) (hb : c.code = cc) (hl : l.stackTraces = false) {own cls text : String} {names : List String} {ik is ic mc ms sa : Nat} {A : Nat → Prop}
    (hown : s.vm.findClass own = some m.cls) (hcls : Bundle.fit cls = true) (hnames : ∀ n ∈ names, Bundle.fit n = true)
    (hk : (Cond.classLink own ik cls).before args s = true) (hini : (Cond.initialized cls).before args s = true) (hstr : vk_R own is text sa s) (hat : ∀ w ∈ vx_atS own ic cls names, w.before args s = true)
    (hgood : ∀ w ∈ Cond.classLink own ik cls :: Cond.initialized cls :: vx_atS own ic cls names, vx_ot w = true)
    (hU : vx_Zq Bundle.tN "UNASSIGNED_STACK" Bundle.steD A s s.heap) (hN : vx_Zq Bundle.tN "SUPPRESSED_SENTINEL" Bundle.listD A s s.heap) (hS : va_S A s.heap H locs) (hsize : ls.size = c.maxLocals)
    (d0 : decode cc pc = .ok (.new ik, 3)) (d3 : decode cc (pc + 3) = .ok (.dup, 1)) (d4 : decode cc (pc + 4) = .ok (.ldc is, 2)) (d6 : decode cc (pc + 6) = .ok (.invokespecial ic, 3)) (d9 : decode cc (pc + 9) = .ok (.athrow, 1))
    (hout : ∀ x ∈ c.exceptionTable.toList, covers x (pc + 9) = false)
    (hRframes : names.length + 3 < R.frames) (hRlocals : (rest.map fun v => v.category).sum + (13 * (names.length + 1) + 43) ≤ R.locals) (hRcells : cells + 1 ≤ R.cells) (hRslots : slots + 6 ≤ R.slots) (hlocks : meth.locks = false)
    (hx : ∀ t : State, s.vm.Alike t.vm → H.size ≤ t.heap.size → (∀ q : Nat, q < H.size → t.heap[q]? = H[q]?) → XC cls s t)
    (hf : ∀ z ∈ locs, free z.base) (hc : cells + 1 ≤ mc) (hs : slots + 6 ≤ ms) :
    W p l e R s m args below meth c H locs cells slots (vx_MQ below Qc XC args s mc ms free) (F0 m pc ls rest) := by
  intro T hT X
  have htr : e.platform.stackTraces = false := (show e.platform.stackTraces = l.stackTraces by rw [X.admits.platform]).trans hl
  have Y := vx_rebase X (R' := { frames := R.frames, locals := R.locals, cells := 1, slots := 6 }) (Nat.le_refl _) (Nat.le_refl _) hRcells hRslots
  obtain ⟨s', hA⟩ : ∃ z, z = (T.setVm s.vm).setFrames (.invoking m args :: below) := ⟨_, rfl⟩
  rw [← hA] at Y
  have hvm : s'.vm = s.vm := by rw [hA]; rfl
  have hhp : s'.heap = H := by rw [hA]; exact hT
  have hW0 : s.WarmedH s'.vm := by rw [hvm]; exact State.WarmedH.refl s
  have hat' : ∀ w ∈ vx_atS own ic cls names, w.before args s' = true := fun w hw => vx_ot_at hW0 hvm.symm (hgood w (List.mem_cons_of_mem _ (List.mem_cons_of_mem _ hw))) (hat w hw)
  have hk' : (Cond.classLink own ik cls).before args s' = true := vx_ot_at hW0 hvm.symm (hgood _ List.mem_cons_self) hk
  have hini' : (Cond.initialized cls).before args s' = true := vx_ot_at hW0 hvm.symm (hgood _ (List.mem_cons_of_mem _ List.mem_cons_self)) hini
  have hU' : vx_Zq Bundle.tN "UNASSIGNED_STACK" Bundle.steD A s' s'.heap := by rw [hhp]; exact vx_Zq.moved hW0.alike (hU.kept hS.2.1)
  have hN' : vx_Zq Bundle.tN "SUPPRESSED_SENTINEL" Bundle.listD A s' s'.heap := by rw [hhp]; exact vx_Zq.moved hW0.alike (hN.kept hS.2.1)
  have h : ∀ w ∈ Bundle.ownAtoms own ic cls names, w.before args s' = true := vx_own hat' (vx_isRefq hU'.1) (vx_isRefq hN'.1) hU'.2.word hN'.2.word
  have hown' : s'.vm.findClass own = some m.cls := by rw [hvm]; exact hown
  have hins : (Cond.instantiable cls 6).before args s' = true := h _ (by simp [Bundle.ownAtoms])
  obtain ⟨vm₁, cX, kX, hfX, hkX, -, -, X₁, st1⟩ := Y.newCold hexec (own := own) (C := cls) (index := ik) (n := 6) hown' hk' hins hini'
    (g := F0 m pc ls rest) rfl (by rw [hb]; exact d0) (Nat.le_refl _) (Nat.le_refl _)
  generalize hT1 : (T.setVm vm₁).pushCell { cls := cX, slots := kX.instanceTypes.map defaultValue, vm := .none } = T1 at X₁ st1
  have hcat : (Value.ref T.heap.size).category = 1 := rfl
  have hcellA : T1.heap[T.heap.size]? = some (freshCell cX kX) := by rw [← hT1]; exact State.heap_pushCell_size _ _
  have d3' : decode c.code (pc + 3) = .ok (.dup, 1) := by rw [hb]; exact d3
  have d4' : decode c.code (pc + 4) = .ok (.ldc is, 2) := by rw [hb]; exact d4
  have hstr' : vk_R own is text sa s' := vk_R.warm hW0 hstr
  obtain ⟨U, hsteps, hrun, hend, hW, hsame, ce, hce, hO⟩ := X₁.ctorThrowS hexec htr (own := own) (cls := cls) (names := names) (ic := ic) hown' hcls hnames h (fun x hx => nomatch hx) hfX hkX hcellA (by rw [hhp, hT]; exact Nat.le_refl _) (msg := .ref sa) rfl
    (g := { method := m, pc := pc + 6, locals := ls, stack := .ref sa :: .ref T.heap.size :: .ref T.heap.size :: rest, locked := none }) rfl hsize rfl rfl (rest := rest) rfl
    (by rw [hb]; exact d6) (by rw [hb]; exact d9) hout hRframes (by simp only [List.map_cons, List.sum_cons, hcat]; omega) hlocks
  obtain ⟨f1, f2⟩ := vx_frame hsame
  rw [hhp] at f1 f2
  have hWs : s.WarmedH U.vm := State.WarmedH.trans hW0 hW
  have hcl : s.vm.findClass cls = some ce.cls := by
    have h9 := hO.cls
    rw [hvm] at h9
    exact h9
  have hall : s.sameButNew ({ U with vm := s.vm } : State) locs mc ms := by
    subst hA
    obtain ⟨e1, e2⟩ := hsame
    rw [State.setFrames_setFrames] at e1
    have h2 : (T.setVm s.vm).sameButNew ({ U with vm := s.vm } : State) [] (0 + 1) (0 + 6) := ⟨e1, e2⟩
    have h3 := X.same.trans h2
    rw [List.append_nil] at h3
    exact h3.mono hc hs
  refine ⟨U, ?_, .threw T.heap.size, hrun, hend, Or.inr ⟨T.heap.size, rfl, cls, ce, locs, hx U hWs.alike f1 (fun q hq => f2 q hq (fun z hz => nomatch hz)), hce, hO.vm, hcl, hWs, hall, hf⟩⟩
  refine st1 _ ?_
  show Steps p.tables e below (T1.setTop { method := m, pc := pc + 3, locals := ls, stack := .ref T.heap.size :: rest, locked := none }) _
  jvm_step X₁.here [X₁.here.top, hexec, d3', Value.category]
  exact X₁.ldcString hexec (own := own) (text := text) (index := is) (a := sa) hown' hstr'.1 hstr'.2
    (g := { method := m, pc := pc + 4, locals := ls, stack := .ref T.heap.size :: .ref T.heap.size :: rest, locked := none }) rfl d4' _ hsteps
/-- 'throw new E("text")', the text by a wide index -/
theorem vx_throwSW {cc : ByteArray} {pc : Nat} (hexec : p.tables.exec = Jvm.exec) (hb : c.code = cc) (hl : l.stackTraces = false) {own cls text : String} {names : List String} {ik is ic mc ms sa : Nat} {A : Nat → Prop}
    (hown : s.vm.findClass own = some m.cls) (hcls : Bundle.fit cls = true) (hnames : ∀ n ∈ names, Bundle.fit n = true)
    (hk : (Cond.classLink own ik cls).before args s = true) (hini : (Cond.initialized cls).before args s = true) (hstr : vk_R own is text sa s) (hat : ∀ w ∈ vx_atS own ic cls names, w.before args s = true)
    (hgood : ∀ w ∈ Cond.classLink own ik cls :: Cond.initialized cls :: vx_atS own ic cls names, vx_ot w = true)
    (hU : vx_Zq Bundle.tN "UNASSIGNED_STACK" Bundle.steD A s s.heap) (hN : vx_Zq Bundle.tN "SUPPRESSED_SENTINEL" Bundle.listD A s s.heap) (hS : va_S A s.heap H locs) (hsize : ls.size = c.maxLocals)
    (d0 : decode cc pc = .ok (.new ik, 3)) (d3 : decode cc (pc + 3) = .ok (.dup, 1)) (d4 : decode cc (pc + 4) = .ok (.ldc_w is, 3)) (d7 : decode cc (pc + 7) = .ok (.invokespecial ic, 3)) (d10 : decode cc (pc + 10) = .ok (.athrow, 1))
    (hout : ∀ x ∈ c.exceptionTable.toList, covers x (pc + 10) = false)
    (hRframes : names.length + 3 < R.frames) (hRlocals : (rest.map fun v => v.category).sum + (13 * (names.length + 1) + 43) ≤ R.locals) (hRcells : cells + 1 ≤ R.cells) (hRslots : slots + 6 ≤ R.slots) (hlocks : meth.locks = false)
    (hx : ∀ t : State, s.vm.Alike t.vm → H.size ≤ t.heap.size → (∀ q : Nat, q < H.size → t.heap[q]? = H[q]?) → XC cls s t)
    (hf : ∀ z ∈ locs, free z.base) (hc : cells + 1 ≤ mc) (hs : slots + 6 ≤ ms) :
    W p l e R s m args below meth c H locs cells slots (vx_MQ below Qc XC args s mc ms free) (F0 m pc ls rest) := by
  intro T hT X
  have htr : e.platform.stackTraces = false := (show e.platform.stackTraces = l.stackTraces by rw [X.admits.platform]).trans hl
  have Y := vx_rebase X (R' := { frames := R.frames, locals := R.locals, cells := 1, slots := 6 }) (Nat.le_refl _) (Nat.le_refl _) hRcells hRslots
  obtain ⟨s', hA⟩ : ∃ z, z = (T.setVm s.vm).setFrames (.invoking m args :: below) := ⟨_, rfl⟩
  rw [← hA] at Y
  have hvm : s'.vm = s.vm := by rw [hA]; rfl
  have hhp : s'.heap = H := by rw [hA]; exact hT
  have hW0 : s.WarmedH s'.vm := by rw [hvm]; exact State.WarmedH.refl s
  have hat' : ∀ w ∈ vx_atS own ic cls names, w.before args s' = true := fun w hw => vx_ot_at hW0 hvm.symm (hgood w (List.mem_cons_of_mem _ (List.mem_cons_of_mem _ hw))) (hat w hw)
  have hk' : (Cond.classLink own ik cls).before args s' = true := vx_ot_at hW0 hvm.symm (hgood _ List.mem_cons_self) hk
  have hini' : (Cond.initialized cls).before args s' = true := vx_ot_at hW0 hvm.symm (hgood _ (List.mem_cons_of_mem _ List.mem_cons_self)) hini
  have hU' : vx_Zq Bundle.tN "UNASSIGNED_STACK" Bundle.steD A s' s'.heap := by rw [hhp]; exact vx_Zq.moved hW0.alike (hU.kept hS.2.1)
  have hN' : vx_Zq Bundle.tN "SUPPRESSED_SENTINEL" Bundle.listD A s' s'.heap := by rw [hhp]; exact vx_Zq.moved hW0.alike (hN.kept hS.2.1)
  have h : ∀ w ∈ Bundle.ownAtoms own ic cls names, w.before args s' = true := vx_own hat' (vx_isRefq hU'.1) (vx_isRefq hN'.1) hU'.2.word hN'.2.word
  have hown' : s'.vm.findClass own = some m.cls := by rw [hvm]; exact hown
  have hins : (Cond.instantiable cls 6).before args s' = true := h _ (by simp [Bundle.ownAtoms])
  obtain ⟨vm₁, cX, kX, hfX, hkX, -, -, X₁, st1⟩ := Y.newCold hexec (own := own) (C := cls) (index := ik) (n := 6) hown' hk' hins hini'
    (g := F0 m pc ls rest) rfl (by rw [hb]; exact d0) (Nat.le_refl _) (Nat.le_refl _)
  generalize hT1 : (T.setVm vm₁).pushCell { cls := cX, slots := kX.instanceTypes.map defaultValue, vm := .none } = T1 at X₁ st1
  have hcat : (Value.ref T.heap.size).category = 1 := rfl
  have hcellA : T1.heap[T.heap.size]? = some (freshCell cX kX) := by rw [← hT1]; exact State.heap_pushCell_size _ _
  have d3' : decode c.code (pc + 3) = .ok (.dup, 1) := by rw [hb]; exact d3
  have d4' : decode c.code (pc + 4) = .ok (.ldc_w is, 3) := by rw [hb]; exact d4
  have hstr' : vk_R own is text sa s' := vk_R.warm hW0 hstr
  obtain ⟨U, hsteps, hrun, hend, hW, hsame, ce, hce, hO⟩ := X₁.ctorThrowS hexec htr (own := own) (cls := cls) (names := names) (ic := ic) hown' hcls hnames h (fun x hx => nomatch hx) hfX hkX hcellA (by rw [hhp, hT]; exact Nat.le_refl _) (msg := .ref sa) rfl
    (g := { method := m, pc := pc + 7, locals := ls, stack := .ref sa :: .ref T.heap.size :: .ref T.heap.size :: rest, locked := none }) rfl hsize rfl rfl (rest := rest) rfl
    (by rw [hb]; exact d7) (by rw [hb]; exact d10) hout hRframes (by simp only [List.map_cons, List.sum_cons, hcat]; omega) hlocks
  obtain ⟨f1, f2⟩ := vx_frame hsame
  rw [hhp] at f1 f2
  have hWs : s.WarmedH U.vm := State.WarmedH.trans hW0 hW
  have hcl : s.vm.findClass cls = some ce.cls := by
    have h9 := hO.cls
    rw [hvm] at h9
    exact h9
  have hall : s.sameButNew ({ U with vm := s.vm } : State) locs mc ms := by
    subst hA
    obtain ⟨e1, e2⟩ := hsame
    rw [State.setFrames_setFrames] at e1
    have h2 : (T.setVm s.vm).sameButNew ({ U with vm := s.vm } : State) [] (0 + 1) (0 + 6) := ⟨e1, e2⟩
    have h3 := X.same.trans h2
    rw [List.append_nil] at h3
    exact h3.mono hc hs
  refine ⟨U, ?_, .threw T.heap.size, hrun, hend, Or.inr ⟨T.heap.size, rfl, cls, ce, locs, hx U hWs.alike f1 (fun q hq => f2 q hq (fun z hz => nomatch hz)), hce, hO.vm, hcl, hWs, hall, hf⟩⟩
  refine st1 _ ?_
  show Steps p.tables e below (T1.setTop { method := m, pc := pc + 3, locals := ls, stack := .ref T.heap.size :: rest, locked := none }) _
  jvm_step X₁.here [X₁.here.top, hexec, d3', Value.category]
  exact X₁.ldcStringW hexec (own := own) (text := text) (index := is) (a := sa) hown' hstr'.1 hstr'.2
    (g := { method := m, pc := pc + 4, locals := ls, stack := .ref T.heap.size :: .ref T.heap.size :: rest, locked := none }) rfl d4' _ hsteps
end Ends
section Bodies
variable {l : Launch}
theorem vx_ofW {y : MethodName} {ws ws' : List Cond} {rm : Room} {Pc : Array Value → State → Prop} {Qc : Array Value → State → Outcome → State → Prop} {XC : String → State → State → Prop} {mc ms : Nat} {free : Addr → Prop} {cc : ByteArray} {maxL : Nat} {ret : Option FieldType}
    (hy : plainName y.cls = true) (hw : ws = Cond.code y cc maxL ret :: ws')
    (body : ∀ p e s m args below meth c s₁, BodyLoose p l y (headSpec ws rm) cc maxL ret e s m args below meth c s₁ → c.maxLocals = maxL → (∀ x ∈ c.exceptionTable.toList, False) → Pc args s →
      W p l e (headSpec ws rm).room s m args below meth c s.heap [] 0 0 (vx_MQ below Qc XC args s mc ms free) (entryFrame m args maxL)) : vx_Met l y ws rm Pc Qc XC mc ms free := by
  refine MetFree.of_bodyS (code := cc) (maxLocals := maxL) (ret := ret) hy ?_ ?_
  · intro args s m h hn
    obtain ⟨meth, c, h1, h2, h3, h4, h5, h6, -, -⟩ := Cond.code_spec hn (atoms_spec (ws := ws) h _ (by rw [hw]; exact List.mem_cons_self))
    exact ⟨meth, c, h1, h2, h3, h4, h5, h6⟩
  · intro p e s m args below meth c s₁ B hml hP _
    have hh0 : s₁.heap = s.heap := by rw [B.state]; rfl
    have ht : ∀ x ∈ c.exceptionTable.toList, False := by
      obtain ⟨meth9, c9, h1, h2, -, -, -, -, h7, -⟩ := Cond.code_spec B.named (atoms_spec (ws := ws) B.pre _ (by rw [hw]; exact List.mem_cons_self))
      cases Option.some.inj (h1.symm.trans B.method)
      cases Option.some.inj (h2.symm.trans (Stand.of_body B).code)
      intro x hx
      rw [Array.isEmpty_iff.mp h7] at hx
      cases hx
    obtain ⟨t, a1, o, b1, b2, b3⟩ := body p e s m args below meth c s₁ B hml ht hP s₁ hh0 (Stand.of_body B)
    exact ⟨t, o, a1, b1, b2, b3⟩
/-- the table of a body with handlers -/
theorem vx_table {p : Program} {x y : MethodName} {S : Spec} {cc bytes : ByteArray} {maxL maxL' : Nat} {ret ret' : Option FieldType} {e : Env} {s s₁ : State} {m : MethodId} {args : Array Value} {below : List Frame} {meth : Method} {c : Code} {hh : List (Nat × Nat × Nat × Nat)}
    (B : BodyLoose p l y S cc maxL ret e s m args below meth c s₁) (h : (Cond.codeWith y bytes maxL' ret' hh).before args s = true) : c.exceptionTable.toList = tableOf hh := by
  obtain ⟨m9, meth9, c9, hn9, h1, h2, -, -, h6, -⟩ := Cond.codeWith_spec h
  cases Option.some.inj (hn9.symm.trans B.named)
  cases Option.some.inj (h1.symm.trans B.method)
  cases Option.some.inj (h2.symm.trans (Stand.of_body B).code)
  rw [← h6, table_eq]
end Bodies
end VXA
/-! ===== END ===== -/
/-! ===== BEGIN a static call of a method with an exception table ===== -/
section VXS
variable {p : Program} {l : Launch} {e : Env} {R : Room} {s : State} {m : MethodId} {args : Array Value} {below : List Frame} {meth : Method} {c : Code} {T : State} {H : Heap} {locs : List Loc} {cells slots : Nat}
abbrev vx_CSW (R : Room) (s : State) (args : Array Value) (own : String) (index : Nat) (y : MethodName) (bytes : ByteArray) (maxL : Nat) (ret : Option FieldType) (hh : List (Nat × Nat × Nat × Nat)) (ws : List Cond) (rm : Room) (mc ms n : Nat) : Prop :=
  (rm.cells = mc ∧ rm.slots = ms ∧ rm.frames + 1 ≤ R.frames ∧ 8 + (maxL + 11) + rm.locals ≤ R.locals ∧ (∀ w ∈ ws, ∀ (a' : Array Value) (U : State), s.WarmedH U.vm → w.before a' U = true) ∧ Cond.codeWith y bytes maxL ret hh ∈ ws) ∧
  (Cond.codeWith y bytes maxL ret hh).before args s = true ∧ (Cond.initialized y.cls).before args s = true ∧ (y.cls ≠ "java/lang/invoke/MethodHandle" ∧ y.cls ≠ "java/lang/invoke/VarHandle") ∧
  (∀ sig, parseMethodDescriptor y.desc = some sig → n = sig.parameters.length) ∧ (Cond.methodLink own index y).before args s = true ∧ (Cond.static y).before args s = true
theorem vx_cwSW {own : String} {index maxL mc ms : Nat} {y : MethodName} {bytes : ByteArray} {ret : Option FieldType} {hh : List (Nat × Nat × Nat × Nat)} {Ts ws ws' : List Cond} {rm : Room} (n : Nat) (ht : ∀ w ∈ Ts, w.before args s = true) (hT : GoodIn Ts (va_wsS own index y ws)) (hw : ws = Cond.codeWith y bytes maxL ret hh :: ws') (hrc : rm.cells = mc) (hrs : rm.slots = ms)
    (hd : y.cls ≠ "java/lang/invoke/MethodHandle" ∧ y.cls ≠ "java/lang/invoke/VarHandle" ∧ (parseMethodDescriptor y.desc).map (fun d => d.parameters.length) = some n) (hR : rm.frames + 1 ≤ R.frames ∧ 8 + (maxL + 11) + rm.locals ≤ R.locals) :
    vx_CSW R s args own index y bytes maxL ret hh ws rm mc ms n := by
  have ok : ∀ w ∈ va_wsS own index y ws, w.before args s = true := fun w h => ht w (hT w h).1
  have hG : GoodIn Ts ws := fun w h => hT w (by unfold va_wsS; exact List.mem_append_right _ h)
  have hc : Cond.codeWith y bytes maxL ret hh ∈ ws := by rw [hw]; exact List.mem_cons_self
  refine ⟨⟨hrc, hrs, hR.1, hR.2, pay_in ht hG, hc⟩, ht _ (hG _ hc).1, ok _ (by simp [va_wsS]), ⟨hd.1, hd.2.1⟩, fun sig h => ?_, ok _ (by simp [va_wsS]), ok _ (by simp [va_wsS])⟩
  have h2 := hd.2.2
  rw [h] at h2
  exact (Option.some.inj h2).symm
theorem vx_callSW (X : Stand p l e R s m args below meth c T locs cells slots) (hexec : p.tables.exec = Jvm.exec) {own : String} {index : Nat} {y : MethodName} {bytes : ByteArray} {maxL : Nat} {ret : Option FieldType} {hh : List (Nat × Nat × Nat × Nat)}
    (hown : s.vm.findClass own = some m.cls) (hlink : (Cond.methodLink own index y).before args s = true) (hstat : (Cond.static y).before args s = true) (hinit : (Cond.initialized y.cls).before args s = true)
    (hcode : (Cond.codeWith y bytes maxL ret hh).before args s = true) (hy : y.cls ≠ "java/lang/invoke/MethodHandle" ∧ y.cls ≠ "java/lang/invoke/VarHandle")
    {W9 : Nat} {Pre : Pt → Array Value → Prop} {Post : Pt → Array Value → Option Value → Pt → Prop} (hK : Back l R p e below s args y 3 W9 Pre Post)
    {g : JFrame} (hg : g.method = m) (hsize : g.locals.size = c.maxLocals) {argsL rest : List Value} (hlen : ∀ sig, parseMethodDescriptor y.desc = some sig → argsL.length = sig.parameters.length)
    (hstack : g.stack = argsL.reverse ++ rest) (hW : 2 * g.monitorRoom + (rest.map fun v => v.category).sum ≤ W9) (hdg : decode c.code g.pc = .ok (.invokestatic index, 3))
    (hpre : ∀ vm₁, s.WarmedH vm₁ → Pre ⟨T.setVm vm₁, locs, cells, slots⟩ argsL.toArray) :
    ∃ (v : Option Value) (vm₁ : Vm) (B : Pt), s.WarmedH vm₁ ∧ Stand p l e R s m args below meth c B.U B.locs B.cells B.slots ∧ Post ⟨T.setVm vm₁, locs, cells, slots⟩ argsL.toArray v B ∧
      ∀ target, Steps p.tables e below (B.U.setTop { g with pc := g.pc + 3, stack := v.toList ++ rest }) target → Steps p.tables e below (T.setTop g) target := by
  obtain ⟨mk, methM, cM, hnamed, hmethM, -, -, -, -, -, -, hsigM⟩ := Cond.codeWith_spec hcode
  have hstatic : methM.isStatic = true := Cond.static_spec hnamed hmethM hstat
  obtain ⟨kP, hkP, -⟩ := className_of_methodNamed hnamed
  have hinitP : kP.init = .initialized := Cond.initialized_spec (findClass_of_methodNamed hnamed) hkP hinit
  obtain ⟨vm₁, X₁, hstep₁⟩ := X.invokestatic hexec hown hlink hnamed hmethM hstatic hkP hinitP hy (g := g) hg (argsL := argsL) (rest := rest) (hlen _ hsigM) hstack hdg
  obtain ⟨v, B, X', hpost, hsteps⟩ := hK m meth c ⟨T.setVm vm₁, locs, cells, slots⟩ { g with stack := rest } (.invokestatic index) mk argsL.toArray X₁ hg hsize hdg hW (X₁.named hnamed) (hpre vm₁ X₁.warmed)
  exact ⟨v, vm₁, B, X₁.warmed, X', hpost, fun target h => hstep₁ _ fun acts => by rw [doInvoke_state]; exact hsteps.trans h⟩
theorem vx_runSW {y : MethodName} {bytes cc : ByteArray} {maxL nL mc ms n index : Nat} {ret : Option FieldType} {hh : List (Nat × Nat × Nat × Nat)} {ws : List Cond} {rm : Room} {Pc : Array Value → State → Prop} {Qc : Array Value → State → Outcome → State → Prop} {free : Addr → Prop} {Ts : List Cond} {own : String} {As rest : List Value} {g : JFrame}
    (S : CallFix p m c cc nL s args Ts own) (hM : Met l y ws rm Pc Qc mc ms free) (cw : vx_CSW R s args own index y bytes maxL ret hh ws rm mc ms n) (hp : PreS s H Pc As)
    (hg : g.method = m) (hn : As.length = n) (hsize : g.locals.size = nL) (hstack : g.stack = As.reverse ++ rest) (hW : 2 * g.monitorRoom + (rest.map fun v => v.category).sum ≤ 8) (hdg : decode cc g.pc = .ok (.invokestatic index, 3)) (hf : cells + mc ≤ R.cells ∧ slots + ms ≤ R.slots) :
    va_Run p l e R s m args below meth c H locs cells slots mc ms g rest (Qc As.toArray) (free) := by
  obtain ⟨⟨hrc, hrs, hfr, hlo, hws, hcw⟩, hcode, hini, hy, hlen, hl, hstt⟩ := cw
  have hK : Back l R p e below s args y 3 8 (PreOf R mc ms Pc) (PostOf Qc mc ms free) := va_backW (hh := hh) (bytes := bytes) (maxL := maxL) (ret := ret) hM hp.1 hrc hrs hfr hlo hws hcw (fun a' U hW => word_at hW (Or.inl (by first | rfl | simp [Cond.onTables, Cond.keeps, Cond.steady])) hini)
  obtain ⟨hx, hb, hml, ho, -⟩ := S
  intro T hT X
  obtain ⟨v, vm₁, ⟨U', l2, c2, s2⟩, hW₁, X', ⟨g', mk, t, L, e1, e2, hq, h1, hL, h2, h3⟩, st⟩ := vx_callSW X hx (hh := hh) (bytes := bytes) (maxL := maxL) (ret := ret) ho hl hstt hini hcode hy hK hg (hsize.trans hml.symm) (argsL := As) (rest := rest) (fun sig h => hn.trans (hlen sig h)) hstack hW (by rw [hb]; exact hdg)
    (fun vm₁ hW₁ => ⟨hf.1, hf.2, hp.2 (T.setVm vm₁) hT hW₁⟩)
  dsimp only [Pt.U, Pt.locs, Pt.cells, Pt.slots] at X' e1 e2 h1 h2 h3 st
  subst h1; subst h2; subst h3
  exact ⟨v, (T.setVm vm₁).calling g' mk As.toArray, t, U', L, hT, X', hL, e1, e2, hq, st⟩
/-- not caught here, past rows that name other classes: it goes on to the caller -/
theorem vx_outP {p : Program} {l : Launch} {e : Env} {R : Room} {s : State} {m : MethodId} {args : Array Value} {below : List Frame} {meth : Method} {c : Code} {H : Heap} {locs : List Loc} {cells slots : Nat} {free : Addr → Prop} {ls : Array Slot} {rest : List Value} {Qc : Array Value → State → Outcome → State → Prop} {XC : String → State → State → Prop}
    {pc : Nat} {own E : String} {ce : Cell} {q : Addr} {mc ms : Nat} (hown : s.vm.findClass own = some m.cls) (hlocks : meth.locks = false)
    (hpass : ∀ z ∈ c.exceptionTable.toList, covers z pc = false ∨ (z.catchType ≠ 0 ∧ ∃ nm : String, (Cond.classLink own z.catchType nm).before args s = true ∧ va_Nc E nm s)) (hcell : H[q]? = some ce) (hv : ce.vm = .none) (hcl : s.vm.findClass E = some ce.cls)
    (hx : ∀ t : State, t.heap = H → s.vm.Alike t.vm → XC E s t) (hf : ∀ z ∈ locs, free z.base) (hc : cells ≤ mc) (hs : slots ≤ ms) :
    vx_W p l e R s m args below meth c H locs cells slots (vx_MQ below Qc XC args s mc ms free) (F0 m pc ls rest) q := by
  intro T hT X
  have hpl : e.platform.magicAccessors = ({} : Platform).magicAccessors := by rw [X.admits.platform]
  obtain ⟨vm', hW', X', st⟩ := X.outThrough hlocks q (g := F0 m pc ls rest) rfl rfl rfl (cell := ce) (by rw [hT]; exact hcell) (by rw [hv]; rfl)
    (by obtain ⟨k9, h9, -⟩ := Vm.findClass_spec hcl; exact ⟨k9, h9⟩) (fun z hz => by
      rcases hpass z hz with h | ⟨hz0, nm, hl1, hn1⟩
      · exact Or.inl h
      · obtain ⟨c6, hc6, hcl6⟩ := Cond.classLink_spec hown hl1 e.platform hpl
        obtain ⟨a8, b8, h1, h2, h3⟩ := hn1
        cases Option.some.inj (h1.symm.trans hcl)
        cases Option.some.inj (h2.symm.trans hc6)
        exact Or.inr ⟨hz0, _, hcl6, h3⟩)
  obtain ⟨g₀, hfr⟩ := X'.frames_eq
  have hcell9 : ((T.setVm vm').setFrames (.throwing q :: below)).heap[q]? = some ce := by
    show T.heap[q]? = some ce
    rw [hT]; exact hcell
  have hend : Ended ((T.setVm vm').setFrames (.throwing q :: below)) below (.threw q) := State.frames_setFrames _ (State.cur_lt_of_frames hfr)
  refine ⟨(T.setVm vm').setFrames (.throwing q :: below), ?_, .threw q, X'.here.running, hend, Or.inr ⟨q, rfl, E, ce, locs, hx _ hT (X'.ends _).1.alike, hcell9, hv, hcl, (X'.ends _).1, (X'.ends _).2.mono hc hs, hf⟩⟩
  rw [X.pushThrowing_eq]
  exact st
/-- a thing of a world lies in the heap -/
theorem vx_lt {D : va_G} {cl : List vw_C} {ws : va_W} {H1 : Heap} (h : va_P D cl ws H1) {k : Nat} {q : Nat × va_E} (hk : ws[k]? = some q) : q.1 < H1.size := (h k q hk).lt
end VXS
/-! ===== END ===== -/
/-! ===== BEGIN methods with a table of their own: called by a name, returning or throwing ===== -/
section VXH
/-! vx_backW, vx_callVX, vx_callSX, vx_callVW, vx_runVW, vx_runVX, vx_runSX, vx_ofWH follow the same proofs as their sisters above (Free/Laws.lean, Shelf42/LK1.lean); vx_outP calls Shelf42/NT130.lean (outThrough). -/
section
variable {l : Launch} {R : Room} {p : Program} {e : Env} {below : List Frame} {s : State} {sargs : Array Value} {y : MethodName} {len W9 : Nat}
theorem vx_backW {ws : List Cond} {rm : Room} {Pc : Array Value → State → Prop} {Qc : Array Value → State → Outcome → State → Prop} {XC : String → State → State → Prop} {mc ms : Nat} {free : Addr → Prop} {bytes : ByteArray} {maxL : Nat} {ret : Option FieldType} {hh : List (Nat × Nat × Nat × Nat)}
    (hM : vx_Met l y ws rm Pc Qc XC mc ms free) (hblind : FrameBlind Pc) (hrc : rm.cells = mc) (hrs : rm.slots = ms)
    (hframes : rm.frames + 1 ≤ R.frames) (hlocals : W9 + (maxL + 11) + rm.locals ≤ R.locals)
    (hws : ∀ w ∈ ws, ∀ a' U, s.WarmedH U.vm → w.before a' U = true) (hcode : Cond.codeWith y bytes maxL ret hh ∈ ws) (hinit : ∀ a' U, s.WarmedH U.vm → (Cond.initialized y.cls).before a' U = true) :
    vx_Back l R p e below s sargs y len W9 (PreOf R mc ms Pc) (PostOf Qc mc ms free) (vx_Post XC mc ms free) := by
  intro m meth c A g ig mk a X hg hsize hdg hW hn hp
  have h1 : (headSpec ws rm).pre.before a A.U = true := atoms_intro fun w hw => hws w hw _ _ X.warmed
  have h2 : (Cond.codeWith y bytes maxL ret hh).before a A.U = true := hws _ hcode _ _ X.warmed
  have h3 : (Cond.initialized y.cls).before a A.U = true := hinit _ _ X.warmed
  have h4 : A.cells + (headSpec ws rm).room.cells ≤ R.cells := by rw [show (headSpec ws rm).room.cells = mc from hrc]; exact hp.1
  have h5 : A.slots + (headSpec ws rm).room.slots ≤ R.slots := by rw [show (headSpec ws rm).room.slots = ms from hrs]; exact hp.2.1
  have hPc : Pc a (A.U.calling g mk a) := hblind _ _ _ _ hp.2.2
  obtain ⟨U, Ls, c0, s0⟩ := A
  dsimp only [Pt.U, Pt.locs, Pt.cells, Pt.slots] at h1 h2 h3 h4 h5 X hn hPc ⊢
  obtain ⟨m9, methY, cY, hn9, hmY, hcY, -, hlY, -⟩ := Cond.codeWith_spec h2
  cases Option.some.inj (hn9.symm.trans hn)
  obtain ⟨kY, hkY, -⟩ := className_of_methodNamed hn
  have hinitY : kY.init = .initialized := Cond.initialized_spec (findClass_of_methodNamed hn) hkY h3
  have h : At U g.method c below := by rw [hg]; exact X.here
  have hlocals9 : W9 + (maxL + 11) + (headSpec ws rm).room.locals ≤ R.locals := hlocals
  have happ : (headSpec ws rm).appliesLoose y e.platform (U.calling g mk a) = true :=
    Spec.appliesLoose_calling (g := g) h hdg hn hkY hinitY
      (X.room_calling (g := g) (R' := (headSpec ws rm).room) hsize hmY hcY hframes (by rw [hlY]; omega) h4 h5) h1
  obtain ⟨mid, hmid⟩ := h.above
  have hfr : (U.setTop g).frames = (.java g :: mid) ++ below := by rw [State.frames_setTop' g h.top, hmid]; rfl
  obtain ⟨o, s₂, hsteps, -, hend, hq⟩ := Steps.callFree hM p X.admits X.cas X.clock (acts := []) hfr happ hPc trivial
  have hq' : vx_Q Qc XC mc ms free a (U.calling g mk a) o s₂ := hq
  rw [State.frames_setTop' g h.top] at hend
  obtain ⟨g₀, hg0⟩ := Option.isSome_iff_exists.mp h.top
  obtain ⟨r, hr⟩ := State.topJava?_eq_some.mp hg0
  have hr' : (({ U with heap := s₂.heap, slotsUsed := s₂.slotsUsed } : State).setVm s₂.vm).frames = .java g₀ :: r := hr
  rcases hq' with ⟨hqc, L, hfe, hL⟩ | ⟨q, rfl, E, ce, L, hx, hce, hcv, hcl, hW₂, hsm, hL⟩
  · obtain ⟨⟨v, rfl⟩, hW₂, e2, q2, q3, q4, q5, q6⟩ := id hfe
    have e3 : s₂ = ({ (U.calling g mk a).setFrames s₂.frames with heap := s₂.heap, slotsUsed := s₂.slotsUsed } : State).setVm s₂.vm := by
      have : s₂ = ({ s₂ with vm := (U.calling g mk a).vm } : State).setVm s₂.vm := rfl
      rw [e2] at this
      exact this
    obtain ⟨c₂, i₂, len₂, hc₂, hd₂, hf₂⟩ := hend
    have hW' : U.WarmedH s₂.vm := hW₂
    have hcc : c₂ = c := by
      have h1 : s₂.code? g.method = U.code? g.method := by
        rw [State.code?_eq, State.code?_eq, hW'.alike.method?]
      exact Option.some.inj (hc₂.symm.trans (h1.trans h.code))
    subst hcc
    have hlen : len₂ = len := by rw [hdg] at hd₂; cases hd₂; rfl
    subst hlen
    have hs₂ : s₂ = (({ U with heap := s₂.heap, slotsUsed := s₂.slotsUsed } : State).setVm s₂.vm).setTop { g with pc := g.pc + len₂, stack := v.toList ++ g.stack } := by
      refine e3.trans ?_
      rw [hf₂, State.calling_eq h.top, State.setFrames_setFrames, State.setTop_of_frames _ hr', hr]
      rfl
    have hsame : U.sameButNew ({ U with heap := s₂.heap, slotsUsed := s₂.slotsUsed } : State) L mc ms := by
      refine ⟨?_, q2, q3, q4, q5, q6⟩
      obtain ⟨t, ht, -⟩ := State.frames_cons hr
      show ({ U with heap := s₂.heap, slotsUsed := s₂.slotsUsed } : State) = { U.setFrames U.frames with heap := s₂.heap, slotsUsed := s₂.slotsUsed }
      rw [State.setFrames_self ht]
    subst hg
    refine Or.inl ⟨v, ⟨(({ U with heap := s₂.heap, slotsUsed := s₂.slotsUsed } : State).setVm s₂.vm), Ls ++ L, c0 + mc, s0 + ms⟩,
      ⟨X.admits, X.cas, X.clock, X.frames, X.room, X.hears, X.method, X.code, (X.here.setHeapUsed s₂.heap s₂.slotsUsed).setVm hW'.alike, X.tail, State.WarmedH.trans X.warmed hW', X.limits, X.bytes, X.same.trans (hsame.setVm s.vm)⟩,
      ⟨g, mk, s₂, L, rfl, rfl, hqc, rfl, hL, rfl, rfl⟩, ?_⟩
    show Steps p.tables e below _ ((({ U with heap := s₂.heap, slotsUsed := s₂.slotsUsed } : State).setVm s₂.vm).setTop { g with pc := g.pc + len₂, stack := v.toList ++ g.stack })
    rw [← hs₂]
    exact hsteps
  · obtain ⟨e2, q2, q3, q4, q5, q6⟩ := id hsm
    have e3 : s₂ = ({ (U.calling g mk a).setFrames s₂.frames with heap := s₂.heap, slotsUsed := s₂.slotsUsed } : State).setVm s₂.vm := by
      have : s₂ = ({ s₂ with vm := (U.calling g mk a).vm } : State).setVm s₂.vm := rfl
      rw [e2] at this
      exact this
    have hf₂ : s₂.frames = .throwing q :: .java g :: U.frames.tail := hend
    have hW' : U.WarmedH s₂.vm := hW₂
    have hs₂ : s₂ = ((({ U with heap := s₂.heap, slotsUsed := s₂.slotsUsed } : State).setVm s₂.vm).setTop g).pushFrame (.throwing q) := by
      refine e3.trans ?_
      rw [hf₂, State.calling_eq h.top, State.setFrames_setFrames, State.pushFrame, State.frames_setTop _ hr', State.setTop_of_frames _ hr', State.setFrames_setFrames, hr]
      rfl
    have hsame : U.sameButNew ({ U with heap := s₂.heap, slotsUsed := s₂.slotsUsed } : State) L mc ms := by
      refine ⟨?_, q2, q3, q4, q5, q6⟩
      obtain ⟨t, ht, -⟩ := State.frames_cons hr
      show ({ U with heap := s₂.heap, slotsUsed := s₂.slotsUsed } : State) = { U.setFrames U.frames with heap := s₂.heap, slotsUsed := s₂.slotsUsed }
      rw [State.setFrames_self ht]
    subst hg
    refine Or.inr ⟨q, ⟨(({ U with heap := s₂.heap, slotsUsed := s₂.slotsUsed } : State).setVm s₂.vm), Ls ++ L, c0 + mc, s0 + ms⟩,
      ⟨X.admits, X.cas, X.clock, X.frames, X.room, X.hears, X.method, X.code, (X.here.setHeapUsed s₂.heap s₂.slotsUsed).setVm hW'.alike, X.tail, State.WarmedH.trans X.warmed hW', X.limits, X.bytes, X.same.trans (hsame.setVm s.vm)⟩,
      ⟨g, mk, s₂, L, E, ce, rfl, rfl, hx, hce, hcv, hcl, rfl, hL, rfl, rfl⟩, ?_⟩
    show Steps p.tables e below _ (((({ U with heap := s₂.heap, slotsUsed := s₂.slotsUsed } : State).setVm s₂.vm).setTop g).pushFrame (.throwing q))
    rw [← hs₂]
    exact hsteps
end
variable {p : Program} {l : Launch} {e : Env} {R : Room} {s : State} {m : MethodId} {args : Array Value} {below : List Frame} {meth : Method} {c : Code} {T : State} {H : Heap} {locs : List Loc} {cells slots : Nat}
theorem vx_callVX (X : Stand p l e R s m args below meth c T locs cells slots) (hexec : p.tables.exec = Jvm.exec) {own C : String} {index : Nat} {y : MethodName} {bytes : ByteArray} {maxL : Nat} {ret : Option FieldType} {hh : List (Nat × Nat × Nat × Nat)}
    (hown : s.vm.findClass own = some m.cls) (hlink : (Cond.methodLink own index y).before args s = true) (hinst : (Cond.instanceMethod y).before args s = true) (hsel : (Cond.selects C y y).before args s = true)
    (hcode : (Cond.codeWith y bytes maxL ret hh).before args s = true) (hy : y.cls ≠ "java/lang/invoke/MethodHandle" ∧ y.cls ≠ "java/lang/invoke/VarHandle")
    {W9 : Nat} {Pre : Pt → Array Value → Prop} {Post : Pt → Array Value → Option Value → Pt → Prop} {PostX : Pt → Array Value → Addr → Pt → Prop} (hK : vx_Back l R p e below s args y 3 W9 Pre Post PostX)
    {b : Addr} {cellB : Cell} (hcell : T.heap[b]? = some cellB) (hobj : cellB.vm.isStatics = false) (hcls : s.vm.findClass C = some cellB.cls)
    {g : JFrame} (hg : g.method = m) (hsize : g.locals.size = c.maxLocals) {argsL rest : List Value} (hlen : ∀ sig, parseMethodDescriptor y.desc = some sig → argsL.length = sig.parameters.length)
    (hstack : g.stack = argsL.reverse ++ .ref b :: rest) (hW : 2 * g.monitorRoom + (rest.map fun v => v.category).sum ≤ W9) (hdg : decode c.code g.pc = .ok (.invokevirtual index, 3))
    (hpre : ∀ vm₁, s.WarmedH vm₁ → Pre ⟨T.setVm vm₁, locs, cells, slots⟩ (Value.ref b :: argsL).toArray) :
    (∃ (v : Option Value) (vm₁ : Vm) (B : Pt), s.WarmedH vm₁ ∧ Stand p l e R s m args below meth c B.U B.locs B.cells B.slots ∧ Post ⟨T.setVm vm₁, locs, cells, slots⟩ (Value.ref b :: argsL).toArray v B ∧
      ∀ target, Steps p.tables e below (B.U.setTop { g with pc := g.pc + 3, stack := v.toList ++ rest }) target → Steps p.tables e below (T.setTop g) target) ∨
    (∃ (q : Addr) (vm₁ : Vm) (B : Pt), s.WarmedH vm₁ ∧ Stand p l e R s m args below meth c B.U B.locs B.cells B.slots ∧ PostX ⟨T.setVm vm₁, locs, cells, slots⟩ (Value.ref b :: argsL).toArray q B ∧
      Steps p.tables e below (T.setTop g) ((B.U.setTop { g with stack := rest }).pushFrame (.throwing q))) := by
  obtain ⟨mk, methM, hnamed, hmethM, hstM, habM⟩ := Cond.instanceMethod_spec hinst
  obtain ⟨m8, methM', cM, hn8, hmethM', -, -, -, -, -, -, hsigM⟩ := Cond.codeWith_spec hcode
  cases Option.some.inj (hn8.symm.trans hnamed)
  cases hmethM.symm.trans hmethM'
  obtain ⟨c2, r2, m2, q1, q2, q3, q4, kP, hkP, hkPi⟩ := Cond.selects_spec hsel
  cases hcls.symm.trans q1
  cases (State.methodFound?_of_named hnamed hy).symm.trans q2
  cases hnamed.symm.trans q3
  have hselP : selectMethod e.platform s.vm cellB.cls mk = .method mk := by rw [Launch.admits_selectMethod X.admits]; exact q4
  obtain ⟨vm₁, X₁, hstep₁⟩ := X.invokevirtual hexec hown hlink hnamed hmethM hstM hkP hkPi hy (a := b) (cell := cellB) hcell
    (fun z h => by rw [h] at hobj; cases hobj) hselP hmethM habM hkP hkPi (g := g) hg (argsL := argsL) (rest := rest) (hlen _ hsigM) hstack hdg
  rcases hK m meth c ⟨T.setVm vm₁, locs, cells, slots⟩ { g with stack := rest } (.invokevirtual index) mk (Value.ref b :: argsL).toArray X₁ hg hsize hdg hW (X₁.named hnamed) (hpre vm₁ X₁.warmed) with ⟨v, B, X', hpost, hsteps⟩ | ⟨q, B, X', hpost, hsteps⟩
  · exact Or.inl ⟨v, vm₁, B, X₁.warmed, X', hpost, fun target h => hstep₁ _ fun acts => by rw [doInvoke_state]; exact hsteps.trans h⟩
  · exact Or.inr ⟨q, vm₁, B, X₁.warmed, X', hpost, hstep₁ _ fun acts => by rw [doInvoke_state]; exact hsteps⟩
theorem vx_callSX (X : Stand p l e R s m args below meth c T locs cells slots) (hexec : p.tables.exec = Jvm.exec) {own : String} {index : Nat} {y : MethodName} {bytes : ByteArray} {maxL : Nat} {ret : Option FieldType} {hh : List (Nat × Nat × Nat × Nat)}
    (hown : s.vm.findClass own = some m.cls) (hlink : (Cond.methodLink own index y).before args s = true) (hstat : (Cond.static y).before args s = true) (hinit : (Cond.initialized y.cls).before args s = true)
    (hcode : (Cond.codeWith y bytes maxL ret hh).before args s = true) (hy : y.cls ≠ "java/lang/invoke/MethodHandle" ∧ y.cls ≠ "java/lang/invoke/VarHandle")
    {W9 : Nat} {Pre : Pt → Array Value → Prop} {Post : Pt → Array Value → Option Value → Pt → Prop} {PostX : Pt → Array Value → Addr → Pt → Prop} (hK : vx_Back l R p e below s args y 3 W9 Pre Post PostX)
    {g : JFrame} (hg : g.method = m) (hsize : g.locals.size = c.maxLocals) {argsL rest : List Value} (hlen : ∀ sig, parseMethodDescriptor y.desc = some sig → argsL.length = sig.parameters.length)
    (hstack : g.stack = argsL.reverse ++ rest) (hW : 2 * g.monitorRoom + (rest.map fun v => v.category).sum ≤ W9) (hdg : decode c.code g.pc = .ok (.invokestatic index, 3))
    (hpre : ∀ vm₁, s.WarmedH vm₁ → Pre ⟨T.setVm vm₁, locs, cells, slots⟩ argsL.toArray) :
    (∃ (v : Option Value) (vm₁ : Vm) (B : Pt), s.WarmedH vm₁ ∧ Stand p l e R s m args below meth c B.U B.locs B.cells B.slots ∧ Post ⟨T.setVm vm₁, locs, cells, slots⟩ argsL.toArray v B ∧
      ∀ target, Steps p.tables e below (B.U.setTop { g with pc := g.pc + 3, stack := v.toList ++ rest }) target → Steps p.tables e below (T.setTop g) target) ∨
    (∃ (q : Addr) (vm₁ : Vm) (B : Pt), s.WarmedH vm₁ ∧ Stand p l e R s m args below meth c B.U B.locs B.cells B.slots ∧ PostX ⟨T.setVm vm₁, locs, cells, slots⟩ argsL.toArray q B ∧
      Steps p.tables e below (T.setTop g) ((B.U.setTop { g with stack := rest }).pushFrame (.throwing q))) := by
  obtain ⟨mk, methM, cM, hnamed, hmethM, -, -, -, -, -, -, hsigM⟩ := Cond.codeWith_spec hcode
  have hstatic : methM.isStatic = true := Cond.static_spec hnamed hmethM hstat
  obtain ⟨kP, hkP, -⟩ := className_of_methodNamed hnamed
  have hinitP : kP.init = .initialized := Cond.initialized_spec (findClass_of_methodNamed hnamed) hkP hinit
  obtain ⟨vm₁, X₁, hstep₁⟩ := X.invokestatic hexec hown hlink hnamed hmethM hstatic hkP hinitP hy (g := g) hg (argsL := argsL) (rest := rest) (hlen _ hsigM) hstack hdg
  rcases hK m meth c ⟨T.setVm vm₁, locs, cells, slots⟩ { g with stack := rest } (.invokestatic index) mk argsL.toArray X₁ hg hsize hdg hW (X₁.named hnamed) (hpre vm₁ X₁.warmed) with ⟨v, B, X', hpost, hsteps⟩ | ⟨q, B, X', hpost, hsteps⟩
  · exact Or.inl ⟨v, vm₁, B, X₁.warmed, X', hpost, fun target h => hstep₁ _ fun acts => by rw [doInvoke_state]; exact hsteps.trans h⟩
  · exact Or.inr ⟨q, vm₁, B, X₁.warmed, X', hpost, hstep₁ _ fun acts => by rw [doInvoke_state]; exact hsteps⟩
theorem vx_callVW (X : Stand p l e R s m args below meth c T locs cells slots) (hexec : p.tables.exec = Jvm.exec) {own C : String} {index : Nat} {y : MethodName} {bytes : ByteArray} {maxL : Nat} {ret : Option FieldType} {hh : List (Nat × Nat × Nat × Nat)}
    (hown : s.vm.findClass own = some m.cls) (hlink : (Cond.methodLink own index y).before args s = true) (hinst : (Cond.instanceMethod y).before args s = true) (hsel : (Cond.selects C y y).before args s = true)
    (hcode : (Cond.codeWith y bytes maxL ret hh).before args s = true) (hy : y.cls ≠ "java/lang/invoke/MethodHandle" ∧ y.cls ≠ "java/lang/invoke/VarHandle")
    {W9 : Nat} {Pre : Pt → Array Value → Prop} {Post : Pt → Array Value → Option Value → Pt → Prop} (hK : Back l R p e below s args y 3 W9 Pre Post)
    {b : Addr} {cellB : Cell} (hcell : T.heap[b]? = some cellB) (hobj : cellB.vm.isStatics = false) (hcls : s.vm.findClass C = some cellB.cls)
    {g : JFrame} (hg : g.method = m) (hsize : g.locals.size = c.maxLocals) {argsL rest : List Value} (hlen : ∀ sig, parseMethodDescriptor y.desc = some sig → argsL.length = sig.parameters.length)
    (hstack : g.stack = argsL.reverse ++ .ref b :: rest) (hW : 2 * g.monitorRoom + (rest.map fun v => v.category).sum ≤ W9) (hdg : decode c.code g.pc = .ok (.invokevirtual index, 3))
    (hpre : ∀ vm₁, s.WarmedH vm₁ → Pre ⟨T.setVm vm₁, locs, cells, slots⟩ (Value.ref b :: argsL).toArray) :
    ∃ (v : Option Value) (vm₁ : Vm) (B : Pt), s.WarmedH vm₁ ∧ Stand p l e R s m args below meth c B.U B.locs B.cells B.slots ∧ Post ⟨T.setVm vm₁, locs, cells, slots⟩ (Value.ref b :: argsL).toArray v B ∧
      ∀ target, Steps p.tables e below (B.U.setTop { g with pc := g.pc + 3, stack := v.toList ++ rest }) target → Steps p.tables e below (T.setTop g) target := by
  obtain ⟨mk, methM, hnamed, hmethM, hstM, habM⟩ := Cond.instanceMethod_spec hinst
  obtain ⟨m8, methM', cM, hn8, hmethM', -, -, -, -, -, -, hsigM⟩ := Cond.codeWith_spec hcode
  cases Option.some.inj (hn8.symm.trans hnamed)
  cases hmethM.symm.trans hmethM'
  obtain ⟨c2, r2, m2, q1, q2, q3, q4, kP, hkP, hkPi⟩ := Cond.selects_spec hsel
  cases hcls.symm.trans q1
  cases (State.methodFound?_of_named hnamed hy).symm.trans q2
  cases hnamed.symm.trans q3
  have hselP : selectMethod e.platform s.vm cellB.cls mk = .method mk := by rw [Launch.admits_selectMethod X.admits]; exact q4
  obtain ⟨vm₁, X₁, hstep₁⟩ := X.invokevirtual hexec hown hlink hnamed hmethM hstM hkP hkPi hy (a := b) (cell := cellB) hcell
    (fun z h => by rw [h] at hobj; cases hobj) hselP hmethM habM hkP hkPi (g := g) hg (argsL := argsL) (rest := rest) (hlen _ hsigM) hstack hdg
  obtain ⟨v, B, X', hpost, hsteps⟩ := hK m meth c ⟨T.setVm vm₁, locs, cells, slots⟩ { g with stack := rest } (.invokevirtual index) mk (Value.ref b :: argsL).toArray X₁ hg hsize hdg hW (X₁.named hnamed) (hpre vm₁ X₁.warmed)
  exact ⟨v, vm₁, B, X₁.warmed, X', hpost, fun target h => hstep₁ _ fun acts => by rw [doInvoke_state]; exact hsteps.trans h⟩
abbrev vx_CVW (R : Room) (s : State) (args : Array Value) (own C : String) (index : Nat) (y : MethodName) (bytes : ByteArray) (maxL : Nat) (ret : Option FieldType) (hh : List (Nat × Nat × Nat × Nat)) (ws : List Cond) (rm : Room) (mc ms n : Nat) : Prop :=
  (rm.cells = mc ∧ rm.slots = ms ∧ rm.frames + 1 ≤ R.frames ∧ 8 + (maxL + 11) + rm.locals ≤ R.locals ∧ (∀ w ∈ ws, ∀ (a' : Array Value) (U : State), s.WarmedH U.vm → w.before a' U = true) ∧ Cond.codeWith y bytes maxL ret hh ∈ ws) ∧
  (Cond.codeWith y bytes maxL ret hh).before args s = true ∧ (Cond.initialized y.cls).before args s = true ∧ (y.cls ≠ "java/lang/invoke/MethodHandle" ∧ y.cls ≠ "java/lang/invoke/VarHandle") ∧
  (∀ sig, parseMethodDescriptor y.desc = some sig → n = sig.parameters.length) ∧ (Cond.methodLink own index y).before args s = true ∧ (Cond.instanceMethod y).before args s = true ∧ (Cond.selects C y y).before args s = true
theorem vx_cwVW {own C : String} {index maxL mc ms : Nat} {y : MethodName} {bytes : ByteArray} {ret : Option FieldType} {hh : List (Nat × Nat × Nat × Nat)} {Ts ws ws' : List Cond} {rm : Room} (n : Nat) (ht : ∀ w ∈ Ts, w.before args s = true) (hT : GoodIn Ts (wsV own index C y ws)) (hw : ws = Cond.codeWith y bytes maxL ret hh :: ws') (hrc : rm.cells = mc) (hrs : rm.slots = ms)
    (hd : y.cls = C ∧ y.cls ≠ "java/lang/invoke/MethodHandle" ∧ y.cls ≠ "java/lang/invoke/VarHandle" ∧ (parseMethodDescriptor y.desc).map (fun d => d.parameters.length) = some n) (hR : rm.frames + 1 ≤ R.frames ∧ 8 + (maxL + 11) + rm.locals ≤ R.locals) :
    vx_CVW R s args own C index y bytes maxL ret hh ws rm mc ms n := by
  obtain ⟨hC, hd⟩ := hd
  subst hC
  have ok : ∀ w ∈ wsV own index y.cls y ws, w.before args s = true := fun w h => ht w (hT w h).1
  have hG : GoodIn Ts ws := fun w h => hT w (by unfold wsV; exact List.mem_append_right _ h)
  have hc : Cond.codeWith y bytes maxL ret hh ∈ ws := by rw [hw]; exact List.mem_cons_self
  refine ⟨⟨hrc, hrs, hR.1, hR.2, pay_in ht hG, hc⟩, ht _ (hG _ hc).1, ok _ (by simp [wsV]), ⟨hd.1, hd.2.1⟩, fun sig h => ?_, ok _ (by simp [wsV]), ok _ (by simp [wsV]), ok _ (by simp [wsV])⟩
  have h2 := hd.2.2
  rw [h] at h2
  exact (Option.some.inj h2).symm
theorem vx_runVW {y : MethodName} {bytes cc : ByteArray} {maxL nL mc ms n index : Nat} {ret : Option FieldType} {hh : List (Nat × Nat × Nat × Nat)} {ws : List Cond} {rm : Room} {Pc : Array Value → State → Prop} {Qc : Array Value → State → Outcome → State → Prop} {free : Addr → Prop} {Ts : List Cond} {own C : String} {b : Addr} {As rest : List Value} {g : JFrame}
    (S : CallFix p m c cc nL s args Ts own) (hM : Met l y ws rm Pc Qc mc ms free) (cw : vx_CVW R s args own C index y bytes maxL ret hh ws rm mc ms n) (hp : PreV s H C b Pc As)
    (hg : g.method = m) (hn : As.length = n) (hsize : g.locals.size = nL) (hstack : g.stack = As.reverse ++ .ref b :: rest) (hW : 2 * g.monitorRoom + (rest.map fun v => v.category).sum ≤ 8) (hdg : decode cc g.pc = .ok (.invokevirtual index, 3)) (hf : cells + mc ≤ R.cells ∧ slots + ms ≤ R.slots) :
    va_Run p l e R s m args below meth c H locs cells slots mc ms g rest (Qc (Value.ref b :: As).toArray) free := by
  obtain ⟨⟨hrc, hrs, hfr, hlo, hws, hcw⟩, hcode, hini, hy, hlen, hl, hin, hse⟩ := cw
  have hK : Back l R p e below s args y 3 8 (PreOf R mc ms Pc) (PostOf Qc mc ms free) := va_backW (hh := hh) (bytes := bytes) (maxL := maxL) (ret := ret) hM hp.1 hrc hrs hfr hlo hws hcw (fun a' U hW => word_at hW (Or.inl (by first | rfl | simp [Cond.onTables, Cond.keeps, Cond.steady])) hini)
  obtain ⟨hx, hb, hml, ho, -⟩ := S
  obtain ⟨-, ⟨cellB, hcB, hoB, hclB⟩, hPc⟩ := hp
  intro T hT X
  obtain ⟨v, vm₁, ⟨U', l2, c2, s2⟩, hW₁, X', ⟨g', mk, t, L, e1, e2, hq, h1, hL, h2, h3⟩, st⟩ := vx_callVW X hx (C := C) (hh := hh) (bytes := bytes) (maxL := maxL) (ret := ret) ho hl hin hse hcode hy hK (by rw [hT]; exact hcB) hoB hclB hg (hsize.trans hml.symm) (argsL := As) (rest := rest) (fun sig h => hn.trans (hlen sig h)) hstack hW (by rw [hb]; exact hdg)
    (fun vm₁ hW₁ => ⟨hf.1, hf.2, hPc (T.setVm vm₁) hT hW₁⟩)
  dsimp only [Pt.U, Pt.locs, Pt.cells, Pt.slots] at X' e1 e2 h1 h2 h3 st
  subst h1; subst h2; subst h3
  exact ⟨v, (T.setVm vm₁).calling g' mk (Value.ref b :: As).toArray, t, U', L, hT, X', hL, e1, e2, hq, st⟩
section
variable {y : MethodName} {bytes cc : ByteArray} {maxL nL mc ms n index : Nat} {ret : Option FieldType} {ws : List Cond} {rm : Room} {Pc : Array Value → State → Prop} {Qc : Array Value → State → Outcome → State → Prop} {XC : String → State → State → Prop} {free : Addr → Prop} {Ts : List Cond} {own C : String} {b : Addr} {As rest : List Value} {g : JFrame}
theorem vx_runVX {hh : List (Nat × Nat × Nat × Nat)} (S : CallFix p m c cc nL s args Ts own) (hM : vx_Met l y ws rm Pc Qc XC mc ms free) (cw : vx_CVW R s args own C index y bytes maxL ret hh ws rm mc ms n) (hp : PreV s H C b Pc As)
    (hg : g.method = m) (hn : As.length = n) (hsize : g.locals.size = nL) (hstack : g.stack = As.reverse ++ .ref b :: rest) (hW : 2 * g.monitorRoom + (rest.map fun v => v.category).sum ≤ 8) (hdg : decode cc g.pc = .ok (.invokevirtual index, 3)) (hf : cells + mc ≤ R.cells ∧ slots + ms ≤ R.slots) :
    vx_Run p l e R s m args below meth c H locs cells slots mc ms g rest (Qc (Value.ref b :: As).toArray) XC free := by
  obtain ⟨⟨hrc, hrs, hfr, hlo, hws, hcw⟩, hcode, hini, hy, hlen, hl, hin, hse⟩ := cw
  have hK : vx_Back l R p e below s args y 3 8 (PreOf R mc ms Pc) (PostOf Qc mc ms free) (vx_Post XC mc ms free) := vx_backW (hh := hh) (bytes := bytes) (maxL := maxL) (ret := ret) hM hp.1 hrc hrs hfr hlo hws hcw (fun a' U hW => word_at hW (Or.inl (by first | rfl | simp [Cond.onTables, Cond.keeps, Cond.steady])) hini)
  obtain ⟨hx, hb, hml, ho, -⟩ := S
  obtain ⟨-, ⟨cellB, hcB, hoB, hclB⟩, hPc⟩ := hp
  intro T hT X
  rcases vx_callVX X hx (C := C) (hh := hh) (bytes := bytes) (maxL := maxL) (ret := ret) ho hl hin hse hcode hy hK (by rw [hT]; exact hcB) hoB hclB hg (hsize.trans hml.symm) (argsL := As) (rest := rest) (fun sig h => hn.trans (hlen sig h)) hstack hW (by rw [hb]; exact hdg)
    (fun vm₁ hW₁ => ⟨hf.1, hf.2, hPc (T.setVm vm₁) hT hW₁⟩) with ⟨v, vm₁, ⟨U', l2, c2, s2⟩, hW₁, X', ⟨g', mk, t, L, e1, e2, hq, h1, hL, h2, h3⟩, st⟩ | ⟨q, vm₁, ⟨U', l2, c2, s2⟩, hW₁, X', ⟨g', mk, t, L, E, ce, e1, e2, hq, hce, hcv, hcl, h1, hL, h2, h3⟩, st⟩
  · dsimp only [Pt.U, Pt.locs, Pt.cells, Pt.slots] at X' e1 e2 h1 h2 h3 st
    subst h1; subst h2; subst h3
    exact Or.inl ⟨v, (T.setVm vm₁).calling g' mk (Value.ref b :: As).toArray, t, U', L, hT, X', hL, e1, e2, hq, st⟩
  · dsimp only [Pt.U, Pt.locs, Pt.cells, Pt.slots] at X' e1 e2 h1 h2 h3 st hcl
    subst h1; subst h2; subst h3
    exact Or.inr ⟨q, (T.setVm vm₁).calling g' mk (Value.ref b :: As).toArray, t, U', L, E, ce, hT, X', hL, e1, e2, hq, hce, hcv, vx_cls hW₁ hcl, st⟩
theorem vx_runSX {hh : List (Nat × Nat × Nat × Nat)} (S : CallFix p m c cc nL s args Ts own) (hM : vx_Met l y ws rm Pc Qc XC mc ms free) (cw : vx_CSW R s args own index y bytes maxL ret hh ws rm mc ms n) (hp : PreS s H Pc As)
    (hg : g.method = m) (hn : As.length = n) (hsize : g.locals.size = nL) (hstack : g.stack = As.reverse ++ rest) (hW : 2 * g.monitorRoom + (rest.map fun v => v.category).sum ≤ 8) (hdg : decode cc g.pc = .ok (.invokestatic index, 3)) (hf : cells + mc ≤ R.cells ∧ slots + ms ≤ R.slots) :
    vx_Run p l e R s m args below meth c H locs cells slots mc ms g rest (Qc As.toArray) XC free := by
  obtain ⟨⟨hrc, hrs, hfr, hlo, hws, hcw⟩, hcode, hini, hy, hlen, hl, hstt⟩ := cw
  have hK : vx_Back l R p e below s args y 3 8 (PreOf R mc ms Pc) (PostOf Qc mc ms free) (vx_Post XC mc ms free) := vx_backW (hh := hh) (bytes := bytes) (maxL := maxL) (ret := ret) hM hp.1 hrc hrs hfr hlo hws hcw (fun a' U hW => word_at hW (Or.inl (by first | rfl | simp [Cond.onTables, Cond.keeps, Cond.steady])) hini)
  obtain ⟨hx, hb, hml, ho, -⟩ := S
  intro T hT X
  rcases vx_callSX X hx (hh := hh) (bytes := bytes) (maxL := maxL) (ret := ret) ho hl hstt hini hcode hy hK hg (hsize.trans hml.symm) (argsL := As) (rest := rest) (fun sig h => hn.trans (hlen sig h)) hstack hW (by rw [hb]; exact hdg)
    (fun vm₁ hW₁ => ⟨hf.1, hf.2, hp.2 (T.setVm vm₁) hT hW₁⟩) with ⟨v, vm₁, ⟨U', l2, c2, s2⟩, hW₁, X', ⟨g', mk, t, L, e1, e2, hq, h1, hL, h2, h3⟩, st⟩ | ⟨q, vm₁, ⟨U', l2, c2, s2⟩, hW₁, X', ⟨g', mk, t, L, E, ce, e1, e2, hq, hce, hcv, hcl, h1, hL, h2, h3⟩, st⟩
  · dsimp only [Pt.U, Pt.locs, Pt.cells, Pt.slots] at X' e1 e2 h1 h2 h3 st
    subst h1; subst h2; subst h3
    exact Or.inl ⟨v, (T.setVm vm₁).calling g' mk As.toArray, t, U', L, hT, X', hL, e1, e2, hq, st⟩
  · dsimp only [Pt.U, Pt.locs, Pt.cells, Pt.slots] at X' e1 e2 h1 h2 h3 st hcl
    subst h1; subst h2; subst h3
    exact Or.inr ⟨q, (T.setVm vm₁).calling g' mk As.toArray, t, U', L, E, ce, hT, X', hL, e1, e2, hq, hce, hcv, vx_cls hW₁ hcl, st⟩
end
end VXH
theorem vx_ofWH {l : Launch} {y : MethodName} {ws ws' : List Cond} {rm : Room} {Pc : Array Value → State → Prop} {Qc : Array Value → State → Outcome → State → Prop} {XC : String → State → State → Prop} {mc ms : Nat} {free : Addr → Prop} {cc : ByteArray} {maxL : Nat} {ret : Option FieldType} {hh : List (Nat × Nat × Nat × Nat)}
    (hy : plainName y.cls = true) (hw : ws = Cond.codeWith y cc maxL ret hh :: ws')
    (body : ∀ p e s m args below meth c s₁, BodyLoose p l y (headSpec ws rm) cc maxL ret e s m args below meth c s₁ → c.maxLocals = maxL → Pc args s →
      W p l e (headSpec ws rm).room s m args below meth c s.heap [] 0 0 (vx_MQ below Qc XC args s mc ms free) (entryFrame m args maxL)) : vx_Met l y ws rm Pc Qc XC mc ms free := by
  refine MetFree.of_bodyS (code := cc) (maxLocals := maxL) (ret := ret) hy ?_ ?_
  · intro args s m h hn
    obtain ⟨m9, meth, c, hn9, h1, h2, h3, h4, -, h5, h6, -⟩ := Cond.codeWith_spec (atoms_spec (ws := ws) h _ (by rw [hw]; exact List.mem_cons_self))
    cases hn.symm.trans hn9
    exact ⟨meth, c, h1, h2, h3, h4, h5, h6⟩
  · intro p e s m args below meth c s₁ B hml hP _
    have hh0 : s₁.heap = s.heap := by rw [B.state]; rfl
    obtain ⟨t, a1, o, b1, b2, b3⟩ := body p e s m args below meth c s₁ B hml hP s₁ hh0 (Stand.of_body B)
    exact ⟨t, o, a1, b1, b2, b3⟩
/-! ===== END ===== -/

/-! ===== BEGIN printed: names, fields, word lists, decode rows ===== -/
def RX0 : String := "Threetwo$Buffer"
def TX0 : u_T := fun k => match k with
  | 0 => ("Threetwo$Buffer", "sizes", "LThreetwo$Row;", true)
  | _ => ("Threetwo$Buffer", "rateNow", "I", false)
def tyX0 : Nat → FieldType := fun k => match k with
  | 0 => .object "Threetwo$Row"
  | _ => .int
abbrev wsX00 : List Cond := u_ws RX0 TX0 2
theorem nmX0 : ∀ a, a < 2 → ∀ b, b < 2 → a ≠ b → (TX0 a).2.1 ≠ (TX0 b).2.1 := by decide +kernel
theorem tyX0_ok : ∀ k, k < 2 → parseFieldDescriptor (TX0 k).2.2.1 = some (tyX0 k) := by decide +kernel
abbrev cX0_init : ByteArray := prog_2_method_1_code
def yX0_init : MethodName := ⟨RX0, "<init>", "()V"⟩
abbrev cX0_firstDry : ByteArray := prog_2_method_2_code
def yX0_firstDry : MethodName := ⟨RX0, "firstDry", "(I)I"⟩
abbrev cX0_leastDelay : ByteArray := prog_2_method_3_code
def yX0_leastDelay : MethodName := ⟨RX0, "leastDelay", "()I"⟩
abbrev cX0_peak : ByteArray := prog_2_method_4_code
def yX0_peak : MethodName := ⟨RX0, "peak", "()I"⟩
abbrev cX0_cameIn : ByteArray := prog_2_method_5_code
def yX0_cameIn : MethodName := ⟨RX0, "cameIn", "(II)I"⟩
abbrev cX0_sumOfSizes : ByteArray := prog_2_method_6_code
def yX0_sumOfSizes : MethodName := ⟨RX0, "sumOfSizes", "()I"⟩
def RX1 : String := "Threetwo$Labels"
def TX1 : u_T := fun k => match k with
  | _ => ("", "", "", false)
def tyX1 : Nat → FieldType := fun k => match k with
  | _ => .int
abbrev wsX10 : List Cond := u_ws RX1 TX1 0
theorem nmX1 : ∀ a, a < 0 → ∀ b, b < 0 → a ≠ b → (TX1 a).2.1 ≠ (TX1 b).2.1 := by decide +kernel
theorem tyX1_ok : ∀ k, k < 0 → parseFieldDescriptor (TX1 k).2.2.1 = some (tyX1 k) := by decide +kernel
abbrev cX1_labelOf : ByteArray := prog_3_method_2_code
def yX1_labelOf : MethodName := ⟨RX1, "labelOf", "(I)I"⟩
abbrev cX1_pictureOf : ByteArray := prog_3_method_3_code
def yX1_pictureOf : MethodName := ⟨RX1, "pictureOf", "(I)I"⟩
abbrev cX1_goesBack : ByteArray := prog_3_method_4_code
def yX1_goesBack : MethodName := ⟨RX1, "goesBack", "(I)Z"⟩
abbrev cX1_isLeftOut : ByteArray := prog_3_method_5_code
def yX1_isLeftOut : MethodName := ⟨RX1, "isLeftOut", "(III)Z"⟩
def RX2 : String := "Threetwo$Prints"
def TX2 : u_T := fun k => match k with
  | 0 => ("Threetwo$Prints", "rows", "[LThreetwo$Row;", true)
  | 1 => ("Threetwo$Prints", "behind", "[I", true)
  | 2 => ("Threetwo$Prints", "signs", "[C", true)
  | _ => ("Threetwo$Prints", "many", "I", false)
def tyX2 : Nat → FieldType := fun k => match k with
  | 0 => .array (.object "Threetwo$Row")
  | 1 => .array .int
  | 2 => .array .char
  | _ => .int
abbrev wsX20 : List Cond := u_ws RX2 TX2 4
theorem nmX2 : ∀ a, a < 4 → ∀ b, b < 4 → a ≠ b → (TX2 a).2.1 ≠ (TX2 b).2.1 := by decide +kernel
theorem tyX2_ok : ∀ k, k < 4 → parseFieldDescriptor (TX2 k).2.2.1 = some (tyX2 k) := by decide +kernel
abbrev cX2_init : ByteArray := prog_4_method_1_code
def yX2_init : MethodName := ⟨RX2, "<init>", "()V"⟩
abbrev cX2_begin : ByteArray := prog_4_method_2_code
def yX2_begin : MethodName := ⟨RX2, "begin", "()I"⟩
abbrev cX2_has : ByteArray := prog_4_method_3_code
def yX2_has : MethodName := ⟨RX2, "has", "(I)Z"⟩
abbrev cX2_row : ByteArray := prog_4_method_4_code
def yX2_row : MethodName := ⟨RX2, "row", "(I)LThreetwo$Row;"⟩
abbrev cX2_distance : ByteArray := prog_4_method_5_code
def yX2_distance : MethodName := ⟨RX2, "distance", "(II)I"⟩
abbrev cX2_layOut : ByteArray := prog_4_method_6_code
def yX2_layOut : MethodName := ⟨RX2, "layOut", "(II)I"⟩
abbrev cX2_leastFrom : ByteArray := prog_4_method_7_code
def yX2_leastFrom : MethodName := ⟨RX2, "leastFrom", "(LThreetwo$Row;LThreetwo$Row;II)I"⟩
abbrev cX2_signAt : ByteArray := prog_4_method_8_code
def yX2_signAt : MethodName := ⟨RX2, "signAt", "(LThreetwo$Row;LThreetwo$Row;II)C"⟩
abbrev cX2_together : ByteArray := prog_4_method_9_code
def yX2_together : MethodName := ⟨RX2, "together", "(II)I"⟩
def RX3 : String := "Threetwo$Rhythm"
def TX3 : u_T := fun k => match k with
  | 0 => ("Threetwo$Rhythm", "behind", "[I", true)
  | 1 => ("Threetwo$Rhythm", "places", "[I", true)
  | 2 => ("Threetwo$Rhythm", "frameOf", "[I", true)
  | 3 => ("Threetwo$Rhythm", "firsts", "[I", true)
  | 4 => ("Threetwo$Rhythm", "lengths", "[I", true)
  | 5 => ("Threetwo$Rhythm", "frameLooks", "[I", true)
  | 6 => ("Threetwo$Rhythm", "cost", "I", false)
  | 7 => ("Threetwo$Rhythm", "frames", "I", false)
  | _ => ("Threetwo$Rhythm", "known", "Z", false)
def tyX3 : Nat → FieldType := fun k => match k with
  | 0 => .array .int
  | 1 => .array .int
  | 2 => .array .int
  | 3 => .array .int
  | 4 => .array .int
  | 5 => .array .int
  | 6 => .int
  | 7 => .int
  | _ => .boolean
abbrev wsX30 : List Cond := u_ws RX3 TX3 9
theorem nmX3 : ∀ a, a < 9 → ∀ b, b < 9 → a ≠ b → (TX3 a).2.1 ≠ (TX3 b).2.1 := by decide +kernel
theorem tyX3_ok : ∀ k, k < 9 → parseFieldDescriptor (TX3 k).2.2.1 = some (tyX3 k) := by decide +kernel
abbrev cX3_init : ByteArray := prog_5_method_1_code
def yX3_init : MethodName := ⟨RX3, "<init>", "()V"⟩
abbrev cX3_forget : ByteArray := prog_5_method_2_code
def yX3_forget : MethodName := ⟨RX3, "forget", "()V"⟩
abbrev cX3_find : ByteArray := prog_5_method_3_code
def yX3_find : MethodName := ⟨RX3, "find", "(LThreetwo$Row;I)V"⟩
abbrev cX3_leastCost : ByteArray := prog_5_method_4_code
def yX3_leastCost : MethodName := ⟨RX3, "leastCost", "(LThreetwo$Row;I)I"⟩
abbrev cX3_tracePath : ByteArray := prog_5_method_5_code
def yX3_tracePath : MethodName := ⟨RX3, "tracePath", "(LThreetwo$Row;I)V"⟩
abbrev cX3_bestFirst : ByteArray := prog_5_method_6_code
def yX3_bestFirst : MethodName := ⟨RX3, "bestFirst", "()I"⟩
abbrev cX3_bestNext : ByteArray := prog_5_method_7_code
def yX3_bestNext : MethodName := ⟨RX3, "bestNext", "(IIZI)I"⟩
abbrev cX3_step : ByteArray := prog_5_method_8_code
def yX3_step : MethodName := ⟨RX3, "step", "(IIZI)I"⟩
abbrev cX3_beginsFrame : ByteArray := prog_5_method_9_code
def yX3_beginsFrame : MethodName := ⟨RX3, "beginsFrame", "(I)Z"⟩
abbrev cX3_gatherFrames : ByteArray := prog_5_method_10_code
def yX3_gatherFrames : MethodName := ⟨RX3, "gatherFrames", "(I)V"⟩
abbrev cX3_commonLook : ByteArray := prog_5_method_11_code
def yX3_commonLook : MethodName := ⟨RX3, "commonLook", "(LThreetwo$Row;II)I"⟩
abbrev cX3_timesOf : ByteArray := prog_5_method_12_code
def yX3_timesOf : MethodName := ⟨RX3, "timesOf", "(ILThreetwo$Row;II)I"⟩
def RX4 : String := "Threetwo$Row"
def TX4 : u_T := fun k => match k with
  | 0 => ("Threetwo$Row", "items", "[I", true)
  | _ => ("Threetwo$Row", "told", "I", false)
def tyX4 : Nat → FieldType := fun k => match k with
  | 0 => .array .int
  | _ => .int
abbrev wsX40 : List Cond := u_ws RX4 TX4 2
theorem nmX4 : ∀ a, a < 2 → ∀ b, b < 2 → a ≠ b → (TX4 a).2.1 ≠ (TX4 b).2.1 := by decide +kernel
theorem tyX4_ok : ∀ k, k < 2 → parseFieldDescriptor (TX4 k).2.2.1 = some (tyX4 k) := by decide +kernel
abbrev cX4_init : ByteArray := prog_6_method_1_code
def yX4_init : MethodName := ⟨RX4, "<init>", "(I)V"⟩
abbrev cX4_many : ByteArray := prog_6_method_2_code
def yX4_many : MethodName := ⟨RX4, "many", "()I"⟩
abbrev cX4_has : ByteArray := prog_6_method_3_code
def yX4_has : MethodName := ⟨RX4, "has", "(I)Z"⟩
abbrev cX4_at : ByteArray := prog_6_method_4_code
def yX4_at : MethodName := ⟨RX4, "at", "(I)I"⟩
abbrev cX4_add : ByteArray := prog_6_method_5_code
def yX4_add : MethodName := ⟨RX4, "add", "(I)I"⟩
abbrev cX4_put : ByteArray := prog_6_method_6_code
def yX4_put : MethodName := ⟨RX4, "put", "(II)V"⟩
abbrev cX4_clear : ByteArray := prog_6_method_7_code
def yX4_clear : MethodName := ⟨RX4, "clear", "()V"⟩
abbrev cX4_remove : ByteArray := prog_6_method_8_code
def yX4_remove : MethodName := ⟨RX4, "remove", "(II)V"⟩
def RX5 : String := "Threetwo$Strip"
def TX5 : u_T := fun k => match k with
  | 0 => ("Threetwo$Strip", "looks", "LThreetwo$Row;", true)
  | 1 => ("Threetwo$Strip", "rest", "LThreetwo$Row;", true)
  | 2 => ("Threetwo$Strip", "noteFields", "[I", true)
  | 3 => ("Threetwo$Strip", "noteLooks", "[I", true)
  | 4 => ("Threetwo$Strip", "signs", "[C", true)
  | _ => ("Threetwo$Strip", "notes", "I", false)
def tyX5 : Nat → FieldType := fun k => match k with
  | 0 => .object "Threetwo$Row"
  | 1 => .object "Threetwo$Row"
  | 2 => .array .int
  | 3 => .array .int
  | 4 => .array .char
  | _ => .int
abbrev wsX50 : List Cond := u_ws RX5 TX5 6
theorem nmX5 : ∀ a, a < 6 → ∀ b, b < 6 → a ≠ b → (TX5 a).2.1 ≠ (TX5 b).2.1 := by decide +kernel
theorem tyX5_ok : ∀ k, k < 6 → parseFieldDescriptor (TX5 k).2.2.1 = some (tyX5 k) := by decide +kernel
abbrev cX5_init : ByteArray := prog_7_method_1_code
def yX5_init : MethodName := ⟨RX5, "<init>", "()V"⟩
abbrev cX5_pullDown : ByteArray := prog_7_method_2_code
def yX5_pullDown : MethodName := ⟨RX5, "pullDown", "(LThreetwo$Row;I)V"⟩
abbrev cX5_cutOut : ByteArray := prog_7_method_3_code
def yX5_cutOut : MethodName := ⟨RX5, "cutOut", "(II)V"⟩
abbrev cX5_note : ByteArray := prog_7_method_4_code
def yX5_note : MethodName := ⟨RX5, "note", "(II)V"⟩
abbrev cX5_takeBack : ByteArray := prog_7_method_5_code
def yX5_takeBack : MethodName := ⟨RX5, "takeBack", "()I"⟩
abbrev cX5_isNoted : ByteArray := prog_7_method_6_code
def yX5_isNoted : MethodName := ⟨RX5, "isNoted", "(I)Z"⟩
abbrev cX5_nameLooks : ByteArray := prog_7_method_8_code
def yX5_nameLooks : MethodName := ⟨RX5, "nameLooks", "()I"⟩
abbrev cX5_firstLike : ByteArray := prog_7_method_9_code
def yX5_firstLike : MethodName := ⟨RX5, "firstLike", "(I)I"⟩
def RX6 : String := "Threetwo"
def TX6 : u_T := fun k => match k with
  | 0 => ("Threetwo", "reel", "LThreetwo$Row;", true)
  | 1 => ("Threetwo", "strip", "LThreetwo$Strip;", true)
  | 2 => ("Threetwo", "rhythm", "LThreetwo$Rhythm;", true)
  | 3 => ("Threetwo", "prints", "LThreetwo$Prints;", true)
  | 4 => ("Threetwo", "buffer", "LThreetwo$Buffer;", true)
  | 5 => ("Threetwo", "changeNow", "I", false)
  | _ => ("Threetwo", "refused", "I", false)
def tyX6 : Nat → FieldType := fun k => match k with
  | 0 => .object "Threetwo$Row"
  | 1 => .object "Threetwo$Strip"
  | 2 => .object "Threetwo$Rhythm"
  | 3 => .object "Threetwo$Prints"
  | 4 => .object "Threetwo$Buffer"
  | 5 => .int
  | _ => .int
abbrev wsX60 : List Cond := u_ws RX6 TX6 7
theorem nmX6 : ∀ a, a < 7 → ∀ b, b < 7 → a ≠ b → (TX6 a).2.1 ≠ (TX6 b).2.1 := by decide +kernel
theorem tyX6_ok : ∀ k, k < 7 → parseFieldDescriptor (TX6 k).2.2.1 = some (tyX6 k) := by decide +kernel
abbrev cX6_init : ByteArray := prog_1_method_1_code
def yX6_init : MethodName := ⟨RX6, "<init>", "()V"⟩
abbrev cX6_frame : ByteArray := prog_1_method_2_code
def yX6_frame : MethodName := ⟨RX6, "frame", "(I)I"⟩
abbrev cX6_pull : ByteArray := prog_1_method_3_code
def yX6_pull : MethodName := ⟨RX6, "pull", "(I)I"⟩
abbrev cX6_cut : ByteArray := prog_1_method_4_code
def yX6_cut : MethodName := ⟨RX6, "cut", "(II)I"⟩
abbrev cX6_spoil : ByteArray := prog_1_method_5_code
def yX6_spoil : MethodName := ⟨RX6, "spoil", "(II)I"⟩
abbrev cX6_heal : ByteArray := prog_1_method_6_code
def yX6_heal : MethodName := ⟨RX6, "heal", "()I"⟩
abbrev cX6_change : ByteArray := prog_1_method_7_code
def yX6_change : MethodName := ⟨RX6, "change", "(I)I"⟩
abbrev cX6_print : ByteArray := prog_1_method_8_code
def yX6_print : MethodName := ⟨RX6, "print", "()I"⟩
abbrev cX6_look : ByteArray := prog_1_method_9_code
def yX6_look : MethodName := ⟨RX6, "look", "(II)I"⟩
abbrev cX6_rate : ByteArray := prog_1_method_10_code
def yX6_rate : MethodName := ⟨RX6, "rate", "(I)I"⟩
abbrev cX6_size : ByteArray := prog_1_method_11_code
def yX6_size : MethodName := ⟨RX6, "size", "(I)I"⟩
abbrev cX6_ofField : ByteArray := prog_1_method_13_code
def yX6_ofField : MethodName := ⟨RX6, "ofField", "(II)I"⟩
abbrev cX6_found : ByteArray := prog_1_method_14_code
def yX6_found : MethodName := ⟨RX6, "found", "(II)I"⟩
abbrev cX6_apart : ByteArray := prog_1_method_16_code
def yX6_apart : MethodName := ⟨RX6, "apart", "(II)I"⟩
abbrev cX6_house : ByteArray := prog_1_method_18_code
def yX6_house : MethodName := ⟨RX6, "house", "(I)I"⟩
abbrev cX6_label : ByteArray := prog_1_method_20_code
def yX6_label : MethodName := ⟨RX6, "label", "(I)I"⟩
abbrev cX6_picture : ByteArray := prog_1_method_21_code
def yX6_picture : MethodName := ⟨RX6, "picture", "(I)I"⟩
abbrev cX6_dry : ByteArray := prog_1_method_22_code
def yX6_dry : MethodName := ⟨RX6, "dry", "(I)I"⟩
abbrev cX6_isSound : ByteArray := prog_1_method_24_code
def yX6_isSound : MethodName := ⟨RX6, "isSound", "()Z"⟩
abbrev cX6_digest : ByteArray := prog_1_method_25_code
def yX6_digest : MethodName := ⟨RX6, "digest", "()J"⟩
abbrev cX6_requireLook : ByteArray := prog_1_method_26_code
def yX6_requireLook : MethodName := ⟨RX6, "requireLook", "(I)V"⟩
abbrev cX6_requireField : ByteArray := prog_1_method_27_code
def yX6_requireField : MethodName := ⟨RX6, "requireField", "(I)V"⟩
abbrev cX6_requirePrint : ByteArray := prog_1_method_28_code
def yX6_requirePrint : MethodName := ⟨RX6, "requirePrint", "(I)V"⟩
abbrev cX6_printsAreSound : ByteArray := prog_1_method_30_code
def yX6_printsAreSound : MethodName := ⟨RX6, "printsAreSound", "()Z"⟩
abbrev cX6_pairIsSound : ByteArray := prog_1_method_31_code
def yX6_pairIsSound : MethodName := ⟨RX6, "pairIsSound", "(II)Z"⟩
abbrev cX6_bufferIsSound : ByteArray := prog_1_method_32_code
def yX6_bufferIsSound : MethodName := ⟨RX6, "bufferIsSound", "()Z"⟩
abbrev cX6_framesAreSound : ByteArray := prog_1_method_33_code
def yX6_framesAreSound : MethodName := ⟨RX6, "framesAreSound", "()Z"⟩
abbrev cX6_labelsAreSound : ByteArray := prog_1_method_34_code
def yX6_labelsAreSound : MethodName := ⟨RX6, "labelsAreSound", "()Z"⟩
abbrev cX6_withFields : ByteArray := prog_1_method_35_code
def yX6_withFields : MethodName := ⟨RX6, "withFields", "(J)J"⟩
abbrev cX6_withFoundFrames : ByteArray := prog_1_method_36_code
def yX6_withFoundFrames : MethodName := ⟨RX6, "withFoundFrames", "(J)J"⟩
abbrev cX6_withPrints : ByteArray := prog_1_method_37_code
def yX6_withPrints : MethodName := ⟨RX6, "withPrints", "(J)J"⟩
def RX7 : String := "ThreetwoModel"
def TX7 : u_T := fun k => match k with
  | _ => ("", "", "", false)
def tyX7 : Nat → FieldType := fun k => match k with
  | _ => .int
abbrev wsX70 : List Cond := u_ws RX7 TX7 0
theorem nmX7 : ∀ a, a < 0 → ∀ b, b < 0 → a ≠ b → (TX7 a).2.1 ≠ (TX7 b).2.1 := by decide +kernel
theorem tyX7_ok : ∀ k, k < 0 → parseFieldDescriptor (TX7 k).2.2.1 = some (tyX7 k) := by decide +kernel
def RJx145de : String := "java/io/Serializable"
def TJx145de : u_T := fun k => match k with
  | _ => ("", "", "", false)
def tyJx145de : Nat → FieldType := fun k => match k with
  | _ => .int
abbrev wsJx145de0 : List Cond := u_ws RJx145de TJx145de 0
theorem nmJx145de : ∀ a, a < 0 → ∀ b, b < 0 → a ≠ b → (TJx145de a).2.1 ≠ (TJx145de b).2.1 := by decide +kernel
theorem tyJx145de_ok : ∀ k, k < 0 → parseFieldDescriptor (TJx145de k).2.2.1 = some (tyJx145de k) := by decide +kernel
def RJ9 : String := "java/lang/Math"
def TJ9 : u_T := fun k => match k with
  | _ => ("", "", "", false)
def tyJ9 : Nat → FieldType := fun k => match k with
  | _ => .int
abbrev wsJ90 : List Cond := u_ws RJ9 TJ9 0
theorem nmJ9 : ∀ a, a < 0 → ∀ b, b < 0 → a ≠ b → (TJ9 a).2.1 ≠ (TJ9 b).2.1 := by decide +kernel
theorem tyJ9_ok : ∀ k, k < 0 → parseFieldDescriptor (TJ9 k).2.2.1 = some (tyJ9 k) := by decide +kernel
abbrev cJ9_abs_0f7a4 : ByteArray := prog_14_method_59_code
def yJ9_abs_0f7a4 : MethodName := ⟨RJ9, "abs", "(I)I"⟩
abbrev cJ9_max_7cf53 : ByteArray := prog_14_method_65_code
def yJ9_max_7cf53 : MethodName := ⟨RJ9, "max", "(II)I"⟩
abbrev cJ9_min_7cf53 : ByteArray := prog_14_method_69_code
def yJ9_min_7cf53 : MethodName := ⟨RJ9, "min", "(II)I"⟩
def RJ0 : String := "java/lang/String"
def TJ0 : u_T := fun k => match k with
  | _ => ("", "", "", false)
def tyJ0 : Nat → FieldType := fun k => match k with
  | _ => .int
abbrev wsJ00 : List Cond := u_ws RJ0 TJ0 0
theorem nmJ0 : ∀ a, a < 0 → ∀ b, b < 0 → a ≠ b → (TJ0 a).2.1 ≠ (TJ0 b).2.1 := by decide +kernel
theorem tyJ0_ok : ∀ k, k < 0 → parseFieldDescriptor (TJ0 k).2.2.1 = some (tyJ0 k) := by decide +kernel
def RL : String := "ThreetwoLaw"
abbrev cL_below : ByteArray := method_2_code
def yL_below : MethodName := ⟨RL, "below", "(II)I"⟩
abbrev cL_cell : ByteArray := method_3_code
def yL_cell : MethodName := ⟨RL, "cell", "([II)I"⟩
abbrev cL_law : ByteArray := code
def yL_law : MethodName := ⟨RL, "law", "([I)Z"⟩
abbrev cL_act : ByteArray := method_5_code
def yL_act : MethodName := ⟨RL, "act", "(LThreetwo;II)V"⟩
def wsX4_init : List Cond := .code yX4_init cX4_init 2 none :: ([.methodLink RX4 3 objectInit, .instanceMethod objectInit, .code objectInit ⟨#[0xb1]⟩ 1 none, .methodLink RX4 9 Lib.Math.max.name, .static Lib.Math.max.name, .initialized "java/lang/Math", .code Lib.Math.max.name Lib.Math.max.code 2 (some .int), .arrayClass .int, .fieldLink RX4 15 "Threetwo$Row" "items" "[I", .fieldLink RX4 21 "Threetwo$Row" "told" "I"] ++ wsX40)
def wsX0_init : List Cond := .code yX0_init cX0_init 1 none :: ([.methodLink RX0 3 objectInit, .instanceMethod objectInit, .code objectInit ⟨#[0xb1]⟩ 1 none, .classLink RX0 9 RX4, .instantiable RX4 2, .initialized RX4, .fieldLink RX0 14 "Threetwo$Buffer" "sizes" "LThreetwo$Row;", .fieldLink RX0 20 "Threetwo$Buffer" "rateNow" "I", .methodLink RX0 11 yX4_init, .instanceMethod yX4_init, .code yX4_init cX4_init 2 none, .methodLink RX4 3 objectInit, .methodLink RX4 9 Lib.Math.max.name, .static Lib.Math.max.name, .initialized "java/lang/Math", .code Lib.Math.max.name Lib.Math.max.code 2 (some .int), .arrayClass .int, .fieldLink RX4 15 "Threetwo$Row" "items" "[I", .fieldLink RX4 21 "Threetwo$Row" "told" "I"] ++ wsX40 ++ wsX00)
def wsX4_many : List Cond := .code yX4_many cX4_many 1 (some .int) :: ([.fieldLink RX4 21 "Threetwo$Row" "told" "I"] ++ wsX40)
def wsX4_at : List Cond := .code yX4_at cX4_at 2 (some .int) :: ([.fieldLink RX4 21 "Threetwo$Row" "told" "I", .fieldLink RX4 15 "Threetwo$Row" "items" "[I"] ++ wsX40)
def wsX0_sumOfSizes : List Cond := .code yX0_sumOfSizes cX0_sumOfSizes 3 (some .int) :: ([.fieldLink RX0 14 "Threetwo$Buffer" "sizes" "LThreetwo$Row;", .methodLink RX0 28 yX4_many, .instanceMethod yX4_many, .selects RX4 yX4_many yX4_many, .initialized RX4, .code yX4_many cX4_many 1 (some .int), .fieldLink RX4 21 "Threetwo$Row" "told" "I", .methodLink RX0 31 yX4_at, .instanceMethod yX4_at, .selects RX4 yX4_at yX4_at, .code yX4_at cX4_at 2 (some .int), .fieldLink RX4 15 "Threetwo$Row" "items" "[I"] ++ wsX00 ++ wsX40)
def wsX0_cameIn : List Cond := .code yX0_cameIn cX0_cameIn 3 (some .int) :: ([.fieldLink RX0 20 "Threetwo$Buffer" "rateNow" "I", .methodLink RX0 47 Lib.Math.min.name, .static Lib.Math.min.name, .initialized "java/lang/Math", .code Lib.Math.min.name Lib.Math.min.code 2 (some .int)] ++ wsX00)
def wsX0_firstDry_r1 : List Cond := [Cond.fieldLink RX0 14 "Threetwo$Buffer" "sizes" "LThreetwo$Row;", Cond.methodLink RX0 24 yX0_sumOfSizes, Cond.instanceMethod yX0_sumOfSizes, Cond.selects RX0 yX0_sumOfSizes yX0_sumOfSizes, Cond.initialized RX0, Cond.code yX0_sumOfSizes cX0_sumOfSizes 3 (some .int), Cond.methodLink RX0 28 yX4_many, Cond.instanceMethod yX4_many, Cond.selects RX4 yX4_many yX4_many, Cond.initialized RX4, Cond.code yX4_many cX4_many 1 (some .int), Cond.fieldLink RX4 21 "Threetwo$Row" "told" "I", Cond.methodLink RX0 31 yX4_at, Cond.instanceMethod yX4_at, Cond.selects RX4 yX4_at yX4_at, Cond.code yX4_at cX4_at 2 (some .int), Cond.fieldLink RX4 15 "Threetwo$Row" "items" "[I", Cond.methodLink RX0 35 yX0_cameIn, Cond.instanceMethod yX0_cameIn, Cond.selects RX0 yX0_cameIn yX0_cameIn, Cond.code yX0_cameIn cX0_cameIn 3 (some .int), Cond.fieldLink RX0 20 "Threetwo$Buffer" "rateNow" "I", Cond.methodLink RX0 47 Lib.Math.min.name, Cond.static Lib.Math.min.name]
def wsX0_firstDry_r2 : List Cond := [Cond.initialized "java/lang/Math", Cond.code Lib.Math.min.name Lib.Math.min.code 2 (some .int)]
def wsX0_firstDry : List Cond := .code yX0_firstDry cX0_firstDry 5 (some .int) :: ((wsX0_firstDry_r1 ++ wsX0_firstDry_r2) ++ wsX00 ++ wsX40)
def wsX0_leastDelay : List Cond := .code yX0_leastDelay cX0_leastDelay 5 (some .int) :: ([.fieldLink RX0 14 "Threetwo$Buffer" "sizes" "LThreetwo$Row;", .fieldLink RX0 20 "Threetwo$Buffer" "rateNow" "I", .methodLink RX0 39 Lib.Math.max.name, .static Lib.Math.max.name, .initialized "java/lang/Math", .code Lib.Math.max.name Lib.Math.max.code 2 (some .int), .methodLink RX0 28 yX4_many, .instanceMethod yX4_many, .selects RX4 yX4_many yX4_many, .initialized RX4, .code yX4_many cX4_many 1 (some .int), .fieldLink RX4 21 "Threetwo$Row" "told" "I", .methodLink RX0 31 yX4_at, .instanceMethod yX4_at, .selects RX4 yX4_at yX4_at, .code yX4_at cX4_at 2 (some .int), .fieldLink RX4 15 "Threetwo$Row" "items" "[I"] ++ wsX00 ++ wsX40)
def wsX0_peak_r1 : List Cond := [Cond.fieldLink RX0 14 "Threetwo$Buffer" "sizes" "LThreetwo$Row;", Cond.methodLink RX0 39 Lib.Math.max.name, Cond.static Lib.Math.max.name, Cond.initialized "java/lang/Math", Cond.code Lib.Math.max.name Lib.Math.max.code 2 (some .int), Cond.methodLink RX0 44 yX0_leastDelay, Cond.instanceMethod yX0_leastDelay, Cond.selects RX0 yX0_leastDelay yX0_leastDelay, Cond.initialized RX0, Cond.code yX0_leastDelay cX0_leastDelay 5 (some .int), Cond.fieldLink RX0 20 "Threetwo$Buffer" "rateNow" "I", Cond.methodLink RX0 28 yX4_many, Cond.instanceMethod yX4_many, Cond.selects RX4 yX4_many yX4_many, Cond.initialized RX4, Cond.code yX4_many cX4_many 1 (some .int), Cond.fieldLink RX4 21 "Threetwo$Row" "told" "I", Cond.methodLink RX0 31 yX4_at, Cond.instanceMethod yX4_at, Cond.selects RX4 yX4_at yX4_at, Cond.code yX4_at cX4_at 2 (some .int), Cond.fieldLink RX4 15 "Threetwo$Row" "items" "[I", Cond.methodLink RX0 24 yX0_sumOfSizes, Cond.instanceMethod yX0_sumOfSizes]
def wsX0_peak_r2 : List Cond := [Cond.selects RX0 yX0_sumOfSizes yX0_sumOfSizes, Cond.code yX0_sumOfSizes cX0_sumOfSizes 3 (some .int), Cond.methodLink RX0 35 yX0_cameIn, Cond.instanceMethod yX0_cameIn, Cond.selects RX0 yX0_cameIn yX0_cameIn, Cond.code yX0_cameIn cX0_cameIn 3 (some .int), Cond.methodLink RX0 47 Lib.Math.min.name, Cond.static Lib.Math.min.name, Cond.code Lib.Math.min.name Lib.Math.min.code 2 (some .int)]
def wsX0_peak : List Cond := .code yX0_peak cX0_peak 6 (some .int) :: ((wsX0_peak_r1 ++ wsX0_peak_r2) ++ wsX00 ++ wsX40)
def wsX1_labelOf : List Cond := .code yX1_labelOf cX1_labelOf 4 (some .int) :: ([])
def wsX1_isLeftOut : List Cond := .code yX1_isLeftOut cX1_isLeftOut 3 (some .boolean) :: ([])
def wsX1_pictureOf : List Cond := .code yX1_pictureOf cX1_pictureOf 5 (some .int) :: ([.methodLink RX1 11 yX1_isLeftOut, .static yX1_isLeftOut, .initialized RX1, .code yX1_isLeftOut cX1_isLeftOut 3 (some .boolean)])
def wsX1_goesBack : List Cond := .code yX1_goesBack cX1_goesBack 1 (some .boolean) :: ([.methodLink RX1 15 yX1_labelOf, .static yX1_labelOf, .initialized RX1, .code yX1_labelOf cX1_labelOf 4 (some .int), .methodLink RX1 19 yX1_pictureOf, .static yX1_pictureOf, .code yX1_pictureOf cX1_pictureOf 5 (some .int), .methodLink RX1 11 yX1_isLeftOut, .static yX1_isLeftOut, .code yX1_isLeftOut cX1_isLeftOut 3 (some .boolean)])
def wsX2_init : List Cond := .code yX2_init cX2_init 2 none :: ([.methodLink RX2 3 objectInit, .instanceMethod objectInit, .code objectInit ⟨#[0xb1]⟩ 1 none, .classLink RX2 9 RX4, .fieldLink RX2 11 "Threetwo$Prints" "rows" "[LThreetwo$Row;", .instantiable RX4 2, .initialized RX4, .arrayClass .int, .fieldLink RX2 20 "Threetwo$Prints" "behind" "[I", .arrayClass .char, .fieldLink RX2 24 "Threetwo$Prints" "signs" "[C", .fieldLink RX2 28 "Threetwo$Prints" "many" "I", .methodLink RX2 17 yX4_init, .instanceMethod yX4_init, .code yX4_init cX4_init 2 none, .methodLink RX4 3 objectInit, .methodLink RX4 9 Lib.Math.max.name, .static Lib.Math.max.name, .initialized "java/lang/Math", .code Lib.Math.max.name Lib.Math.max.code 2 (some .int), .fieldLink RX4 15 "Threetwo$Row" "items" "[I", .fieldLink RX4 21 "Threetwo$Row" "told" "I"] ++ wsX20 ++ wsX40)
def wsX2_begin : List Cond := .code yX2_begin cX2_begin 1 (some .int) :: ([.fieldLink RX2 28 "Threetwo$Prints" "many" "I"] ++ wsX20)
def wsX2_has : List Cond := .code yX2_has cX2_has 2 (some .boolean) :: ([.fieldLink RX2 28 "Threetwo$Prints" "many" "I"] ++ wsX20)
def wsX2_row : List Cond := .code yX2_row cX2_row 2 (some (.object "Threetwo$Row")) :: ([.fieldLink RX2 11 "Threetwo$Prints" "rows" "[LThreetwo$Row;"] ++ wsX20)
def wsX4_has : List Cond := .code yX4_has cX4_has 2 (some .boolean) :: ([.fieldLink RX4 21 "Threetwo$Row" "told" "I"] ++ wsX40)
def wsX2_together : List Cond := .code yX2_together cX2_together 2 (some .int) :: ([.methodLink RX2 63 Lib.Math.abs.name, .static Lib.Math.abs.name, .initialized "java/lang/Math", .code Lib.Math.abs.name Lib.Math.abs.code 1 (some .int), .methodLink RX2 51 Lib.Math.min.name, .static Lib.Math.min.name, .code Lib.Math.min.name Lib.Math.min.code 2 (some .int)])
def wsX2_leastFrom_r1 : List Cond := [Cond.fieldLink RX2 20 "Threetwo$Prints" "behind" "[I", Cond.methodLink RX2 51 Lib.Math.min.name, Cond.static Lib.Math.min.name, Cond.initialized "java/lang/Math", Cond.code Lib.Math.min.name Lib.Math.min.code 2 (some .int), Cond.methodLink RX2 43 yX4_has, Cond.instanceMethod yX4_has, Cond.selects RX4 yX4_has yX4_has, Cond.initialized RX4, Cond.code yX4_has cX4_has 2 (some .boolean), Cond.fieldLink RX4 21 "Threetwo$Row" "told" "I", Cond.methodLink RX2 32 yX4_many, Cond.instanceMethod yX4_many, Cond.selects RX4 yX4_many yX4_many, Cond.code yX4_many cX4_many 1 (some .int), Cond.methodLink RX2 56 yX4_at, Cond.instanceMethod yX4_at, Cond.selects RX4 yX4_at yX4_at, Cond.code yX4_at cX4_at 2 (some .int), Cond.fieldLink RX4 15 "Threetwo$Row" "items" "[I", Cond.methodLink RX2 60 yX2_together, Cond.static yX2_together, Cond.initialized RX2, Cond.code yX2_together cX2_together 2 (some .int)]
def wsX2_leastFrom_r2 : List Cond := [Cond.methodLink RX2 63 Lib.Math.abs.name, Cond.static Lib.Math.abs.name, Cond.code Lib.Math.abs.name Lib.Math.abs.code 1 (some .int)]
def wsX2_leastFrom : List Cond := .code yX2_leastFrom cX2_leastFrom 7 (some .int) :: ((wsX2_leastFrom_r1 ++ wsX2_leastFrom_r2) ++ wsX20 ++ wsX40)
def wsX2_distance_r1 : List Cond := [Cond.fieldLink RX2 11 "Threetwo$Prints" "rows" "[LThreetwo$Row;", Cond.fieldLink RX2 20 "Threetwo$Prints" "behind" "[I", Cond.methodLink RX2 32 yX4_many, Cond.instanceMethod yX4_many, Cond.selects RX4 yX4_many yX4_many, Cond.initialized RX4, Cond.code yX4_many cX4_many 1 (some .int), Cond.fieldLink RX4 21 "Threetwo$Row" "told" "I", Cond.methodLink RX2 35 yX2_leastFrom, Cond.instanceMethod yX2_leastFrom, Cond.selects RX2 yX2_leastFrom yX2_leastFrom, Cond.initialized RX2, Cond.code yX2_leastFrom cX2_leastFrom 7 (some .int), Cond.methodLink RX2 51 Lib.Math.min.name, Cond.static Lib.Math.min.name, Cond.initialized "java/lang/Math", Cond.code Lib.Math.min.name Lib.Math.min.code 2 (some .int), Cond.methodLink RX2 43 yX4_has, Cond.instanceMethod yX4_has, Cond.selects RX4 yX4_has yX4_has, Cond.code yX4_has cX4_has 2 (some .boolean), Cond.methodLink RX2 56 yX4_at, Cond.instanceMethod yX4_at, Cond.selects RX4 yX4_at yX4_at]
def wsX2_distance_r2 : List Cond := [Cond.code yX4_at cX4_at 2 (some .int), Cond.fieldLink RX4 15 "Threetwo$Row" "items" "[I", Cond.methodLink RX2 60 yX2_together, Cond.static yX2_together, Cond.code yX2_together cX2_together 2 (some .int), Cond.methodLink RX2 63 Lib.Math.abs.name, Cond.static Lib.Math.abs.name, Cond.code Lib.Math.abs.name Lib.Math.abs.code 1 (some .int)]
def wsX2_distance : List Cond := .code yX2_distance cX2_distance 7 (some .int) :: ((wsX2_distance_r1 ++ wsX2_distance_r2) ++ wsX20 ++ wsX40)
def wsX2_signAt : List Cond := .code yX2_signAt cX2_signAt 6 (some .char) :: ([.fieldLink RX2 20 "Threetwo$Prints" "behind" "[I", .methodLink RX2 43 yX4_has, .instanceMethod yX4_has, .selects RX4 yX4_has yX4_has, .initialized RX4, .code yX4_has cX4_has 2 (some .boolean), .fieldLink RX4 21 "Threetwo$Row" "told" "I", .methodLink RX2 56 yX4_at, .instanceMethod yX4_at, .selects RX4 yX4_at yX4_at, .code yX4_at cX4_at 2 (some .int), .fieldLink RX4 15 "Threetwo$Row" "items" "[I", .methodLink RX2 60 yX2_together, .static yX2_together, .initialized RX2, .code yX2_together cX2_together 2 (some .int), .methodLink RX2 63 Lib.Math.abs.name, .static Lib.Math.abs.name, .initialized "java/lang/Math", .code Lib.Math.abs.name Lib.Math.abs.code 1 (some .int), .methodLink RX2 51 Lib.Math.min.name, .static Lib.Math.min.name, .code Lib.Math.min.name Lib.Math.min.code 2 (some .int)] ++ wsX20 ++ wsX40)
def wsX2_layOut_r1 : List Cond := [Cond.fieldLink RX2 11 "Threetwo$Prints" "rows" "[LThreetwo$Row;", Cond.fieldLink RX2 24 "Threetwo$Prints" "signs" "[C", Cond.methodLink RX2 39 yX2_distance, Cond.instanceMethod yX2_distance, Cond.selects RX2 yX2_distance yX2_distance, Cond.initialized RX2, Cond.code yX2_distance cX2_distance 7 (some .int), Cond.fieldLink RX2 20 "Threetwo$Prints" "behind" "[I", Cond.methodLink RX2 32 yX4_many, Cond.instanceMethod yX4_many, Cond.selects RX4 yX4_many yX4_many, Cond.initialized RX4, Cond.code yX4_many cX4_many 1 (some .int), Cond.fieldLink RX4 21 "Threetwo$Row" "told" "I", Cond.methodLink RX2 35 yX2_leastFrom, Cond.instanceMethod yX2_leastFrom, Cond.selects RX2 yX2_leastFrom yX2_leastFrom, Cond.code yX2_leastFrom cX2_leastFrom 7 (some .int), Cond.methodLink RX2 51 Lib.Math.min.name, Cond.static Lib.Math.min.name, Cond.initialized "java/lang/Math", Cond.code Lib.Math.min.name Lib.Math.min.code 2 (some .int), Cond.methodLink RX2 43 yX4_has, Cond.instanceMethod yX4_has]
def wsX2_layOut_r2 : List Cond := [Cond.selects RX4 yX4_has yX4_has, Cond.code yX4_has cX4_has 2 (some .boolean), Cond.methodLink RX2 56 yX4_at, Cond.instanceMethod yX4_at, Cond.selects RX4 yX4_at yX4_at, Cond.code yX4_at cX4_at 2 (some .int), Cond.fieldLink RX4 15 "Threetwo$Row" "items" "[I", Cond.methodLink RX2 60 yX2_together, Cond.static yX2_together, Cond.code yX2_together cX2_together 2 (some .int), Cond.methodLink RX2 63 Lib.Math.abs.name, Cond.static Lib.Math.abs.name, Cond.code Lib.Math.abs.name Lib.Math.abs.code 1 (some .int), Cond.methodLink RX2 47 yX2_signAt, Cond.instanceMethod yX2_signAt, Cond.selects RX2 yX2_signAt yX2_signAt, Cond.code yX2_signAt cX2_signAt 6 (some .char)]
def wsX2_layOut : List Cond := .code yX2_layOut cX2_layOut 9 (some .int) :: ((wsX2_layOut_r1 ++ wsX2_layOut_r2) ++ wsX20 ++ wsX40)
def wsX3_init : List Cond := .code yX3_init cX3_init 1 none :: ([.methodLink RX3 3 objectInit, .instanceMethod objectInit, .code objectInit ⟨#[0xb1]⟩ 1 none, .arrayClass .int, .fieldLink RX3 11 "Threetwo$Rhythm" "behind" "[I", .fieldLink RX3 15 "Threetwo$Rhythm" "places" "[I", .fieldLink RX3 18 "Threetwo$Rhythm" "frameOf" "[I", .fieldLink RX3 21 "Threetwo$Rhythm" "firsts" "[I", .fieldLink RX3 24 "Threetwo$Rhythm" "lengths" "[I", .fieldLink RX3 27 "Threetwo$Rhythm" "frameLooks" "[I", .fieldLink RX3 30 "Threetwo$Rhythm" "cost" "I", .fieldLink RX3 34 "Threetwo$Rhythm" "frames" "I", .fieldLink RX3 37 "Threetwo$Rhythm" "known" "Z"] ++ wsX30)
def wsX3_forget : List Cond := .code yX3_forget cX3_forget 1 none :: ([.fieldLink RX3 37 "Threetwo$Rhythm" "known" "Z"] ++ wsX30)
def wsX3_step : List Cond := .code yX3_step cX3_step 4 (some .int) :: ([])
def wsX3_bestNext : List Cond := .code yX3_bestNext cX3_bestNext 10 (some .int) :: ([.fieldLink RX3 11 "Threetwo$Rhythm" "behind" "[I", .methodLink RX3 71 yX3_step, .static yX3_step, .initialized RX3, .code yX3_step cX3_step 4 (some .int)] ++ wsX30)
def wsX3_bestFirst : List Cond := .code yX3_bestFirst cX3_bestFirst 3 (some .int) :: ([.fieldLink RX3 11 "Threetwo$Rhythm" "behind" "[I"] ++ wsX30)
def wsX3_leastCost : List Cond := .code yX3_leastCost cX3_leastCost 8 (some .int) :: ([.fieldLink RX3 11 "Threetwo$Rhythm" "behind" "[I", .methodLink RX3 49 yX4_many, .instanceMethod yX4_many, .selects RX4 yX4_many yX4_many, .initialized RX4, .code yX4_many cX4_many 1 (some .int), .fieldLink RX4 21 "Threetwo$Row" "told" "I", .methodLink RX3 63 yX4_at, .instanceMethod yX4_at, .selects RX4 yX4_at yX4_at, .code yX4_at cX4_at 2 (some .int), .fieldLink RX4 15 "Threetwo$Row" "items" "[I", .methodLink RX3 67 yX3_bestNext, .instanceMethod yX3_bestNext, .selects RX3 yX3_bestNext yX3_bestNext, .initialized RX3, .code yX3_bestNext cX3_bestNext 10 (some .int), .methodLink RX3 71 yX3_step, .static yX3_step, .code yX3_step cX3_step 4 (some .int), .methodLink RX3 74 yX3_bestFirst, .instanceMethod yX3_bestFirst, .selects RX3 yX3_bestFirst yX3_bestFirst, .code yX3_bestFirst cX3_bestFirst 3 (some .int)] ++ wsX30 ++ wsX40)
def wsX3_tracePath_r1 : List Cond := [Cond.fieldLink RX3 15 "Threetwo$Rhythm" "places" "[I", Cond.methodLink RX3 49 yX4_many, Cond.instanceMethod yX4_many, Cond.selects RX4 yX4_many yX4_many, Cond.initialized RX4, Cond.code yX4_many cX4_many 1 (some .int), Cond.fieldLink RX4 21 "Threetwo$Row" "told" "I", Cond.methodLink RX3 74 yX3_bestFirst, Cond.instanceMethod yX3_bestFirst, Cond.selects RX3 yX3_bestFirst yX3_bestFirst, Cond.initialized RX3, Cond.code yX3_bestFirst cX3_bestFirst 3 (some .int), Cond.fieldLink RX3 11 "Threetwo$Rhythm" "behind" "[I", Cond.methodLink RX3 63 yX4_at, Cond.instanceMethod yX4_at, Cond.selects RX4 yX4_at yX4_at, Cond.code yX4_at cX4_at 2 (some .int), Cond.fieldLink RX4 15 "Threetwo$Row" "items" "[I", Cond.methodLink RX3 67 yX3_bestNext, Cond.instanceMethod yX3_bestNext, Cond.selects RX3 yX3_bestNext yX3_bestNext, Cond.code yX3_bestNext cX3_bestNext 10 (some .int), Cond.methodLink RX3 71 yX3_step, Cond.static yX3_step]
def wsX3_tracePath_r2 : List Cond := [Cond.code yX3_step cX3_step 4 (some .int)]
def wsX3_tracePath : List Cond := .code yX3_tracePath cX3_tracePath 5 none :: ((wsX3_tracePath_r1 ++ wsX3_tracePath_r2) ++ wsX30 ++ wsX40)
def wsX3_beginsFrame : List Cond := .code yX3_beginsFrame cX3_beginsFrame 3 (some .boolean) :: ([.fieldLink RX3 15 "Threetwo$Rhythm" "places" "[I"] ++ wsX30)
def wsX3_gatherFrames : List Cond := .code yX3_gatherFrames cX3_gatherFrames 4 none :: ([.fieldLink RX3 34 "Threetwo$Rhythm" "frames" "I", .fieldLink RX3 21 "Threetwo$Rhythm" "firsts" "[I", .fieldLink RX3 18 "Threetwo$Rhythm" "frameOf" "[I", .fieldLink RX3 24 "Threetwo$Rhythm" "lengths" "[I", .methodLink RX3 77 yX3_beginsFrame, .instanceMethod yX3_beginsFrame, .selects RX3 yX3_beginsFrame yX3_beginsFrame, .initialized RX3, .code yX3_beginsFrame cX3_beginsFrame 3 (some .boolean), .fieldLink RX3 15 "Threetwo$Rhythm" "places" "[I"] ++ wsX30)
def wsX3_timesOf : List Cond := .code yX3_timesOf cX3_timesOf 6 (some .int) :: ([.methodLink RX3 63 yX4_at, .instanceMethod yX4_at, .selects RX4 yX4_at yX4_at, .initialized RX4, .code yX4_at cX4_at 2 (some .int), .fieldLink RX4 21 "Threetwo$Row" "told" "I", .fieldLink RX4 15 "Threetwo$Row" "items" "[I"] ++ wsX40)
def wsX3_commonLook : List Cond := .code yX3_commonLook cX3_commonLook 8 (some .int) :: ([.methodLink RX3 63 yX4_at, .instanceMethod yX4_at, .selects RX4 yX4_at yX4_at, .initialized RX4, .code yX4_at cX4_at 2 (some .int), .fieldLink RX4 21 "Threetwo$Row" "told" "I", .fieldLink RX4 15 "Threetwo$Row" "items" "[I", .methodLink RX3 81 yX3_timesOf, .static yX3_timesOf, .initialized RX3, .code yX3_timesOf cX3_timesOf 6 (some .int)] ++ wsX40)
def wsX3_find_r1 : List Cond := [Cond.fieldLink RX3 37 "Threetwo$Rhythm" "known" "Z", Cond.fieldLink RX3 30 "Threetwo$Rhythm" "cost" "I", Cond.fieldLink RX3 34 "Threetwo$Rhythm" "frames" "I", Cond.fieldLink RX3 27 "Threetwo$Rhythm" "frameLooks" "[I", Cond.fieldLink RX3 21 "Threetwo$Rhythm" "firsts" "[I", Cond.fieldLink RX3 24 "Threetwo$Rhythm" "lengths" "[I", Cond.methodLink RX3 41 yX3_leastCost, Cond.instanceMethod yX3_leastCost, Cond.selects RX3 yX3_leastCost yX3_leastCost, Cond.initialized RX3, Cond.code yX3_leastCost cX3_leastCost 8 (some .int), Cond.fieldLink RX3 11 "Threetwo$Rhythm" "behind" "[I", Cond.methodLink RX3 49 yX4_many, Cond.instanceMethod yX4_many, Cond.selects RX4 yX4_many yX4_many, Cond.initialized RX4, Cond.code yX4_many cX4_many 1 (some .int), Cond.fieldLink RX4 21 "Threetwo$Row" "told" "I", Cond.methodLink RX3 63 yX4_at, Cond.instanceMethod yX4_at, Cond.selects RX4 yX4_at yX4_at, Cond.code yX4_at cX4_at 2 (some .int), Cond.fieldLink RX4 15 "Threetwo$Row" "items" "[I", Cond.methodLink RX3 67 yX3_bestNext]
def wsX3_find_r2 : List Cond := [Cond.instanceMethod yX3_bestNext, Cond.selects RX3 yX3_bestNext yX3_bestNext, Cond.code yX3_bestNext cX3_bestNext 10 (some .int), Cond.methodLink RX3 71 yX3_step, Cond.static yX3_step, Cond.code yX3_step cX3_step 4 (some .int), Cond.methodLink RX3 74 yX3_bestFirst, Cond.instanceMethod yX3_bestFirst, Cond.selects RX3 yX3_bestFirst yX3_bestFirst, Cond.code yX3_bestFirst cX3_bestFirst 3 (some .int), Cond.methodLink RX3 45 yX3_tracePath, Cond.instanceMethod yX3_tracePath, Cond.selects RX3 yX3_tracePath yX3_tracePath, Cond.code yX3_tracePath cX3_tracePath 5 none, Cond.fieldLink RX3 15 "Threetwo$Rhythm" "places" "[I", Cond.methodLink RX3 55 yX3_gatherFrames, Cond.instanceMethod yX3_gatherFrames, Cond.selects RX3 yX3_gatherFrames yX3_gatherFrames, Cond.code yX3_gatherFrames cX3_gatherFrames 4 none, Cond.fieldLink RX3 18 "Threetwo$Rhythm" "frameOf" "[I", Cond.methodLink RX3 77 yX3_beginsFrame, Cond.instanceMethod yX3_beginsFrame, Cond.selects RX3 yX3_beginsFrame yX3_beginsFrame, Cond.code yX3_beginsFrame cX3_beginsFrame 3 (some .boolean)]
def wsX3_find_r3 : List Cond := [Cond.methodLink RX3 59 yX3_commonLook, Cond.static yX3_commonLook, Cond.code yX3_commonLook cX3_commonLook 8 (some .int), Cond.methodLink RX3 81 yX3_timesOf, Cond.static yX3_timesOf, Cond.code yX3_timesOf cX3_timesOf 6 (some .int)]
def wsX3_find : List Cond := .code yX3_find cX3_find 4 none :: ((wsX3_find_r1 ++ (wsX3_find_r2 ++ wsX3_find_r3)) ++ wsX30 ++ wsX40)
def wsX4_add : List Cond := .code yX4_add cX4_add 2 (some .int) :: ([.fieldLink RX4 21 "Threetwo$Row" "told" "I", .fieldLink RX4 15 "Threetwo$Row" "items" "[I"] ++ wsX40)
def wsX4_put : List Cond := .code yX4_put cX4_put 3 none :: ([.fieldLink RX4 15 "Threetwo$Row" "items" "[I", .methodLink RX4 25 yX4_has, .instanceMethod yX4_has, .selects RX4 yX4_has yX4_has, .initialized RX4, .code yX4_has cX4_has 2 (some .boolean), .fieldLink RX4 21 "Threetwo$Row" "told" "I"] ++ wsX40)
def wsX4_clear : List Cond := .code yX4_clear cX4_clear 1 none :: ([.fieldLink RX4 21 "Threetwo$Row" "told" "I"] ++ wsX40)
def wsX4_remove : List Cond := .code yX4_remove cX4_remove 4 none :: ([.fieldLink RX4 21 "Threetwo$Row" "told" "I", .fieldLink RX4 15 "Threetwo$Row" "items" "[I", .methodLink RX4 25 yX4_has, .instanceMethod yX4_has, .selects RX4 yX4_has yX4_has, .initialized RX4, .code yX4_has cX4_has 2 (some .boolean)] ++ wsX40)
def wsX5_init : List Cond := .code yX5_init cX5_init 1 none :: ([.methodLink RX5 3 objectInit, .instanceMethod objectInit, .code objectInit ⟨#[0xb1]⟩ 1 none, .classLink RX5 9 RX4, .instantiable RX4 2, .initialized RX4, .fieldLink RX5 14 "Threetwo$Strip" "looks" "LThreetwo$Row;", .fieldLink RX5 20 "Threetwo$Strip" "rest" "LThreetwo$Row;", .arrayClass .int, .fieldLink RX5 23 "Threetwo$Strip" "noteFields" "[I", .fieldLink RX5 27 "Threetwo$Strip" "noteLooks" "[I", .arrayClass .char, .fieldLink RX5 30 "Threetwo$Strip" "signs" "[C", .fieldLink RX5 34 "Threetwo$Strip" "notes" "I", .methodLink RX5 11 yX4_init, .instanceMethod yX4_init, .code yX4_init cX4_init 2 none, .methodLink RX4 3 objectInit, .methodLink RX4 9 Lib.Math.max.name, .static Lib.Math.max.name, .initialized "java/lang/Math", .code Lib.Math.max.name Lib.Math.max.code 2 (some .int), .fieldLink RX4 15 "Threetwo$Row" "items" "[I", .fieldLink RX4 21 "Threetwo$Row" "told" "I"] ++ wsX40 ++ wsX50)
def wsX5_pullDown : List Cond := .code yX5_pullDown cX5_pullDown 6 none :: ([.fieldLink RX5 14 "Threetwo$Strip" "looks" "LThreetwo$Row;", .fieldLink RX5 34 "Threetwo$Strip" "notes" "I", .methodLink RX5 38 yX4_clear, .instanceMethod yX4_clear, .selects RX4 yX4_clear yX4_clear, .initialized RX4, .code yX4_clear cX4_clear 1 none, .fieldLink RX4 21 "Threetwo$Row" "told" "I", .methodLink RX5 41 yX4_many, .instanceMethod yX4_many, .selects RX4 yX4_many yX4_many, .code yX4_many cX4_many 1 (some .int), .methodLink RX5 45 yX4_at, .instanceMethod yX4_at, .selects RX4 yX4_at yX4_at, .code yX4_at cX4_at 2 (some .int), .fieldLink RX4 15 "Threetwo$Row" "items" "[I", .methodLink RX5 49 yX4_add, .instanceMethod yX4_add, .selects RX4 yX4_add yX4_add, .code yX4_add cX4_add 2 (some .int)] ++ wsX50 ++ wsX40)
def wsX5_cutOut : List Cond := .code yX5_cutOut cX5_cutOut 3 none :: ([.fieldLink RX5 14 "Threetwo$Strip" "looks" "LThreetwo$Row;", .fieldLink RX5 34 "Threetwo$Strip" "notes" "I", .methodLink RX5 52 yX4_remove, .instanceMethod yX4_remove, .selects RX4 yX4_remove yX4_remove, .initialized RX4, .code yX4_remove cX4_remove 4 none, .fieldLink RX4 21 "Threetwo$Row" "told" "I", .fieldLink RX4 15 "Threetwo$Row" "items" "[I", .methodLink RX4 25 yX4_has, .instanceMethod yX4_has, .selects RX4 yX4_has yX4_has, .code yX4_has cX4_has 2 (some .boolean)] ++ wsX50 ++ wsX40)
def wsX5_note : List Cond := .code yX5_note cX5_note 3 none :: ([.fieldLink RX5 34 "Threetwo$Strip" "notes" "I", .fieldLink RX5 23 "Threetwo$Strip" "noteFields" "[I", .fieldLink RX5 27 "Threetwo$Strip" "noteLooks" "[I", .fieldLink RX5 14 "Threetwo$Strip" "looks" "LThreetwo$Row;", .methodLink RX5 45 yX4_at, .instanceMethod yX4_at, .selects RX4 yX4_at yX4_at, .initialized RX4, .code yX4_at cX4_at 2 (some .int), .fieldLink RX4 21 "Threetwo$Row" "told" "I", .fieldLink RX4 15 "Threetwo$Row" "items" "[I", .methodLink RX5 56 yX4_put, .instanceMethod yX4_put, .selects RX4 yX4_put yX4_put, .code yX4_put cX4_put 3 none, .methodLink RX4 25 yX4_has, .instanceMethod yX4_has, .selects RX4 yX4_has yX4_has, .code yX4_has cX4_has 2 (some .boolean)] ++ wsX50 ++ wsX40)
def wsX5_takeBack : List Cond := .code yX5_takeBack cX5_takeBack 2 (some .int) :: ([.fieldLink RX5 34 "Threetwo$Strip" "notes" "I", .fieldLink RX5 23 "Threetwo$Strip" "noteFields" "[I", .fieldLink RX5 14 "Threetwo$Strip" "looks" "LThreetwo$Row;", .fieldLink RX5 27 "Threetwo$Strip" "noteLooks" "[I", .methodLink RX5 56 yX4_put, .instanceMethod yX4_put, .selects RX4 yX4_put yX4_put, .initialized RX4, .code yX4_put cX4_put 3 none, .fieldLink RX4 15 "Threetwo$Row" "items" "[I", .methodLink RX4 25 yX4_has, .instanceMethod yX4_has, .selects RX4 yX4_has yX4_has, .code yX4_has cX4_has 2 (some .boolean), .fieldLink RX4 21 "Threetwo$Row" "told" "I"] ++ wsX50 ++ wsX40)
def wsX5_isNoted : List Cond := .code yX5_isNoted cX5_isNoted 3 (some .boolean) :: ([.fieldLink RX5 34 "Threetwo$Strip" "notes" "I", .fieldLink RX5 23 "Threetwo$Strip" "noteFields" "[I"] ++ wsX50)
def wsX5_firstLike : List Cond := .code yX5_firstLike cX5_firstLike 3 (some .int) :: ([.fieldLink RX5 14 "Threetwo$Strip" "looks" "LThreetwo$Row;", .methodLink RX5 45 yX4_at, .instanceMethod yX4_at, .selects RX4 yX4_at yX4_at, .initialized RX4, .code yX4_at cX4_at 2 (some .int), .fieldLink RX4 21 "Threetwo$Row" "told" "I", .fieldLink RX4 15 "Threetwo$Row" "items" "[I"] ++ wsX50 ++ wsX40)
def wsX5_nameLooks : List Cond := .code yX5_nameLooks cX5_nameLooks 4 (some .int) :: ([.fieldLink RX5 14 "Threetwo$Strip" "looks" "LThreetwo$Row;", .fieldLink RX5 30 "Threetwo$Strip" "signs" "[C", .methodLink RX5 41 yX4_many, .instanceMethod yX4_many, .selects RX4 yX4_many yX4_many, .initialized RX4, .code yX4_many cX4_many 1 (some .int), .fieldLink RX4 21 "Threetwo$Row" "told" "I", .methodLink RX5 59 yX5_firstLike, .instanceMethod yX5_firstLike, .selects RX5 yX5_firstLike yX5_firstLike, .initialized RX5, .code yX5_firstLike cX5_firstLike 3 (some .int), .methodLink RX5 45 yX4_at, .instanceMethod yX4_at, .selects RX4 yX4_at yX4_at, .code yX4_at cX4_at 2 (some .int), .fieldLink RX4 15 "Threetwo$Row" "items" "[I"] ++ wsX50 ++ wsX40)
def wsX6_init_r1 : List Cond := [Cond.methodLink RX6 1 objectInit, Cond.instanceMethod objectInit, Cond.code objectInit ⟨#[0xb1]⟩ 1 none, Cond.classLink RX6 7 RX4, Cond.instantiable RX4 2, Cond.initialized RX4, Cond.fieldLink RX6 14 "Threetwo" "reel" "LThreetwo$Row;", Cond.classLink RX6 18 RX5, Cond.instantiable RX5 6, Cond.initialized RX5, Cond.fieldLink RX6 21 "Threetwo" "strip" "LThreetwo$Strip;", Cond.classLink RX6 25 RX3, Cond.instantiable RX3 9, Cond.initialized RX3, Cond.fieldLink RX6 28 "Threetwo" "rhythm" "LThreetwo$Rhythm;", Cond.classLink RX6 32 RX2, Cond.instantiable RX2 4, Cond.initialized RX2, Cond.fieldLink RX6 35 "Threetwo" "prints" "LThreetwo$Prints;", Cond.classLink RX6 39 RX0, Cond.instantiable RX0 2, Cond.initialized RX0, Cond.fieldLink RX6 42 "Threetwo" "buffer" "LThreetwo$Buffer;", Cond.fieldLink RX6 46 "Threetwo" "changeNow" "I"]
def wsX6_init_r2 : List Cond := [Cond.fieldLink RX6 50 "Threetwo" "refused" "I", Cond.methodLink RX6 11 yX4_init, Cond.instanceMethod yX4_init, Cond.code yX4_init cX4_init 2 none, Cond.methodLink RX4 3 objectInit, Cond.methodLink RX4 9 Lib.Math.max.name, Cond.static Lib.Math.max.name, Cond.initialized "java/lang/Math", Cond.code Lib.Math.max.name Lib.Math.max.code 2 (some .int), Cond.arrayClass .int, Cond.fieldLink RX4 15 "Threetwo$Row" "items" "[I", Cond.fieldLink RX4 21 "Threetwo$Row" "told" "I", Cond.methodLink RX6 20 yX5_init, Cond.instanceMethod yX5_init, Cond.code yX5_init cX5_init 1 none, Cond.methodLink RX5 3 objectInit, Cond.classLink RX5 9 RX4, Cond.fieldLink RX5 14 "Threetwo$Strip" "looks" "LThreetwo$Row;", Cond.fieldLink RX5 20 "Threetwo$Strip" "rest" "LThreetwo$Row;", Cond.fieldLink RX5 23 "Threetwo$Strip" "noteFields" "[I", Cond.fieldLink RX5 27 "Threetwo$Strip" "noteLooks" "[I", Cond.arrayClass .char, Cond.fieldLink RX5 30 "Threetwo$Strip" "signs" "[C", Cond.fieldLink RX5 34 "Threetwo$Strip" "notes" "I"]
def wsX6_init_r3 : List Cond := [Cond.methodLink RX5 11 yX4_init, Cond.methodLink RX6 27 yX3_init, Cond.instanceMethod yX3_init, Cond.code yX3_init cX3_init 1 none, Cond.methodLink RX3 3 objectInit, Cond.fieldLink RX3 11 "Threetwo$Rhythm" "behind" "[I", Cond.fieldLink RX3 15 "Threetwo$Rhythm" "places" "[I", Cond.fieldLink RX3 18 "Threetwo$Rhythm" "frameOf" "[I", Cond.fieldLink RX3 21 "Threetwo$Rhythm" "firsts" "[I", Cond.fieldLink RX3 24 "Threetwo$Rhythm" "lengths" "[I", Cond.fieldLink RX3 27 "Threetwo$Rhythm" "frameLooks" "[I", Cond.fieldLink RX3 30 "Threetwo$Rhythm" "cost" "I", Cond.fieldLink RX3 34 "Threetwo$Rhythm" "frames" "I", Cond.fieldLink RX3 37 "Threetwo$Rhythm" "known" "Z", Cond.methodLink RX6 34 yX2_init, Cond.instanceMethod yX2_init, Cond.code yX2_init cX2_init 2 none, Cond.methodLink RX2 3 objectInit, Cond.classLink RX2 9 RX4, Cond.fieldLink RX2 11 "Threetwo$Prints" "rows" "[LThreetwo$Row;", Cond.fieldLink RX2 20 "Threetwo$Prints" "behind" "[I", Cond.fieldLink RX2 24 "Threetwo$Prints" "signs" "[C", Cond.fieldLink RX2 28 "Threetwo$Prints" "many" "I", Cond.methodLink RX2 17 yX4_init]
def wsX6_init_r4 : List Cond := [Cond.methodLink RX6 41 yX0_init, Cond.instanceMethod yX0_init, Cond.code yX0_init cX0_init 1 none, Cond.methodLink RX0 3 objectInit, Cond.classLink RX0 9 RX4, Cond.fieldLink RX0 14 "Threetwo$Buffer" "sizes" "LThreetwo$Row;", Cond.fieldLink RX0 20 "Threetwo$Buffer" "rateNow" "I", Cond.methodLink RX0 11 yX4_init]
def wsX6_init : List Cond := .code yX6_init cX6_init 1 none :: ((wsX6_init_r1 ++ (wsX6_init_r2 ++ (wsX6_init_r3 ++ wsX6_init_r4))) ++ wsX40 ++ wsX60 ++ wsX50 ++ wsX30 ++ wsX20 ++ wsX00)
def wsX6_requireLook : List Cond := .code yX6_requireLook cX6_requireLook 1 none :: ([.classLink RX6 67 "java/lang/IllegalArgumentException", .initialized "java/lang/IllegalArgumentException"] ++ (vx_atS RX6 71 "java/lang/IllegalArgumentException" ["java/lang/RuntimeException", "java/lang/Exception"]).filter goodWord)
def wsX6_frame : List Cond := .code yX6_frame cX6_frame 3 (some .int) :: ([.classLink RX6 60 "java/lang/IllegalStateException", .initialized "java/lang/IllegalStateException", .fieldLink RX6 14 "Threetwo" "reel" "LThreetwo$Row;", .methodLink RX6 53 yX6_requireLook, .static yX6_requireLook, .initialized RX6, .code yX6_requireLook cX6_requireLook 1 none, .classLink RX6 67 "java/lang/IllegalArgumentException", .initialized "java/lang/IllegalArgumentException", .methodLink RX6 56 yX4_add, .instanceMethod yX4_add, .selects RX4 yX4_add yX4_add, .initialized RX4, .code yX4_add cX4_add 2 (some .int), .fieldLink RX4 21 "Threetwo$Row" "told" "I", .fieldLink RX4 15 "Threetwo$Row" "items" "[I"] ++ wsX60 ++ wsX40 ++ (vx_atS RX6 64 "java/lang/IllegalStateException" ["java/lang/RuntimeException", "java/lang/Exception"]).filter goodWord ++ (vx_atS RX6 71 "java/lang/IllegalArgumentException" ["java/lang/RuntimeException", "java/lang/Exception"]).filter goodWord)
def wsX6_pull_r1 : List Cond := [Cond.classLink RX6 67 "java/lang/IllegalArgumentException", Cond.initialized "java/lang/IllegalArgumentException", Cond.fieldLink RX6 21 "Threetwo" "strip" "LThreetwo$Strip;", Cond.fieldLink RX6 14 "Threetwo" "reel" "LThreetwo$Row;", Cond.fieldLink RX6 28 "Threetwo" "rhythm" "LThreetwo$Rhythm;", Cond.methodLink RX6 72 yX5_pullDown, Cond.instanceMethod yX5_pullDown, Cond.selects RX5 yX5_pullDown yX5_pullDown, Cond.initialized RX5, Cond.code yX5_pullDown cX5_pullDown 6 none, Cond.fieldLink RX5 14 "Threetwo$Strip" "looks" "LThreetwo$Row;", Cond.fieldLink RX5 34 "Threetwo$Strip" "notes" "I", Cond.methodLink RX5 38 yX4_clear, Cond.instanceMethod yX4_clear, Cond.selects RX4 yX4_clear yX4_clear, Cond.initialized RX4, Cond.code yX4_clear cX4_clear 1 none, Cond.fieldLink RX4 21 "Threetwo$Row" "told" "I", Cond.methodLink RX5 41 yX4_many, Cond.instanceMethod yX4_many, Cond.selects RX4 yX4_many yX4_many, Cond.code yX4_many cX4_many 1 (some .int), Cond.methodLink RX5 45 yX4_at, Cond.instanceMethod yX4_at]
def wsX6_pull_r2 : List Cond := [Cond.selects RX4 yX4_at yX4_at, Cond.code yX4_at cX4_at 2 (some .int), Cond.fieldLink RX4 15 "Threetwo$Row" "items" "[I", Cond.methodLink RX5 49 yX4_add, Cond.instanceMethod yX4_add, Cond.selects RX4 yX4_add yX4_add, Cond.code yX4_add cX4_add 2 (some .int), Cond.methodLink RX6 76 yX3_forget, Cond.instanceMethod yX3_forget, Cond.selects RX3 yX3_forget yX3_forget, Cond.initialized RX3, Cond.code yX3_forget cX3_forget 1 none, Cond.fieldLink RX3 37 "Threetwo$Rhythm" "known" "Z", Cond.methodLink RX6 82 yX4_many]
def wsX6_pull : List Cond := .code yX6_pull cX6_pull 2 (some .int) :: ((wsX6_pull_r1 ++ wsX6_pull_r2) ++ wsX60 ++ wsX50 ++ wsX40 ++ wsX30 ++ (vx_atS RX6 71 "java/lang/IllegalArgumentException" ["java/lang/RuntimeException", "java/lang/Exception"]).filter goodWord)
def wsX6_requireField : List Cond := .code yX6_requireField cX6_requireField 2 none :: ([.classLink RX6 151 "java/lang/IndexOutOfBoundsException", .initialized "java/lang/IndexOutOfBoundsException", .fieldLink RX6 21 "Threetwo" "strip" "LThreetwo$Strip;", .methodLink RX6 268 yX4_has, .instanceMethod yX4_has, .selects RX4 yX4_has yX4_has, .initialized RX4, .code yX4_has cX4_has 2 (some .boolean), .fieldLink RX4 21 "Threetwo$Row" "told" "I"] ++ wsX60 ++ wsX50 ++ wsX40 ++ (vx_atS RX6 155 "java/lang/IndexOutOfBoundsException" ["java/lang/RuntimeException", "java/lang/Exception"]).filter goodWord)
def wsX6_cut_r1 : List Cond := [Cond.classLink RX6 67 "java/lang/IllegalArgumentException", Cond.initialized "java/lang/IllegalArgumentException", Cond.fieldLink RX6 21 "Threetwo" "strip" "LThreetwo$Strip;", Cond.fieldLink RX6 28 "Threetwo" "rhythm" "LThreetwo$Rhythm;", Cond.methodLink RX6 86 yX6_requireField, Cond.instanceMethod yX6_requireField, Cond.selects RX6 yX6_requireField yX6_requireField, Cond.initialized RX6, Cond.code yX6_requireField cX6_requireField 2 none, Cond.classLink RX6 151 "java/lang/IndexOutOfBoundsException", Cond.initialized "java/lang/IndexOutOfBoundsException", Cond.methodLink RX6 268 yX4_has, Cond.instanceMethod yX4_has, Cond.selects RX4 yX4_has yX4_has, Cond.initialized RX4, Cond.code yX4_has cX4_has 2 (some .boolean), Cond.fieldLink RX4 21 "Threetwo$Row" "told" "I", Cond.methodLink RX6 82 yX4_many, Cond.instanceMethod yX4_many, Cond.selects RX4 yX4_many yX4_many, Cond.code yX4_many cX4_many 1 (some .int), Cond.methodLink RX6 91 yX5_cutOut, Cond.instanceMethod yX5_cutOut, Cond.selects RX5 yX5_cutOut yX5_cutOut]
def wsX6_cut_r2 : List Cond := [Cond.initialized RX5, Cond.code yX5_cutOut cX5_cutOut 3 none, Cond.fieldLink RX5 14 "Threetwo$Strip" "looks" "LThreetwo$Row;", Cond.fieldLink RX5 34 "Threetwo$Strip" "notes" "I", Cond.methodLink RX5 52 yX4_remove, Cond.instanceMethod yX4_remove, Cond.selects RX4 yX4_remove yX4_remove, Cond.code yX4_remove cX4_remove 4 none, Cond.fieldLink RX4 15 "Threetwo$Row" "items" "[I", Cond.methodLink RX4 25 yX4_has, Cond.methodLink RX6 76 yX3_forget, Cond.instanceMethod yX3_forget, Cond.selects RX3 yX3_forget yX3_forget, Cond.initialized RX3, Cond.code yX3_forget cX3_forget 1 none, Cond.fieldLink RX3 37 "Threetwo$Rhythm" "known" "Z"]
def wsX6_cut : List Cond := .code yX6_cut cX6_cut 3 (some .int) :: ((wsX6_cut_r1 ++ wsX6_cut_r2) ++ wsX60 ++ wsX50 ++ wsX40 ++ wsX30 ++ (vx_atS RX6 71 "java/lang/IllegalArgumentException" ["java/lang/RuntimeException", "java/lang/Exception"]).filter goodWord ++ (vx_atS RX6 155 "java/lang/IndexOutOfBoundsException" ["java/lang/RuntimeException", "java/lang/Exception"]).filter goodWord)
def wsX6_spoil_r1 : List Cond := [Cond.fieldLink RX6 21 "Threetwo" "strip" "LThreetwo$Strip;", Cond.fieldLink RX6 28 "Threetwo" "rhythm" "LThreetwo$Rhythm;", Cond.methodLink RX6 86 yX6_requireField, Cond.instanceMethod yX6_requireField, Cond.selects RX6 yX6_requireField yX6_requireField, Cond.initialized RX6, Cond.code yX6_requireField cX6_requireField 2 none, Cond.classLink RX6 151 "java/lang/IndexOutOfBoundsException", Cond.initialized "java/lang/IndexOutOfBoundsException", Cond.methodLink RX6 268 yX4_has, Cond.instanceMethod yX4_has, Cond.selects RX4 yX4_has yX4_has, Cond.initialized RX4, Cond.code yX4_has cX4_has 2 (some .boolean), Cond.fieldLink RX4 21 "Threetwo$Row" "told" "I", Cond.methodLink RX6 53 yX6_requireLook, Cond.static yX6_requireLook, Cond.code yX6_requireLook cX6_requireLook 1 none, Cond.classLink RX6 67 "java/lang/IllegalArgumentException", Cond.initialized "java/lang/IllegalArgumentException", Cond.methodLink RX6 95 yX4_at, Cond.instanceMethod yX4_at, Cond.selects RX4 yX4_at yX4_at, Cond.code yX4_at cX4_at 2 (some .int)]
def wsX6_spoil_r2 : List Cond := [Cond.fieldLink RX4 15 "Threetwo$Row" "items" "[I", Cond.methodLink RX6 98 yX5_note, Cond.instanceMethod yX5_note, Cond.selects RX5 yX5_note yX5_note, Cond.initialized RX5, Cond.code yX5_note cX5_note 3 none, Cond.fieldLink RX5 34 "Threetwo$Strip" "notes" "I", Cond.fieldLink RX5 23 "Threetwo$Strip" "noteFields" "[I", Cond.fieldLink RX5 27 "Threetwo$Strip" "noteLooks" "[I", Cond.fieldLink RX5 14 "Threetwo$Strip" "looks" "LThreetwo$Row;", Cond.methodLink RX5 45 yX4_at, Cond.methodLink RX5 56 yX4_put, Cond.instanceMethod yX4_put, Cond.selects RX4 yX4_put yX4_put, Cond.code yX4_put cX4_put 3 none, Cond.methodLink RX4 25 yX4_has, Cond.methodLink RX6 76 yX3_forget, Cond.instanceMethod yX3_forget, Cond.selects RX3 yX3_forget yX3_forget, Cond.initialized RX3, Cond.code yX3_forget cX3_forget 1 none, Cond.fieldLink RX3 37 "Threetwo$Rhythm" "known" "Z"]
def wsX6_spoil : List Cond := .code yX6_spoil cX6_spoil 4 (some .int) :: ((wsX6_spoil_r1 ++ wsX6_spoil_r2) ++ wsX60 ++ wsX50 ++ wsX40 ++ wsX30 ++ (vx_atS RX6 155 "java/lang/IndexOutOfBoundsException" ["java/lang/RuntimeException", "java/lang/Exception"]).filter goodWord ++ (vx_atS RX6 71 "java/lang/IllegalArgumentException" ["java/lang/RuntimeException", "java/lang/Exception"]).filter goodWord)
def wsX6_heal_r1 : List Cond := [Cond.fieldLink RX6 21 "Threetwo" "strip" "LThreetwo$Strip;", Cond.fieldLink RX6 28 "Threetwo" "rhythm" "LThreetwo$Rhythm;", Cond.methodLink RX6 101 yX5_takeBack, Cond.instanceMethod yX5_takeBack, Cond.selects RX5 yX5_takeBack yX5_takeBack, Cond.initialized RX5, Cond.code yX5_takeBack cX5_takeBack 2 (some .int), Cond.fieldLink RX5 34 "Threetwo$Strip" "notes" "I", Cond.fieldLink RX5 23 "Threetwo$Strip" "noteFields" "[I", Cond.fieldLink RX5 14 "Threetwo$Strip" "looks" "LThreetwo$Row;", Cond.fieldLink RX5 27 "Threetwo$Strip" "noteLooks" "[I", Cond.methodLink RX5 56 yX4_put, Cond.instanceMethod yX4_put, Cond.selects RX4 yX4_put yX4_put, Cond.initialized RX4, Cond.code yX4_put cX4_put 3 none, Cond.fieldLink RX4 15 "Threetwo$Row" "items" "[I", Cond.methodLink RX4 25 yX4_has, Cond.instanceMethod yX4_has, Cond.selects RX4 yX4_has yX4_has, Cond.code yX4_has cX4_has 2 (some .boolean), Cond.fieldLink RX4 21 "Threetwo$Row" "told" "I", Cond.methodLink RX6 76 yX3_forget, Cond.instanceMethod yX3_forget]
def wsX6_heal_r2 : List Cond := [Cond.selects RX3 yX3_forget yX3_forget, Cond.initialized RX3, Cond.code yX3_forget cX3_forget 1 none, Cond.fieldLink RX3 37 "Threetwo$Rhythm" "known" "Z"]
def wsX6_heal : List Cond := .code yX6_heal cX6_heal 2 (some .int) :: ((wsX6_heal_r1 ++ wsX6_heal_r2) ++ wsX60 ++ wsX50 ++ wsX40 ++ wsX30)
def wsX6_change : List Cond := .code yX6_change cX6_change 3 (some .int) :: ([.classLink RX6 67 "java/lang/IllegalArgumentException", .initialized "java/lang/IllegalArgumentException", .fieldLink RX6 46 "Threetwo" "changeNow" "I", .fieldLink RX6 28 "Threetwo" "rhythm" "LThreetwo$Rhythm;", .methodLink RX6 76 yX3_forget, .instanceMethod yX3_forget, .selects RX3 yX3_forget yX3_forget, .initialized RX3, .code yX3_forget cX3_forget 1 none, .fieldLink RX3 37 "Threetwo$Rhythm" "known" "Z"] ++ wsX60 ++ wsX30 ++ (vx_atS RX6 71 "java/lang/IllegalArgumentException" ["java/lang/RuntimeException", "java/lang/Exception"]).filter goodWord)
def wsX6_print : List Cond := .code yX6_print cX6_print 2 (some .int) :: ([.classLink RX6 60 "java/lang/IllegalStateException", .initialized "java/lang/IllegalStateException", .fieldLink RX6 35 "Threetwo" "prints" "LThreetwo$Prints;", .methodLink RX6 106 yX2_begin, .instanceMethod yX2_begin, .selects RX2 yX2_begin yX2_begin, .initialized RX2, .code yX2_begin cX2_begin 1 (some .int), .fieldLink RX2 28 "Threetwo$Prints" "many" "I"] ++ wsX60 ++ wsX20 ++ (vx_atS RX6 64 "java/lang/IllegalStateException" ["java/lang/RuntimeException", "java/lang/Exception"]).filter goodWord)
def wsX6_requirePrint : List Cond := .code yX6_requirePrint cX6_requirePrint 2 none :: ([.classLink RX6 151 "java/lang/IndexOutOfBoundsException", .initialized "java/lang/IndexOutOfBoundsException", .fieldLink RX6 35 "Threetwo" "prints" "LThreetwo$Prints;", .methodLink RX6 273 yX2_has, .instanceMethod yX2_has, .selects RX2 yX2_has yX2_has, .initialized RX2, .code yX2_has cX2_has 2 (some .boolean), .fieldLink RX2 28 "Threetwo$Prints" "many" "I"] ++ wsX60 ++ wsX20 ++ (vx_atS RX6 155 "java/lang/IndexOutOfBoundsException" ["java/lang/RuntimeException", "java/lang/Exception"]).filter goodWord)
def wsX6_look_r1 : List Cond := [Cond.classLink RX6 60 "java/lang/IllegalStateException", Cond.initialized "java/lang/IllegalStateException", Cond.fieldLink RX6 35 "Threetwo" "prints" "LThreetwo$Prints;", Cond.methodLink RX6 111 yX6_requirePrint, Cond.instanceMethod yX6_requirePrint, Cond.selects RX6 yX6_requirePrint yX6_requirePrint, Cond.initialized RX6, Cond.code yX6_requirePrint cX6_requirePrint 2 none, Cond.classLink RX6 151 "java/lang/IndexOutOfBoundsException", Cond.initialized "java/lang/IndexOutOfBoundsException", Cond.methodLink RX6 273 yX2_has, Cond.instanceMethod yX2_has, Cond.selects RX2 yX2_has yX2_has, Cond.initialized RX2, Cond.code yX2_has cX2_has 2 (some .boolean), Cond.fieldLink RX2 28 "Threetwo$Prints" "many" "I", Cond.methodLink RX6 53 yX6_requireLook, Cond.static yX6_requireLook, Cond.code yX6_requireLook cX6_requireLook 1 none, Cond.classLink RX6 67 "java/lang/IllegalArgumentException", Cond.initialized "java/lang/IllegalArgumentException", Cond.methodLink RX6 114 yX2_row, Cond.instanceMethod yX2_row, Cond.selects RX2 yX2_row yX2_row]
def wsX6_look_r2 : List Cond := [Cond.code yX2_row cX2_row 2 (some (.object "Threetwo$Row")), Cond.fieldLink RX2 11 "Threetwo$Prints" "rows" "[LThreetwo$Row;", Cond.methodLink RX6 56 yX4_add, Cond.instanceMethod yX4_add, Cond.selects RX4 yX4_add yX4_add, Cond.initialized RX4, Cond.code yX4_add cX4_add 2 (some .int), Cond.fieldLink RX4 21 "Threetwo$Row" "told" "I", Cond.fieldLink RX4 15 "Threetwo$Row" "items" "[I"]
def wsX6_look : List Cond := .code yX6_look cX6_look 4 (some .int) :: ((wsX6_look_r1 ++ wsX6_look_r2) ++ wsX60 ++ wsX20 ++ wsX40 ++ (vx_atS RX6 64 "java/lang/IllegalStateException" ["java/lang/RuntimeException", "java/lang/Exception"]).filter goodWord ++ (vx_atS RX6 155 "java/lang/IndexOutOfBoundsException" ["java/lang/RuntimeException", "java/lang/Exception"]).filter goodWord ++ (vx_atS RX6 71 "java/lang/IllegalArgumentException" ["java/lang/RuntimeException", "java/lang/Exception"]).filter goodWord)
def wsX6_rate : List Cond := .code yX6_rate cX6_rate 3 (some .int) :: ([.classLink RX6 67 "java/lang/IllegalArgumentException", .initialized "java/lang/IllegalArgumentException", .fieldLink RX6 42 "Threetwo" "buffer" "LThreetwo$Buffer;"] ++ wsX60 ++ wsX00 ++ (vx_atS RX6 71 "java/lang/IllegalArgumentException" ["java/lang/RuntimeException", "java/lang/Exception"]).filter goodWord)
def wsX6_size : List Cond := .code yX6_size cX6_size 3 (some .int) :: ([.classLink RX6 67 "java/lang/IllegalArgumentException", .initialized "java/lang/IllegalArgumentException", .classLink RX6 60 "java/lang/IllegalStateException", .initialized "java/lang/IllegalStateException", .fieldLink RX6 42 "Threetwo" "buffer" "LThreetwo$Buffer;", .methodLink RX6 56 yX4_add, .instanceMethod yX4_add, .selects RX4 yX4_add yX4_add, .initialized RX4, .code yX4_add cX4_add 2 (some .int), .fieldLink RX4 21 "Threetwo$Row" "told" "I", .fieldLink RX4 15 "Threetwo$Row" "items" "[I"] ++ wsX60 ++ wsX00 ++ wsX40 ++ (vx_atS RX6 71 "java/lang/IllegalArgumentException" ["java/lang/RuntimeException", "java/lang/Exception"]).filter goodWord ++ (vx_atS RX6 64 "java/lang/IllegalStateException" ["java/lang/RuntimeException", "java/lang/Exception"]).filter goodWord)
def wsX6_ofField_r1 : List Cond := [Cond.classLink RX6 67 "java/lang/IllegalArgumentException", Cond.initialized "java/lang/IllegalArgumentException", Cond.fieldLink RX6 28 "Threetwo" "rhythm" "LThreetwo$Rhythm;", Cond.fieldLink RX6 21 "Threetwo" "strip" "LThreetwo$Strip;", Cond.fieldLink RX6 46 "Threetwo" "changeNow" "I", Cond.methodLink RX6 86 yX6_requireField, Cond.instanceMethod yX6_requireField, Cond.selects RX6 yX6_requireField yX6_requireField, Cond.initialized RX6, Cond.code yX6_requireField cX6_requireField 2 none, Cond.classLink RX6 151 "java/lang/IndexOutOfBoundsException", Cond.initialized "java/lang/IndexOutOfBoundsException", Cond.methodLink RX6 268 yX4_has, Cond.instanceMethod yX4_has, Cond.selects RX4 yX4_has yX4_has, Cond.initialized RX4, Cond.code yX4_has cX4_has 2 (some .boolean), Cond.fieldLink RX4 21 "Threetwo$Row" "told" "I", Cond.methodLink RX6 132 yX3_find, Cond.instanceMethod yX3_find, Cond.selects RX3 yX3_find yX3_find, Cond.initialized RX3, Cond.code yX3_find cX3_find 4 none, Cond.fieldLink RX3 37 "Threetwo$Rhythm" "known" "Z"]
def wsX6_ofField_r2 : List Cond := [Cond.fieldLink RX3 30 "Threetwo$Rhythm" "cost" "I", Cond.fieldLink RX3 34 "Threetwo$Rhythm" "frames" "I", Cond.fieldLink RX3 27 "Threetwo$Rhythm" "frameLooks" "[I", Cond.fieldLink RX3 21 "Threetwo$Rhythm" "firsts" "[I", Cond.fieldLink RX3 24 "Threetwo$Rhythm" "lengths" "[I", Cond.methodLink RX3 41 yX3_leastCost, Cond.instanceMethod yX3_leastCost, Cond.selects RX3 yX3_leastCost yX3_leastCost, Cond.code yX3_leastCost cX3_leastCost 8 (some .int), Cond.fieldLink RX3 11 "Threetwo$Rhythm" "behind" "[I", Cond.methodLink RX3 49 yX4_many, Cond.instanceMethod yX4_many, Cond.selects RX4 yX4_many yX4_many, Cond.code yX4_many cX4_many 1 (some .int), Cond.methodLink RX3 63 yX4_at, Cond.instanceMethod yX4_at, Cond.selects RX4 yX4_at yX4_at, Cond.code yX4_at cX4_at 2 (some .int), Cond.fieldLink RX4 15 "Threetwo$Row" "items" "[I", Cond.methodLink RX3 67 yX3_bestNext, Cond.instanceMethod yX3_bestNext, Cond.selects RX3 yX3_bestNext yX3_bestNext, Cond.code yX3_bestNext cX3_bestNext 10 (some .int), Cond.methodLink RX3 71 yX3_step]
def wsX6_ofField_r3 : List Cond := [Cond.static yX3_step, Cond.code yX3_step cX3_step 4 (some .int), Cond.methodLink RX3 74 yX3_bestFirst, Cond.instanceMethod yX3_bestFirst, Cond.selects RX3 yX3_bestFirst yX3_bestFirst, Cond.code yX3_bestFirst cX3_bestFirst 3 (some .int), Cond.methodLink RX3 45 yX3_tracePath, Cond.instanceMethod yX3_tracePath, Cond.selects RX3 yX3_tracePath yX3_tracePath, Cond.code yX3_tracePath cX3_tracePath 5 none, Cond.fieldLink RX3 15 "Threetwo$Rhythm" "places" "[I", Cond.methodLink RX3 55 yX3_gatherFrames, Cond.instanceMethod yX3_gatherFrames, Cond.selects RX3 yX3_gatherFrames yX3_gatherFrames, Cond.code yX3_gatherFrames cX3_gatherFrames 4 none, Cond.fieldLink RX3 18 "Threetwo$Rhythm" "frameOf" "[I", Cond.methodLink RX3 77 yX3_beginsFrame, Cond.instanceMethod yX3_beginsFrame, Cond.selects RX3 yX3_beginsFrame yX3_beginsFrame, Cond.code yX3_beginsFrame cX3_beginsFrame 3 (some .boolean), Cond.methodLink RX3 59 yX3_commonLook, Cond.static yX3_commonLook, Cond.code yX3_commonLook cX3_commonLook 8 (some .int), Cond.methodLink RX3 81 yX3_timesOf]
def wsX6_ofField_r4 : List Cond := [Cond.static yX3_timesOf, Cond.code yX3_timesOf cX3_timesOf 6 (some .int), Cond.methodLink RX6 95 yX4_at, Cond.methodLink RX6 142 yX5_isNoted, Cond.instanceMethod yX5_isNoted, Cond.selects RX5 yX5_isNoted yX5_isNoted, Cond.initialized RX5, Cond.code yX5_isNoted cX5_isNoted 3 (some .boolean), Cond.fieldLink RX5 34 "Threetwo$Strip" "notes" "I", Cond.fieldLink RX5 23 "Threetwo$Strip" "noteFields" "[I"]
def wsX6_ofField : List Cond := .code yX6_ofField cX6_ofField 3 (some .int) :: ((wsX6_ofField_r1 ++ (wsX6_ofField_r2 ++ (wsX6_ofField_r3 ++ wsX6_ofField_r4))) ++ wsX60 ++ wsX50 ++ wsX30 ++ wsX40 ++ (vx_atS RX6 71 "java/lang/IllegalArgumentException" ["java/lang/RuntimeException", "java/lang/Exception"]).filter goodWord ++ (vx_atS RX6 155 "java/lang/IndexOutOfBoundsException" ["java/lang/RuntimeException", "java/lang/Exception"]).filter goodWord)
def wsX6_found_r1 : List Cond := [Cond.classLink RX6 151 "java/lang/IndexOutOfBoundsException", Cond.initialized "java/lang/IndexOutOfBoundsException", Cond.classLink RX6 67 "java/lang/IllegalArgumentException", Cond.initialized "java/lang/IllegalArgumentException", Cond.fieldLink RX6 28 "Threetwo" "rhythm" "LThreetwo$Rhythm;", Cond.fieldLink RX6 21 "Threetwo" "strip" "LThreetwo$Strip;", Cond.fieldLink RX6 46 "Threetwo" "changeNow" "I", Cond.methodLink RX6 132 yX3_find, Cond.instanceMethod yX3_find, Cond.selects RX3 yX3_find yX3_find, Cond.initialized RX3, Cond.code yX3_find cX3_find 4 none, Cond.fieldLink RX3 37 "Threetwo$Rhythm" "known" "Z", Cond.fieldLink RX3 30 "Threetwo$Rhythm" "cost" "I", Cond.fieldLink RX3 34 "Threetwo$Rhythm" "frames" "I", Cond.fieldLink RX3 27 "Threetwo$Rhythm" "frameLooks" "[I", Cond.fieldLink RX3 21 "Threetwo$Rhythm" "firsts" "[I", Cond.fieldLink RX3 24 "Threetwo$Rhythm" "lengths" "[I", Cond.methodLink RX3 41 yX3_leastCost, Cond.instanceMethod yX3_leastCost, Cond.selects RX3 yX3_leastCost yX3_leastCost, Cond.code yX3_leastCost cX3_leastCost 8 (some .int), Cond.fieldLink RX3 11 "Threetwo$Rhythm" "behind" "[I", Cond.methodLink RX3 49 yX4_many]
def wsX6_found_r2 : List Cond := [Cond.instanceMethod yX4_many, Cond.selects RX4 yX4_many yX4_many, Cond.initialized RX4, Cond.code yX4_many cX4_many 1 (some .int), Cond.fieldLink RX4 21 "Threetwo$Row" "told" "I", Cond.methodLink RX3 63 yX4_at, Cond.instanceMethod yX4_at, Cond.selects RX4 yX4_at yX4_at, Cond.code yX4_at cX4_at 2 (some .int), Cond.fieldLink RX4 15 "Threetwo$Row" "items" "[I", Cond.methodLink RX3 67 yX3_bestNext, Cond.instanceMethod yX3_bestNext, Cond.selects RX3 yX3_bestNext yX3_bestNext, Cond.code yX3_bestNext cX3_bestNext 10 (some .int), Cond.methodLink RX3 71 yX3_step, Cond.static yX3_step, Cond.code yX3_step cX3_step 4 (some .int), Cond.methodLink RX3 74 yX3_bestFirst, Cond.instanceMethod yX3_bestFirst, Cond.selects RX3 yX3_bestFirst yX3_bestFirst, Cond.code yX3_bestFirst cX3_bestFirst 3 (some .int), Cond.methodLink RX3 45 yX3_tracePath, Cond.instanceMethod yX3_tracePath, Cond.selects RX3 yX3_tracePath yX3_tracePath]
def wsX6_found_r3 : List Cond := [Cond.code yX3_tracePath cX3_tracePath 5 none, Cond.fieldLink RX3 15 "Threetwo$Rhythm" "places" "[I", Cond.methodLink RX3 55 yX3_gatherFrames, Cond.instanceMethod yX3_gatherFrames, Cond.selects RX3 yX3_gatherFrames yX3_gatherFrames, Cond.code yX3_gatherFrames cX3_gatherFrames 4 none, Cond.fieldLink RX3 18 "Threetwo$Rhythm" "frameOf" "[I", Cond.methodLink RX3 77 yX3_beginsFrame, Cond.instanceMethod yX3_beginsFrame, Cond.selects RX3 yX3_beginsFrame yX3_beginsFrame, Cond.code yX3_beginsFrame cX3_beginsFrame 3 (some .boolean), Cond.methodLink RX3 59 yX3_commonLook, Cond.static yX3_commonLook, Cond.code yX3_commonLook cX3_commonLook 8 (some .int), Cond.methodLink RX3 81 yX3_timesOf, Cond.static yX3_timesOf, Cond.code yX3_timesOf cX3_timesOf 6 (some .int)]
def wsX6_found : List Cond := .code yX6_found cX6_found 3 (some .int) :: ((wsX6_found_r1 ++ (wsX6_found_r2 ++ wsX6_found_r3)) ++ wsX60 ++ wsX50 ++ wsX30 ++ wsX40 ++ (vx_atS RX6 155 "java/lang/IndexOutOfBoundsException" ["java/lang/RuntimeException", "java/lang/Exception"]).filter goodWord ++ (vx_atS RX6 71 "java/lang/IllegalArgumentException" ["java/lang/RuntimeException", "java/lang/Exception"]).filter goodWord)
def wsX6_apart_r1 : List Cond := [Cond.fieldLink RX6 35 "Threetwo" "prints" "LThreetwo$Prints;", Cond.methodLink RX6 111 yX6_requirePrint, Cond.instanceMethod yX6_requirePrint, Cond.selects RX6 yX6_requirePrint yX6_requirePrint, Cond.initialized RX6, Cond.code yX6_requirePrint cX6_requirePrint 2 none, Cond.classLink RX6 151 "java/lang/IndexOutOfBoundsException", Cond.initialized "java/lang/IndexOutOfBoundsException", Cond.methodLink RX6 273 yX2_has, Cond.instanceMethod yX2_has, Cond.selects RX2 yX2_has yX2_has, Cond.initialized RX2, Cond.code yX2_has cX2_has 2 (some .boolean), Cond.fieldLink RX2 28 "Threetwo$Prints" "many" "I", Cond.methodLink RX6 169 yX2_distance, Cond.instanceMethod yX2_distance, Cond.selects RX2 yX2_distance yX2_distance, Cond.code yX2_distance cX2_distance 7 (some .int), Cond.fieldLink RX2 11 "Threetwo$Prints" "rows" "[LThreetwo$Row;", Cond.fieldLink RX2 20 "Threetwo$Prints" "behind" "[I", Cond.methodLink RX2 32 yX4_many, Cond.instanceMethod yX4_many, Cond.selects RX4 yX4_many yX4_many, Cond.initialized RX4]
def wsX6_apart_r2 : List Cond := [Cond.code yX4_many cX4_many 1 (some .int), Cond.fieldLink RX4 21 "Threetwo$Row" "told" "I", Cond.methodLink RX2 35 yX2_leastFrom, Cond.instanceMethod yX2_leastFrom, Cond.selects RX2 yX2_leastFrom yX2_leastFrom, Cond.code yX2_leastFrom cX2_leastFrom 7 (some .int), Cond.methodLink RX2 51 Lib.Math.min.name, Cond.static Lib.Math.min.name, Cond.initialized "java/lang/Math", Cond.code Lib.Math.min.name Lib.Math.min.code 2 (some .int), Cond.methodLink RX2 43 yX4_has, Cond.instanceMethod yX4_has, Cond.selects RX4 yX4_has yX4_has, Cond.code yX4_has cX4_has 2 (some .boolean), Cond.methodLink RX2 56 yX4_at, Cond.instanceMethod yX4_at, Cond.selects RX4 yX4_at yX4_at, Cond.code yX4_at cX4_at 2 (some .int), Cond.fieldLink RX4 15 "Threetwo$Row" "items" "[I", Cond.methodLink RX2 60 yX2_together, Cond.static yX2_together, Cond.code yX2_together cX2_together 2 (some .int), Cond.methodLink RX2 63 Lib.Math.abs.name, Cond.static Lib.Math.abs.name]
def wsX6_apart_r3 : List Cond := [Cond.code Lib.Math.abs.name Lib.Math.abs.code 1 (some .int)]
def wsX6_apart : List Cond := .code yX6_apart cX6_apart 3 (some .int) :: ((wsX6_apart_r1 ++ (wsX6_apart_r2 ++ wsX6_apart_r3)) ++ wsX60 ++ wsX20 ++ wsX40 ++ (vx_atS RX6 155 "java/lang/IndexOutOfBoundsException" ["java/lang/RuntimeException", "java/lang/Exception"]).filter goodWord)
def wsX6_house_r1 : List Cond := [Cond.classLink RX6 67 "java/lang/IllegalArgumentException", Cond.initialized "java/lang/IllegalArgumentException", Cond.fieldLink RX6 14 "Threetwo" "reel" "LThreetwo$Row;", Cond.fieldLink RX6 21 "Threetwo" "strip" "LThreetwo$Strip;", Cond.fieldLink RX6 46 "Threetwo" "changeNow" "I", Cond.fieldLink RX6 28 "Threetwo" "rhythm" "LThreetwo$Rhythm;", Cond.fieldLink RX6 35 "Threetwo" "prints" "LThreetwo$Prints;", Cond.fieldLink RX6 42 "Threetwo" "buffer" "LThreetwo$Buffer;", Cond.fieldLink RX6 50 "Threetwo" "refused" "I", Cond.methodLink RX6 82 yX4_many, Cond.instanceMethod yX4_many, Cond.selects RX4 yX4_many yX4_many, Cond.initialized RX4, Cond.code yX4_many cX4_many 1 (some .int), Cond.fieldLink RX4 21 "Threetwo$Row" "told" "I", Cond.methodLink RX6 132 yX3_find, Cond.instanceMethod yX3_find, Cond.selects RX3 yX3_find yX3_find, Cond.initialized RX3, Cond.code yX3_find cX3_find 4 none, Cond.fieldLink RX3 37 "Threetwo$Rhythm" "known" "Z", Cond.fieldLink RX3 30 "Threetwo$Rhythm" "cost" "I", Cond.fieldLink RX3 34 "Threetwo$Rhythm" "frames" "I", Cond.fieldLink RX3 27 "Threetwo$Rhythm" "frameLooks" "[I"]
def wsX6_house_r2 : List Cond := [Cond.fieldLink RX3 21 "Threetwo$Rhythm" "firsts" "[I", Cond.fieldLink RX3 24 "Threetwo$Rhythm" "lengths" "[I", Cond.methodLink RX3 41 yX3_leastCost, Cond.instanceMethod yX3_leastCost, Cond.selects RX3 yX3_leastCost yX3_leastCost, Cond.code yX3_leastCost cX3_leastCost 8 (some .int), Cond.fieldLink RX3 11 "Threetwo$Rhythm" "behind" "[I", Cond.methodLink RX3 49 yX4_many, Cond.methodLink RX3 63 yX4_at, Cond.instanceMethod yX4_at, Cond.selects RX4 yX4_at yX4_at, Cond.code yX4_at cX4_at 2 (some .int), Cond.fieldLink RX4 15 "Threetwo$Row" "items" "[I", Cond.methodLink RX3 67 yX3_bestNext, Cond.instanceMethod yX3_bestNext, Cond.selects RX3 yX3_bestNext yX3_bestNext, Cond.code yX3_bestNext cX3_bestNext 10 (some .int), Cond.methodLink RX3 71 yX3_step, Cond.static yX3_step, Cond.code yX3_step cX3_step 4 (some .int), Cond.methodLink RX3 74 yX3_bestFirst, Cond.instanceMethod yX3_bestFirst, Cond.selects RX3 yX3_bestFirst yX3_bestFirst, Cond.code yX3_bestFirst cX3_bestFirst 3 (some .int)]
def wsX6_house_r3 : List Cond := [Cond.methodLink RX3 45 yX3_tracePath, Cond.instanceMethod yX3_tracePath, Cond.selects RX3 yX3_tracePath yX3_tracePath, Cond.code yX3_tracePath cX3_tracePath 5 none, Cond.fieldLink RX3 15 "Threetwo$Rhythm" "places" "[I", Cond.methodLink RX3 55 yX3_gatherFrames, Cond.instanceMethod yX3_gatherFrames, Cond.selects RX3 yX3_gatherFrames yX3_gatherFrames, Cond.code yX3_gatherFrames cX3_gatherFrames 4 none, Cond.fieldLink RX3 18 "Threetwo$Rhythm" "frameOf" "[I", Cond.methodLink RX3 77 yX3_beginsFrame, Cond.instanceMethod yX3_beginsFrame, Cond.selects RX3 yX3_beginsFrame yX3_beginsFrame, Cond.code yX3_beginsFrame cX3_beginsFrame 3 (some .boolean), Cond.methodLink RX3 59 yX3_commonLook, Cond.static yX3_commonLook, Cond.code yX3_commonLook cX3_commonLook 8 (some .int), Cond.methodLink RX3 81 yX3_timesOf, Cond.static yX3_timesOf, Cond.code yX3_timesOf cX3_timesOf 6 (some .int), Cond.methodLink RX6 192 yX0_leastDelay, Cond.instanceMethod yX0_leastDelay, Cond.selects RX0 yX0_leastDelay yX0_leastDelay, Cond.initialized RX0]
def wsX6_house_r4 : List Cond := [Cond.code yX0_leastDelay cX0_leastDelay 5 (some .int), Cond.fieldLink RX0 14 "Threetwo$Buffer" "sizes" "LThreetwo$Row;", Cond.fieldLink RX0 20 "Threetwo$Buffer" "rateNow" "I", Cond.methodLink RX0 39 Lib.Math.max.name, Cond.static Lib.Math.max.name, Cond.initialized "java/lang/Math", Cond.code Lib.Math.max.name Lib.Math.max.code 2 (some .int), Cond.methodLink RX0 28 yX4_many, Cond.methodLink RX0 31 yX4_at, Cond.methodLink RX6 195 yX0_peak, Cond.instanceMethod yX0_peak, Cond.selects RX0 yX0_peak yX0_peak, Cond.code yX0_peak cX0_peak 6 (some .int), Cond.methodLink RX0 44 yX0_leastDelay, Cond.methodLink RX0 24 yX0_sumOfSizes, Cond.instanceMethod yX0_sumOfSizes, Cond.selects RX0 yX0_sumOfSizes yX0_sumOfSizes, Cond.code yX0_sumOfSizes cX0_sumOfSizes 3 (some .int), Cond.methodLink RX0 35 yX0_cameIn, Cond.instanceMethod yX0_cameIn, Cond.selects RX0 yX0_cameIn yX0_cameIn, Cond.code yX0_cameIn cX0_cameIn 3 (some .int), Cond.methodLink RX0 47 Lib.Math.min.name, Cond.static Lib.Math.min.name]
def wsX6_house_r5 : List Cond := [Cond.code Lib.Math.min.name Lib.Math.min.code 2 (some .int)]
def wsX6_house : List Cond := .code yX6_house cX6_house 2 (some .int) :: ((wsX6_house_r1 ++ (wsX6_house_r2 ++ (wsX6_house_r3 ++ (wsX6_house_r4 ++ wsX6_house_r5)))) ++ wsX60 ++ wsX50 ++ wsX30 ++ wsX20 ++ wsX00 ++ wsX40 ++ (vx_atS RX6 71 "java/lang/IllegalArgumentException" ["java/lang/RuntimeException", "java/lang/Exception"]).filter goodWord)
def wsX6_label : List Cond := .code yX6_label cX6_label 2 (some .int) :: ([.classLink RX6 67 "java/lang/IllegalArgumentException", .initialized "java/lang/IllegalArgumentException", .constant RX6 204 (107892), .methodLink RX6 207 yX1_labelOf, .static yX1_labelOf, .initialized RX1, .code yX1_labelOf cX1_labelOf 4 (some .int)] ++ (vx_atS RX6 71 "java/lang/IllegalArgumentException" ["java/lang/RuntimeException", "java/lang/Exception"]).filter goodWord)
def wsX6_picture : List Cond := .code yX6_picture cX6_picture 2 (some .int) :: ([.methodLink RX6 212 yX1_pictureOf, .static yX1_pictureOf, .initialized RX1, .code yX1_pictureOf cX1_pictureOf 5 (some .int), .methodLink RX1 11 yX1_isLeftOut, .static yX1_isLeftOut, .code yX1_isLeftOut cX1_isLeftOut 3 (some .boolean)])
def wsX6_dry_r1 : List Cond := [Cond.classLink RX6 67 "java/lang/IllegalArgumentException", Cond.initialized "java/lang/IllegalArgumentException", Cond.fieldLink RX6 42 "Threetwo" "buffer" "LThreetwo$Buffer;", Cond.methodLink RX6 217 yX0_firstDry, Cond.instanceMethod yX0_firstDry, Cond.selects RX0 yX0_firstDry yX0_firstDry, Cond.initialized RX0, Cond.code yX0_firstDry cX0_firstDry 5 (some .int), Cond.fieldLink RX0 14 "Threetwo$Buffer" "sizes" "LThreetwo$Row;", Cond.methodLink RX0 24 yX0_sumOfSizes, Cond.instanceMethod yX0_sumOfSizes, Cond.selects RX0 yX0_sumOfSizes yX0_sumOfSizes, Cond.code yX0_sumOfSizes cX0_sumOfSizes 3 (some .int), Cond.methodLink RX0 28 yX4_many, Cond.instanceMethod yX4_many, Cond.selects RX4 yX4_many yX4_many, Cond.initialized RX4, Cond.code yX4_many cX4_many 1 (some .int), Cond.fieldLink RX4 21 "Threetwo$Row" "told" "I", Cond.methodLink RX0 31 yX4_at, Cond.instanceMethod yX4_at, Cond.selects RX4 yX4_at yX4_at, Cond.code yX4_at cX4_at 2 (some .int), Cond.fieldLink RX4 15 "Threetwo$Row" "items" "[I"]
def wsX6_dry_r2 : List Cond := [Cond.methodLink RX0 35 yX0_cameIn, Cond.instanceMethod yX0_cameIn, Cond.selects RX0 yX0_cameIn yX0_cameIn, Cond.code yX0_cameIn cX0_cameIn 3 (some .int), Cond.fieldLink RX0 20 "Threetwo$Buffer" "rateNow" "I", Cond.methodLink RX0 47 Lib.Math.min.name, Cond.static Lib.Math.min.name, Cond.initialized "java/lang/Math", Cond.code Lib.Math.min.name Lib.Math.min.code 2 (some .int)]
def wsX6_dry : List Cond := .code yX6_dry cX6_dry 2 (some .int) :: ((wsX6_dry_r1 ++ wsX6_dry_r2) ++ wsX60 ++ wsX00 ++ wsX40 ++ (vx_atS RX6 71 "java/lang/IllegalArgumentException" ["java/lang/RuntimeException", "java/lang/Exception"]).filter goodWord)
def wsX6_pairIsSound_r1 : List Cond := [Cond.fieldLink RX6 35 "Threetwo" "prints" "LThreetwo$Prints;", Cond.methodLink RX6 169 yX2_distance, Cond.instanceMethod yX2_distance, Cond.selects RX2 yX2_distance yX2_distance, Cond.initialized RX2, Cond.code yX2_distance cX2_distance 7 (some .int), Cond.fieldLink RX2 11 "Threetwo$Prints" "rows" "[LThreetwo$Row;", Cond.fieldLink RX2 20 "Threetwo$Prints" "behind" "[I", Cond.methodLink RX2 32 yX4_many, Cond.instanceMethod yX4_many, Cond.selects RX4 yX4_many yX4_many, Cond.initialized RX4, Cond.code yX4_many cX4_many 1 (some .int), Cond.fieldLink RX4 21 "Threetwo$Row" "told" "I", Cond.methodLink RX2 35 yX2_leastFrom, Cond.instanceMethod yX2_leastFrom, Cond.selects RX2 yX2_leastFrom yX2_leastFrom, Cond.code yX2_leastFrom cX2_leastFrom 7 (some .int), Cond.methodLink RX2 51 Lib.Math.min.name, Cond.static Lib.Math.min.name, Cond.initialized "java/lang/Math", Cond.code Lib.Math.min.name Lib.Math.min.code 2 (some .int), Cond.methodLink RX2 43 yX4_has, Cond.instanceMethod yX4_has]
def wsX6_pairIsSound_r2 : List Cond := [Cond.selects RX4 yX4_has yX4_has, Cond.code yX4_has cX4_has 2 (some .boolean), Cond.methodLink RX2 56 yX4_at, Cond.instanceMethod yX4_at, Cond.selects RX4 yX4_at yX4_at, Cond.code yX4_at cX4_at 2 (some .int), Cond.fieldLink RX4 15 "Threetwo$Row" "items" "[I", Cond.methodLink RX2 60 yX2_together, Cond.static yX2_together, Cond.code yX2_together cX2_together 2 (some .int), Cond.methodLink RX2 63 Lib.Math.abs.name, Cond.static Lib.Math.abs.name, Cond.code Lib.Math.abs.name Lib.Math.abs.code 1 (some .int)]
def wsX6_pairIsSound : List Cond := .code yX6_pairIsSound cX6_pairIsSound 5 (some .boolean) :: ((wsX6_pairIsSound_r1 ++ wsX6_pairIsSound_r2) ++ wsX60 ++ wsX20 ++ wsX40)
def wsX6_printsAreSound_r1 : List Cond := [Cond.fieldLink RX6 35 "Threetwo" "prints" "LThreetwo$Prints;", Cond.methodLink RX6 287 yX6_pairIsSound, Cond.instanceMethod yX6_pairIsSound, Cond.selects RX6 yX6_pairIsSound yX6_pairIsSound, Cond.initialized RX6, Cond.code yX6_pairIsSound cX6_pairIsSound 5 (some .boolean), Cond.methodLink RX6 169 yX2_distance, Cond.instanceMethod yX2_distance, Cond.selects RX2 yX2_distance yX2_distance, Cond.initialized RX2, Cond.code yX2_distance cX2_distance 7 (some .int), Cond.fieldLink RX2 11 "Threetwo$Prints" "rows" "[LThreetwo$Row;", Cond.fieldLink RX2 20 "Threetwo$Prints" "behind" "[I", Cond.methodLink RX2 32 yX4_many, Cond.instanceMethod yX4_many, Cond.selects RX4 yX4_many yX4_many, Cond.initialized RX4, Cond.code yX4_many cX4_many 1 (some .int), Cond.fieldLink RX4 21 "Threetwo$Row" "told" "I", Cond.methodLink RX2 35 yX2_leastFrom, Cond.instanceMethod yX2_leastFrom, Cond.selects RX2 yX2_leastFrom yX2_leastFrom, Cond.code yX2_leastFrom cX2_leastFrom 7 (some .int), Cond.methodLink RX2 51 Lib.Math.min.name]
def wsX6_printsAreSound_r2 : List Cond := [Cond.static Lib.Math.min.name, Cond.initialized "java/lang/Math", Cond.code Lib.Math.min.name Lib.Math.min.code 2 (some .int), Cond.methodLink RX2 43 yX4_has, Cond.instanceMethod yX4_has, Cond.selects RX4 yX4_has yX4_has, Cond.code yX4_has cX4_has 2 (some .boolean), Cond.methodLink RX2 56 yX4_at, Cond.instanceMethod yX4_at, Cond.selects RX4 yX4_at yX4_at, Cond.code yX4_at cX4_at 2 (some .int), Cond.fieldLink RX4 15 "Threetwo$Row" "items" "[I", Cond.methodLink RX2 60 yX2_together, Cond.static yX2_together, Cond.code yX2_together cX2_together 2 (some .int), Cond.methodLink RX2 63 Lib.Math.abs.name, Cond.static Lib.Math.abs.name, Cond.code Lib.Math.abs.name Lib.Math.abs.code 1 (some .int)]
def wsX6_printsAreSound : List Cond := .code yX6_printsAreSound cX6_printsAreSound 3 (some .boolean) :: ((wsX6_printsAreSound_r1 ++ wsX6_printsAreSound_r2) ++ wsX60 ++ wsX20 ++ wsX40)
def wsX6_bufferIsSound_r1 : List Cond := [Cond.fieldLink RX6 42 "Threetwo" "buffer" "LThreetwo$Buffer;", Cond.methodLink RX6 192 yX0_leastDelay, Cond.instanceMethod yX0_leastDelay, Cond.selects RX0 yX0_leastDelay yX0_leastDelay, Cond.initialized RX0, Cond.code yX0_leastDelay cX0_leastDelay 5 (some .int), Cond.fieldLink RX0 14 "Threetwo$Buffer" "sizes" "LThreetwo$Row;", Cond.fieldLink RX0 20 "Threetwo$Buffer" "rateNow" "I", Cond.methodLink RX0 39 Lib.Math.max.name, Cond.static Lib.Math.max.name, Cond.initialized "java/lang/Math", Cond.code Lib.Math.max.name Lib.Math.max.code 2 (some .int), Cond.methodLink RX0 28 yX4_many, Cond.instanceMethod yX4_many, Cond.selects RX4 yX4_many yX4_many, Cond.initialized RX4, Cond.code yX4_many cX4_many 1 (some .int), Cond.fieldLink RX4 21 "Threetwo$Row" "told" "I", Cond.methodLink RX0 31 yX4_at, Cond.instanceMethod yX4_at, Cond.selects RX4 yX4_at yX4_at, Cond.code yX4_at cX4_at 2 (some .int), Cond.fieldLink RX4 15 "Threetwo$Row" "items" "[I", Cond.methodLink RX6 217 yX0_firstDry]
def wsX6_bufferIsSound_r2 : List Cond := [Cond.instanceMethod yX0_firstDry, Cond.selects RX0 yX0_firstDry yX0_firstDry, Cond.code yX0_firstDry cX0_firstDry 5 (some .int), Cond.methodLink RX0 24 yX0_sumOfSizes, Cond.instanceMethod yX0_sumOfSizes, Cond.selects RX0 yX0_sumOfSizes yX0_sumOfSizes, Cond.code yX0_sumOfSizes cX0_sumOfSizes 3 (some .int), Cond.methodLink RX0 35 yX0_cameIn, Cond.instanceMethod yX0_cameIn, Cond.selects RX0 yX0_cameIn yX0_cameIn, Cond.code yX0_cameIn cX0_cameIn 3 (some .int), Cond.methodLink RX0 47 Lib.Math.min.name, Cond.static Lib.Math.min.name, Cond.code Lib.Math.min.name Lib.Math.min.code 2 (some .int)]
def wsX6_bufferIsSound : List Cond := .code yX6_bufferIsSound cX6_bufferIsSound 2 (some .boolean) :: ((wsX6_bufferIsSound_r1 ++ wsX6_bufferIsSound_r2) ++ wsX60 ++ wsX00 ++ wsX40)
def wsX6_framesAreSound_r1 : List Cond := [Cond.fieldLink RX6 28 "Threetwo" "rhythm" "LThreetwo$Rhythm;", Cond.fieldLink RX6 21 "Threetwo" "strip" "LThreetwo$Strip;", Cond.fieldLink RX6 46 "Threetwo" "changeNow" "I", Cond.methodLink RX6 132 yX3_find, Cond.instanceMethod yX3_find, Cond.selects RX3 yX3_find yX3_find, Cond.initialized RX3, Cond.code yX3_find cX3_find 4 none, Cond.fieldLink RX3 37 "Threetwo$Rhythm" "known" "Z", Cond.fieldLink RX3 30 "Threetwo$Rhythm" "cost" "I", Cond.fieldLink RX3 34 "Threetwo$Rhythm" "frames" "I", Cond.fieldLink RX3 27 "Threetwo$Rhythm" "frameLooks" "[I", Cond.fieldLink RX3 21 "Threetwo$Rhythm" "firsts" "[I", Cond.fieldLink RX3 24 "Threetwo$Rhythm" "lengths" "[I", Cond.methodLink RX3 41 yX3_leastCost, Cond.instanceMethod yX3_leastCost, Cond.selects RX3 yX3_leastCost yX3_leastCost, Cond.code yX3_leastCost cX3_leastCost 8 (some .int), Cond.fieldLink RX3 11 "Threetwo$Rhythm" "behind" "[I", Cond.methodLink RX3 49 yX4_many, Cond.instanceMethod yX4_many, Cond.selects RX4 yX4_many yX4_many, Cond.initialized RX4, Cond.code yX4_many cX4_many 1 (some .int)]
def wsX6_framesAreSound_r2 : List Cond := [Cond.fieldLink RX4 21 "Threetwo$Row" "told" "I", Cond.methodLink RX3 63 yX4_at, Cond.instanceMethod yX4_at, Cond.selects RX4 yX4_at yX4_at, Cond.code yX4_at cX4_at 2 (some .int), Cond.fieldLink RX4 15 "Threetwo$Row" "items" "[I", Cond.methodLink RX3 67 yX3_bestNext, Cond.instanceMethod yX3_bestNext, Cond.selects RX3 yX3_bestNext yX3_bestNext, Cond.code yX3_bestNext cX3_bestNext 10 (some .int), Cond.methodLink RX3 71 yX3_step, Cond.static yX3_step, Cond.code yX3_step cX3_step 4 (some .int), Cond.methodLink RX3 74 yX3_bestFirst, Cond.instanceMethod yX3_bestFirst, Cond.selects RX3 yX3_bestFirst yX3_bestFirst, Cond.code yX3_bestFirst cX3_bestFirst 3 (some .int), Cond.methodLink RX3 45 yX3_tracePath, Cond.instanceMethod yX3_tracePath, Cond.selects RX3 yX3_tracePath yX3_tracePath, Cond.code yX3_tracePath cX3_tracePath 5 none, Cond.fieldLink RX3 15 "Threetwo$Rhythm" "places" "[I", Cond.methodLink RX3 55 yX3_gatherFrames, Cond.instanceMethod yX3_gatherFrames]
def wsX6_framesAreSound_r3 : List Cond := [Cond.selects RX3 yX3_gatherFrames yX3_gatherFrames, Cond.code yX3_gatherFrames cX3_gatherFrames 4 none, Cond.fieldLink RX3 18 "Threetwo$Rhythm" "frameOf" "[I", Cond.methodLink RX3 77 yX3_beginsFrame, Cond.instanceMethod yX3_beginsFrame, Cond.selects RX3 yX3_beginsFrame yX3_beginsFrame, Cond.code yX3_beginsFrame cX3_beginsFrame 3 (some .boolean), Cond.methodLink RX3 59 yX3_commonLook, Cond.static yX3_commonLook, Cond.code yX3_commonLook cX3_commonLook 8 (some .int), Cond.methodLink RX3 81 yX3_timesOf, Cond.static yX3_timesOf, Cond.code yX3_timesOf cX3_timesOf 6 (some .int), Cond.methodLink RX6 82 yX4_many]
def wsX6_framesAreSound : List Cond := .code yX6_framesAreSound cX6_framesAreSound 3 (some .boolean) :: ((wsX6_framesAreSound_r1 ++ (wsX6_framesAreSound_r2 ++ wsX6_framesAreSound_r3)) ++ wsX60 ++ wsX50 ++ wsX30 ++ wsX40)
def wsX6_labelsAreSound : List Cond := .code yX6_labelsAreSound cX6_labelsAreSound 0 (some .boolean) :: ([.constant RX6 294 (107891), .methodLink RX6 291 yX1_goesBack, .static yX1_goesBack, .initialized RX1, .code yX1_goesBack cX1_goesBack 1 (some .boolean), .methodLink RX1 15 yX1_labelOf, .static yX1_labelOf, .code yX1_labelOf cX1_labelOf 4 (some .int), .methodLink RX1 19 yX1_pictureOf, .static yX1_pictureOf, .code yX1_pictureOf cX1_pictureOf 5 (some .int), .methodLink RX1 11 yX1_isLeftOut, .static yX1_isLeftOut, .code yX1_isLeftOut cX1_isLeftOut 3 (some .boolean)])
def wsX6_isSound_r1 : List Cond := [Cond.methodLink RX6 227 yX6_printsAreSound, Cond.instanceMethod yX6_printsAreSound, Cond.selects RX6 yX6_printsAreSound yX6_printsAreSound, Cond.initialized RX6, Cond.code yX6_printsAreSound cX6_printsAreSound 3 (some .boolean), Cond.fieldLink RX6 35 "Threetwo" "prints" "LThreetwo$Prints;", Cond.methodLink RX6 287 yX6_pairIsSound, Cond.instanceMethod yX6_pairIsSound, Cond.selects RX6 yX6_pairIsSound yX6_pairIsSound, Cond.code yX6_pairIsSound cX6_pairIsSound 5 (some .boolean), Cond.methodLink RX6 169 yX2_distance, Cond.instanceMethod yX2_distance, Cond.selects RX2 yX2_distance yX2_distance, Cond.initialized RX2, Cond.code yX2_distance cX2_distance 7 (some .int), Cond.fieldLink RX2 11 "Threetwo$Prints" "rows" "[LThreetwo$Row;", Cond.fieldLink RX2 20 "Threetwo$Prints" "behind" "[I", Cond.methodLink RX2 32 yX4_many, Cond.instanceMethod yX4_many, Cond.selects RX4 yX4_many yX4_many, Cond.initialized RX4, Cond.code yX4_many cX4_many 1 (some .int), Cond.fieldLink RX4 21 "Threetwo$Row" "told" "I", Cond.methodLink RX2 35 yX2_leastFrom]
def wsX6_isSound_r2 : List Cond := [Cond.instanceMethod yX2_leastFrom, Cond.selects RX2 yX2_leastFrom yX2_leastFrom, Cond.code yX2_leastFrom cX2_leastFrom 7 (some .int), Cond.methodLink RX2 51 Lib.Math.min.name, Cond.static Lib.Math.min.name, Cond.initialized "java/lang/Math", Cond.code Lib.Math.min.name Lib.Math.min.code 2 (some .int), Cond.methodLink RX2 43 yX4_has, Cond.instanceMethod yX4_has, Cond.selects RX4 yX4_has yX4_has, Cond.code yX4_has cX4_has 2 (some .boolean), Cond.methodLink RX2 56 yX4_at, Cond.instanceMethod yX4_at, Cond.selects RX4 yX4_at yX4_at, Cond.code yX4_at cX4_at 2 (some .int), Cond.fieldLink RX4 15 "Threetwo$Row" "items" "[I", Cond.methodLink RX2 60 yX2_together, Cond.static yX2_together, Cond.code yX2_together cX2_together 2 (some .int), Cond.methodLink RX2 63 Lib.Math.abs.name, Cond.static Lib.Math.abs.name, Cond.code Lib.Math.abs.name Lib.Math.abs.code 1 (some .int), Cond.methodLink RX6 231 yX6_bufferIsSound, Cond.instanceMethod yX6_bufferIsSound]
def wsX6_isSound_r3 : List Cond := [Cond.selects RX6 yX6_bufferIsSound yX6_bufferIsSound, Cond.code yX6_bufferIsSound cX6_bufferIsSound 2 (some .boolean), Cond.fieldLink RX6 42 "Threetwo" "buffer" "LThreetwo$Buffer;", Cond.methodLink RX6 192 yX0_leastDelay, Cond.instanceMethod yX0_leastDelay, Cond.selects RX0 yX0_leastDelay yX0_leastDelay, Cond.initialized RX0, Cond.code yX0_leastDelay cX0_leastDelay 5 (some .int), Cond.fieldLink RX0 14 "Threetwo$Buffer" "sizes" "LThreetwo$Row;", Cond.fieldLink RX0 20 "Threetwo$Buffer" "rateNow" "I", Cond.methodLink RX0 39 Lib.Math.max.name, Cond.static Lib.Math.max.name, Cond.code Lib.Math.max.name Lib.Math.max.code 2 (some .int), Cond.methodLink RX0 28 yX4_many, Cond.methodLink RX0 31 yX4_at, Cond.methodLink RX6 217 yX0_firstDry, Cond.instanceMethod yX0_firstDry, Cond.selects RX0 yX0_firstDry yX0_firstDry, Cond.code yX0_firstDry cX0_firstDry 5 (some .int), Cond.methodLink RX0 24 yX0_sumOfSizes, Cond.instanceMethod yX0_sumOfSizes, Cond.selects RX0 yX0_sumOfSizes yX0_sumOfSizes, Cond.code yX0_sumOfSizes cX0_sumOfSizes 3 (some .int), Cond.methodLink RX0 35 yX0_cameIn]
def wsX6_isSound_r4 : List Cond := [Cond.instanceMethod yX0_cameIn, Cond.selects RX0 yX0_cameIn yX0_cameIn, Cond.code yX0_cameIn cX0_cameIn 3 (some .int), Cond.methodLink RX0 47 Lib.Math.min.name, Cond.methodLink RX6 234 yX6_framesAreSound, Cond.instanceMethod yX6_framesAreSound, Cond.selects RX6 yX6_framesAreSound yX6_framesAreSound, Cond.code yX6_framesAreSound cX6_framesAreSound 3 (some .boolean), Cond.fieldLink RX6 28 "Threetwo" "rhythm" "LThreetwo$Rhythm;", Cond.fieldLink RX6 21 "Threetwo" "strip" "LThreetwo$Strip;", Cond.fieldLink RX6 46 "Threetwo" "changeNow" "I", Cond.methodLink RX6 132 yX3_find, Cond.instanceMethod yX3_find, Cond.selects RX3 yX3_find yX3_find, Cond.initialized RX3, Cond.code yX3_find cX3_find 4 none, Cond.fieldLink RX3 37 "Threetwo$Rhythm" "known" "Z", Cond.fieldLink RX3 30 "Threetwo$Rhythm" "cost" "I", Cond.fieldLink RX3 34 "Threetwo$Rhythm" "frames" "I", Cond.fieldLink RX3 27 "Threetwo$Rhythm" "frameLooks" "[I", Cond.fieldLink RX3 21 "Threetwo$Rhythm" "firsts" "[I", Cond.fieldLink RX3 24 "Threetwo$Rhythm" "lengths" "[I", Cond.methodLink RX3 41 yX3_leastCost, Cond.instanceMethod yX3_leastCost]
def wsX6_isSound_r5 : List Cond := [Cond.selects RX3 yX3_leastCost yX3_leastCost, Cond.code yX3_leastCost cX3_leastCost 8 (some .int), Cond.fieldLink RX3 11 "Threetwo$Rhythm" "behind" "[I", Cond.methodLink RX3 49 yX4_many, Cond.methodLink RX3 63 yX4_at, Cond.methodLink RX3 67 yX3_bestNext, Cond.instanceMethod yX3_bestNext, Cond.selects RX3 yX3_bestNext yX3_bestNext, Cond.code yX3_bestNext cX3_bestNext 10 (some .int), Cond.methodLink RX3 71 yX3_step, Cond.static yX3_step, Cond.code yX3_step cX3_step 4 (some .int), Cond.methodLink RX3 74 yX3_bestFirst, Cond.instanceMethod yX3_bestFirst, Cond.selects RX3 yX3_bestFirst yX3_bestFirst, Cond.code yX3_bestFirst cX3_bestFirst 3 (some .int), Cond.methodLink RX3 45 yX3_tracePath, Cond.instanceMethod yX3_tracePath, Cond.selects RX3 yX3_tracePath yX3_tracePath, Cond.code yX3_tracePath cX3_tracePath 5 none, Cond.fieldLink RX3 15 "Threetwo$Rhythm" "places" "[I", Cond.methodLink RX3 55 yX3_gatherFrames, Cond.instanceMethod yX3_gatherFrames, Cond.selects RX3 yX3_gatherFrames yX3_gatherFrames]
def wsX6_isSound_r6 : List Cond := [Cond.code yX3_gatherFrames cX3_gatherFrames 4 none, Cond.fieldLink RX3 18 "Threetwo$Rhythm" "frameOf" "[I", Cond.methodLink RX3 77 yX3_beginsFrame, Cond.instanceMethod yX3_beginsFrame, Cond.selects RX3 yX3_beginsFrame yX3_beginsFrame, Cond.code yX3_beginsFrame cX3_beginsFrame 3 (some .boolean), Cond.methodLink RX3 59 yX3_commonLook, Cond.static yX3_commonLook, Cond.code yX3_commonLook cX3_commonLook 8 (some .int), Cond.methodLink RX3 81 yX3_timesOf, Cond.static yX3_timesOf, Cond.code yX3_timesOf cX3_timesOf 6 (some .int), Cond.methodLink RX6 82 yX4_many, Cond.methodLink RX6 237 yX6_labelsAreSound, Cond.static yX6_labelsAreSound, Cond.code yX6_labelsAreSound cX6_labelsAreSound 0 (some .boolean), Cond.constant RX6 294 (107891), Cond.methodLink RX6 291 yX1_goesBack, Cond.static yX1_goesBack, Cond.initialized RX1, Cond.code yX1_goesBack cX1_goesBack 1 (some .boolean), Cond.methodLink RX1 15 yX1_labelOf, Cond.static yX1_labelOf, Cond.code yX1_labelOf cX1_labelOf 4 (some .int)]
def wsX6_isSound_r7 : List Cond := [Cond.methodLink RX1 19 yX1_pictureOf, Cond.static yX1_pictureOf, Cond.code yX1_pictureOf cX1_pictureOf 5 (some .int), Cond.methodLink RX1 11 yX1_isLeftOut, Cond.static yX1_isLeftOut, Cond.code yX1_isLeftOut cX1_isLeftOut 3 (some .boolean)]
def wsX6_isSound : List Cond := .code yX6_isSound cX6_isSound 1 (some .boolean) :: ((wsX6_isSound_r1 ++ (wsX6_isSound_r2 ++ (wsX6_isSound_r3 ++ (wsX6_isSound_r4 ++ (wsX6_isSound_r5 ++ (wsX6_isSound_r6 ++ wsX6_isSound_r7)))))) ++ wsX60 ++ wsX20 ++ wsX40 ++ wsX00 ++ wsX50 ++ wsX30)
def wsX6_withFields_r1 : List Cond := [Cond.fieldLink RX6 21 "Threetwo" "strip" "LThreetwo$Strip;", Cond.constantLong RX6 242 (31), Cond.methodLink RX6 82 yX4_many, Cond.instanceMethod yX4_many, Cond.selects RX4 yX4_many yX4_many, Cond.initialized RX4, Cond.code yX4_many cX4_many 1 (some .int), Cond.fieldLink RX4 21 "Threetwo$Row" "told" "I", Cond.methodLink RX6 295 yX6_ofField, Cond.instanceMethod yX6_ofField, Cond.selects RX6 yX6_ofField yX6_ofField, Cond.initialized RX6, Cond.code yX6_ofField cX6_ofField 3 (some .int), Cond.classLink RX6 67 "java/lang/IllegalArgumentException", Cond.initialized "java/lang/IllegalArgumentException", Cond.fieldLink RX6 28 "Threetwo" "rhythm" "LThreetwo$Rhythm;", Cond.fieldLink RX6 46 "Threetwo" "changeNow" "I", Cond.methodLink RX6 86 yX6_requireField, Cond.instanceMethod yX6_requireField, Cond.selects RX6 yX6_requireField yX6_requireField, Cond.code yX6_requireField cX6_requireField 2 none, Cond.classLink RX6 151 "java/lang/IndexOutOfBoundsException", Cond.initialized "java/lang/IndexOutOfBoundsException", Cond.methodLink RX6 268 yX4_has]
def wsX6_withFields_r2 : List Cond := [Cond.instanceMethod yX4_has, Cond.selects RX4 yX4_has yX4_has, Cond.code yX4_has cX4_has 2 (some .boolean), Cond.methodLink RX6 132 yX3_find, Cond.instanceMethod yX3_find, Cond.selects RX3 yX3_find yX3_find, Cond.initialized RX3, Cond.code yX3_find cX3_find 4 none, Cond.fieldLink RX3 37 "Threetwo$Rhythm" "known" "Z", Cond.fieldLink RX3 30 "Threetwo$Rhythm" "cost" "I", Cond.fieldLink RX3 34 "Threetwo$Rhythm" "frames" "I", Cond.fieldLink RX3 27 "Threetwo$Rhythm" "frameLooks" "[I", Cond.fieldLink RX3 21 "Threetwo$Rhythm" "firsts" "[I", Cond.fieldLink RX3 24 "Threetwo$Rhythm" "lengths" "[I", Cond.methodLink RX3 41 yX3_leastCost, Cond.instanceMethod yX3_leastCost, Cond.selects RX3 yX3_leastCost yX3_leastCost, Cond.code yX3_leastCost cX3_leastCost 8 (some .int), Cond.fieldLink RX3 11 "Threetwo$Rhythm" "behind" "[I", Cond.methodLink RX3 49 yX4_many, Cond.methodLink RX3 63 yX4_at, Cond.instanceMethod yX4_at, Cond.selects RX4 yX4_at yX4_at, Cond.code yX4_at cX4_at 2 (some .int)]
def wsX6_withFields_r3 : List Cond := [Cond.fieldLink RX4 15 "Threetwo$Row" "items" "[I", Cond.methodLink RX3 67 yX3_bestNext, Cond.instanceMethod yX3_bestNext, Cond.selects RX3 yX3_bestNext yX3_bestNext, Cond.code yX3_bestNext cX3_bestNext 10 (some .int), Cond.methodLink RX3 71 yX3_step, Cond.static yX3_step, Cond.code yX3_step cX3_step 4 (some .int), Cond.methodLink RX3 74 yX3_bestFirst, Cond.instanceMethod yX3_bestFirst, Cond.selects RX3 yX3_bestFirst yX3_bestFirst, Cond.code yX3_bestFirst cX3_bestFirst 3 (some .int), Cond.methodLink RX3 45 yX3_tracePath, Cond.instanceMethod yX3_tracePath, Cond.selects RX3 yX3_tracePath yX3_tracePath, Cond.code yX3_tracePath cX3_tracePath 5 none, Cond.fieldLink RX3 15 "Threetwo$Rhythm" "places" "[I", Cond.methodLink RX3 55 yX3_gatherFrames, Cond.instanceMethod yX3_gatherFrames, Cond.selects RX3 yX3_gatherFrames yX3_gatherFrames, Cond.code yX3_gatherFrames cX3_gatherFrames 4 none, Cond.fieldLink RX3 18 "Threetwo$Rhythm" "frameOf" "[I", Cond.methodLink RX3 77 yX3_beginsFrame, Cond.instanceMethod yX3_beginsFrame]
def wsX6_withFields_r4 : List Cond := [Cond.selects RX3 yX3_beginsFrame yX3_beginsFrame, Cond.code yX3_beginsFrame cX3_beginsFrame 3 (some .boolean), Cond.methodLink RX3 59 yX3_commonLook, Cond.static yX3_commonLook, Cond.code yX3_commonLook cX3_commonLook 8 (some .int), Cond.methodLink RX3 81 yX3_timesOf, Cond.static yX3_timesOf, Cond.code yX3_timesOf cX3_timesOf 6 (some .int), Cond.methodLink RX6 95 yX4_at, Cond.methodLink RX6 142 yX5_isNoted, Cond.instanceMethod yX5_isNoted, Cond.selects RX5 yX5_isNoted yX5_isNoted, Cond.initialized RX5, Cond.code yX5_isNoted cX5_isNoted 3 (some .boolean), Cond.fieldLink RX5 34 "Threetwo$Strip" "notes" "I", Cond.fieldLink RX5 23 "Threetwo$Strip" "noteFields" "[I"]
def wsX6_withFields : List Cond := .code yX6_withFields cX6_withFields 7 (some .long) :: ((wsX6_withFields_r1 ++ (wsX6_withFields_r2 ++ (wsX6_withFields_r3 ++ wsX6_withFields_r4))) ++ wsX60 ++ wsX50 ++ wsX40 ++ wsX30 ++ (vx_atS RX6 71 "java/lang/IllegalArgumentException" ["java/lang/RuntimeException", "java/lang/Exception"]).filter goodWord ++ (vx_atS RX6 155 "java/lang/IndexOutOfBoundsException" ["java/lang/RuntimeException", "java/lang/Exception"]).filter goodWord)
def wsX6_withFoundFrames_r1 : List Cond := [Cond.fieldLink RX6 28 "Threetwo" "rhythm" "LThreetwo$Rhythm;", Cond.constantLong RX6 242 (31), Cond.methodLink RX6 298 yX6_found, Cond.instanceMethod yX6_found, Cond.selects RX6 yX6_found yX6_found, Cond.initialized RX6, Cond.code yX6_found cX6_found 3 (some .int), Cond.classLink RX6 151 "java/lang/IndexOutOfBoundsException", Cond.initialized "java/lang/IndexOutOfBoundsException", Cond.classLink RX6 67 "java/lang/IllegalArgumentException", Cond.initialized "java/lang/IllegalArgumentException", Cond.fieldLink RX6 21 "Threetwo" "strip" "LThreetwo$Strip;", Cond.fieldLink RX6 46 "Threetwo" "changeNow" "I", Cond.methodLink RX6 132 yX3_find, Cond.instanceMethod yX3_find, Cond.selects RX3 yX3_find yX3_find, Cond.initialized RX3, Cond.code yX3_find cX3_find 4 none, Cond.fieldLink RX3 37 "Threetwo$Rhythm" "known" "Z", Cond.fieldLink RX3 30 "Threetwo$Rhythm" "cost" "I", Cond.fieldLink RX3 34 "Threetwo$Rhythm" "frames" "I", Cond.fieldLink RX3 27 "Threetwo$Rhythm" "frameLooks" "[I", Cond.fieldLink RX3 21 "Threetwo$Rhythm" "firsts" "[I", Cond.fieldLink RX3 24 "Threetwo$Rhythm" "lengths" "[I"]
def wsX6_withFoundFrames_r2 : List Cond := [Cond.methodLink RX3 41 yX3_leastCost, Cond.instanceMethod yX3_leastCost, Cond.selects RX3 yX3_leastCost yX3_leastCost, Cond.code yX3_leastCost cX3_leastCost 8 (some .int), Cond.fieldLink RX3 11 "Threetwo$Rhythm" "behind" "[I", Cond.methodLink RX3 49 yX4_many, Cond.instanceMethod yX4_many, Cond.selects RX4 yX4_many yX4_many, Cond.initialized RX4, Cond.code yX4_many cX4_many 1 (some .int), Cond.fieldLink RX4 21 "Threetwo$Row" "told" "I", Cond.methodLink RX3 63 yX4_at, Cond.instanceMethod yX4_at, Cond.selects RX4 yX4_at yX4_at, Cond.code yX4_at cX4_at 2 (some .int), Cond.fieldLink RX4 15 "Threetwo$Row" "items" "[I", Cond.methodLink RX3 67 yX3_bestNext, Cond.instanceMethod yX3_bestNext, Cond.selects RX3 yX3_bestNext yX3_bestNext, Cond.code yX3_bestNext cX3_bestNext 10 (some .int), Cond.methodLink RX3 71 yX3_step, Cond.static yX3_step, Cond.code yX3_step cX3_step 4 (some .int), Cond.methodLink RX3 74 yX3_bestFirst]
def wsX6_withFoundFrames_r3 : List Cond := [Cond.instanceMethod yX3_bestFirst, Cond.selects RX3 yX3_bestFirst yX3_bestFirst, Cond.code yX3_bestFirst cX3_bestFirst 3 (some .int), Cond.methodLink RX3 45 yX3_tracePath, Cond.instanceMethod yX3_tracePath, Cond.selects RX3 yX3_tracePath yX3_tracePath, Cond.code yX3_tracePath cX3_tracePath 5 none, Cond.fieldLink RX3 15 "Threetwo$Rhythm" "places" "[I", Cond.methodLink RX3 55 yX3_gatherFrames, Cond.instanceMethod yX3_gatherFrames, Cond.selects RX3 yX3_gatherFrames yX3_gatherFrames, Cond.code yX3_gatherFrames cX3_gatherFrames 4 none, Cond.fieldLink RX3 18 "Threetwo$Rhythm" "frameOf" "[I", Cond.methodLink RX3 77 yX3_beginsFrame, Cond.instanceMethod yX3_beginsFrame, Cond.selects RX3 yX3_beginsFrame yX3_beginsFrame, Cond.code yX3_beginsFrame cX3_beginsFrame 3 (some .boolean), Cond.methodLink RX3 59 yX3_commonLook, Cond.static yX3_commonLook, Cond.code yX3_commonLook cX3_commonLook 8 (some .int), Cond.methodLink RX3 81 yX3_timesOf, Cond.static yX3_timesOf, Cond.code yX3_timesOf cX3_timesOf 6 (some .int)]
def wsX6_withFoundFrames : List Cond := .code yX6_withFoundFrames cX6_withFoundFrames 7 (some .long) :: ((wsX6_withFoundFrames_r1 ++ (wsX6_withFoundFrames_r2 ++ wsX6_withFoundFrames_r3)) ++ wsX60 ++ wsX30 ++ wsX50 ++ wsX40 ++ (vx_atS RX6 155 "java/lang/IndexOutOfBoundsException" ["java/lang/RuntimeException", "java/lang/Exception"]).filter goodWord ++ (vx_atS RX6 71 "java/lang/IllegalArgumentException" ["java/lang/RuntimeException", "java/lang/Exception"]).filter goodWord)
def wsX6_withPrints_r1 : List Cond := [Cond.fieldLink RX6 35 "Threetwo" "prints" "LThreetwo$Prints;", Cond.constantLong RX6 242 (31), Cond.methodLink RX6 169 yX2_distance, Cond.instanceMethod yX2_distance, Cond.selects RX2 yX2_distance yX2_distance, Cond.initialized RX2, Cond.code yX2_distance cX2_distance 7 (some .int), Cond.fieldLink RX2 11 "Threetwo$Prints" "rows" "[LThreetwo$Row;", Cond.fieldLink RX2 20 "Threetwo$Prints" "behind" "[I", Cond.methodLink RX2 32 yX4_many, Cond.instanceMethod yX4_many, Cond.selects RX4 yX4_many yX4_many, Cond.initialized RX4, Cond.code yX4_many cX4_many 1 (some .int), Cond.fieldLink RX4 21 "Threetwo$Row" "told" "I", Cond.methodLink RX2 35 yX2_leastFrom, Cond.instanceMethod yX2_leastFrom, Cond.selects RX2 yX2_leastFrom yX2_leastFrom, Cond.code yX2_leastFrom cX2_leastFrom 7 (some .int), Cond.methodLink RX2 51 Lib.Math.min.name, Cond.static Lib.Math.min.name, Cond.initialized "java/lang/Math", Cond.code Lib.Math.min.name Lib.Math.min.code 2 (some .int), Cond.methodLink RX2 43 yX4_has]
def wsX6_withPrints_r2 : List Cond := [Cond.instanceMethod yX4_has, Cond.selects RX4 yX4_has yX4_has, Cond.code yX4_has cX4_has 2 (some .boolean), Cond.methodLink RX2 56 yX4_at, Cond.instanceMethod yX4_at, Cond.selects RX4 yX4_at yX4_at, Cond.code yX4_at cX4_at 2 (some .int), Cond.fieldLink RX4 15 "Threetwo$Row" "items" "[I", Cond.methodLink RX2 60 yX2_together, Cond.static yX2_together, Cond.code yX2_together cX2_together 2 (some .int), Cond.methodLink RX2 63 Lib.Math.abs.name, Cond.static Lib.Math.abs.name, Cond.code Lib.Math.abs.name Lib.Math.abs.code 1 (some .int), Cond.methodLink RX6 177 yX2_layOut, Cond.instanceMethod yX2_layOut, Cond.selects RX2 yX2_layOut yX2_layOut, Cond.code yX2_layOut cX2_layOut 9 (some .int), Cond.fieldLink RX2 24 "Threetwo$Prints" "signs" "[C", Cond.methodLink RX2 39 yX2_distance, Cond.methodLink RX2 47 yX2_signAt, Cond.instanceMethod yX2_signAt, Cond.selects RX2 yX2_signAt yX2_signAt, Cond.code yX2_signAt cX2_signAt 6 (some .char)]
def wsX6_withPrints : List Cond := .code yX6_withPrints cX6_withPrints 7 (some .long) :: ((wsX6_withPrints_r1 ++ wsX6_withPrints_r2) ++ wsX60 ++ wsX20 ++ wsX40)
def wsX6_digest_r1 : List Cond := [Cond.constantLong RX6 240 (8311), Cond.constantLong RX6 242 (31), Cond.fieldLink RX6 21 "Threetwo" "strip" "LThreetwo$Strip;", Cond.methodLink RX6 244 yX6_house, Cond.instanceMethod yX6_house, Cond.selects RX6 yX6_house yX6_house, Cond.initialized RX6, Cond.code yX6_house cX6_house 2 (some .int), Cond.classLink RX6 67 "java/lang/IllegalArgumentException", Cond.initialized "java/lang/IllegalArgumentException", Cond.fieldLink RX6 14 "Threetwo" "reel" "LThreetwo$Row;", Cond.fieldLink RX6 46 "Threetwo" "changeNow" "I", Cond.fieldLink RX6 28 "Threetwo" "rhythm" "LThreetwo$Rhythm;", Cond.fieldLink RX6 35 "Threetwo" "prints" "LThreetwo$Prints;", Cond.fieldLink RX6 42 "Threetwo" "buffer" "LThreetwo$Buffer;", Cond.fieldLink RX6 50 "Threetwo" "refused" "I", Cond.methodLink RX6 82 yX4_many, Cond.instanceMethod yX4_many, Cond.selects RX4 yX4_many yX4_many, Cond.initialized RX4, Cond.code yX4_many cX4_many 1 (some .int), Cond.fieldLink RX4 21 "Threetwo$Row" "told" "I", Cond.methodLink RX6 132 yX3_find, Cond.instanceMethod yX3_find]
def wsX6_digest_r2 : List Cond := [Cond.selects RX3 yX3_find yX3_find, Cond.initialized RX3, Cond.code yX3_find cX3_find 4 none, Cond.fieldLink RX3 37 "Threetwo$Rhythm" "known" "Z", Cond.fieldLink RX3 30 "Threetwo$Rhythm" "cost" "I", Cond.fieldLink RX3 34 "Threetwo$Rhythm" "frames" "I", Cond.fieldLink RX3 27 "Threetwo$Rhythm" "frameLooks" "[I", Cond.fieldLink RX3 21 "Threetwo$Rhythm" "firsts" "[I", Cond.fieldLink RX3 24 "Threetwo$Rhythm" "lengths" "[I", Cond.methodLink RX3 41 yX3_leastCost, Cond.instanceMethod yX3_leastCost, Cond.selects RX3 yX3_leastCost yX3_leastCost, Cond.code yX3_leastCost cX3_leastCost 8 (some .int), Cond.fieldLink RX3 11 "Threetwo$Rhythm" "behind" "[I", Cond.methodLink RX3 49 yX4_many, Cond.methodLink RX3 63 yX4_at, Cond.instanceMethod yX4_at, Cond.selects RX4 yX4_at yX4_at, Cond.code yX4_at cX4_at 2 (some .int), Cond.fieldLink RX4 15 "Threetwo$Row" "items" "[I", Cond.methodLink RX3 67 yX3_bestNext, Cond.instanceMethod yX3_bestNext, Cond.selects RX3 yX3_bestNext yX3_bestNext, Cond.code yX3_bestNext cX3_bestNext 10 (some .int)]
def wsX6_digest_r3 : List Cond := [Cond.methodLink RX3 71 yX3_step, Cond.static yX3_step, Cond.code yX3_step cX3_step 4 (some .int), Cond.methodLink RX3 74 yX3_bestFirst, Cond.instanceMethod yX3_bestFirst, Cond.selects RX3 yX3_bestFirst yX3_bestFirst, Cond.code yX3_bestFirst cX3_bestFirst 3 (some .int), Cond.methodLink RX3 45 yX3_tracePath, Cond.instanceMethod yX3_tracePath, Cond.selects RX3 yX3_tracePath yX3_tracePath, Cond.code yX3_tracePath cX3_tracePath 5 none, Cond.fieldLink RX3 15 "Threetwo$Rhythm" "places" "[I", Cond.methodLink RX3 55 yX3_gatherFrames, Cond.instanceMethod yX3_gatherFrames, Cond.selects RX3 yX3_gatherFrames yX3_gatherFrames, Cond.code yX3_gatherFrames cX3_gatherFrames 4 none, Cond.fieldLink RX3 18 "Threetwo$Rhythm" "frameOf" "[I", Cond.methodLink RX3 77 yX3_beginsFrame, Cond.instanceMethod yX3_beginsFrame, Cond.selects RX3 yX3_beginsFrame yX3_beginsFrame, Cond.code yX3_beginsFrame cX3_beginsFrame 3 (some .boolean), Cond.methodLink RX3 59 yX3_commonLook, Cond.static yX3_commonLook, Cond.code yX3_commonLook cX3_commonLook 8 (some .int)]
def wsX6_digest_r4 : List Cond := [Cond.methodLink RX3 81 yX3_timesOf, Cond.static yX3_timesOf, Cond.code yX3_timesOf cX3_timesOf 6 (some .int), Cond.methodLink RX6 192 yX0_leastDelay, Cond.instanceMethod yX0_leastDelay, Cond.selects RX0 yX0_leastDelay yX0_leastDelay, Cond.initialized RX0, Cond.code yX0_leastDelay cX0_leastDelay 5 (some .int), Cond.fieldLink RX0 14 "Threetwo$Buffer" "sizes" "LThreetwo$Row;", Cond.fieldLink RX0 20 "Threetwo$Buffer" "rateNow" "I", Cond.methodLink RX0 39 Lib.Math.max.name, Cond.static Lib.Math.max.name, Cond.initialized "java/lang/Math", Cond.code Lib.Math.max.name Lib.Math.max.code 2 (some .int), Cond.methodLink RX0 28 yX4_many, Cond.methodLink RX0 31 yX4_at, Cond.methodLink RX6 195 yX0_peak, Cond.instanceMethod yX0_peak, Cond.selects RX0 yX0_peak yX0_peak, Cond.code yX0_peak cX0_peak 6 (some .int), Cond.methodLink RX0 44 yX0_leastDelay, Cond.methodLink RX0 24 yX0_sumOfSizes, Cond.instanceMethod yX0_sumOfSizes, Cond.selects RX0 yX0_sumOfSizes yX0_sumOfSizes]
def wsX6_digest_r5 : List Cond := [Cond.code yX0_sumOfSizes cX0_sumOfSizes 3 (some .int), Cond.methodLink RX0 35 yX0_cameIn, Cond.instanceMethod yX0_cameIn, Cond.selects RX0 yX0_cameIn yX0_cameIn, Cond.code yX0_cameIn cX0_cameIn 3 (some .int), Cond.methodLink RX0 47 Lib.Math.min.name, Cond.static Lib.Math.min.name, Cond.code Lib.Math.min.name Lib.Math.min.code 2 (some .int), Cond.methodLink RX6 247 yX6_withFields, Cond.instanceMethod yX6_withFields, Cond.selects RX6 yX6_withFields yX6_withFields, Cond.code yX6_withFields cX6_withFields 7 (some .long), Cond.methodLink RX6 295 yX6_ofField, Cond.instanceMethod yX6_ofField, Cond.selects RX6 yX6_ofField yX6_ofField, Cond.code yX6_ofField cX6_ofField 3 (some .int), Cond.methodLink RX6 86 yX6_requireField, Cond.instanceMethod yX6_requireField, Cond.selects RX6 yX6_requireField yX6_requireField, Cond.code yX6_requireField cX6_requireField 2 none, Cond.classLink RX6 151 "java/lang/IndexOutOfBoundsException", Cond.initialized "java/lang/IndexOutOfBoundsException", Cond.methodLink RX6 268 yX4_has, Cond.instanceMethod yX4_has]
def wsX6_digest_r6 : List Cond := [Cond.selects RX4 yX4_has yX4_has, Cond.code yX4_has cX4_has 2 (some .boolean), Cond.methodLink RX6 95 yX4_at, Cond.methodLink RX6 142 yX5_isNoted, Cond.instanceMethod yX5_isNoted, Cond.selects RX5 yX5_isNoted yX5_isNoted, Cond.initialized RX5, Cond.code yX5_isNoted cX5_isNoted 3 (some .boolean), Cond.fieldLink RX5 34 "Threetwo$Strip" "notes" "I", Cond.fieldLink RX5 23 "Threetwo$Strip" "noteFields" "[I", Cond.methodLink RX6 251 yX6_withFoundFrames, Cond.instanceMethod yX6_withFoundFrames, Cond.selects RX6 yX6_withFoundFrames yX6_withFoundFrames, Cond.code yX6_withFoundFrames cX6_withFoundFrames 7 (some .long), Cond.methodLink RX6 298 yX6_found, Cond.instanceMethod yX6_found, Cond.selects RX6 yX6_found yX6_found, Cond.code yX6_found cX6_found 3 (some .int), Cond.methodLink RX6 254 yX6_withPrints, Cond.instanceMethod yX6_withPrints, Cond.selects RX6 yX6_withPrints yX6_withPrints, Cond.code yX6_withPrints cX6_withPrints 7 (some .long), Cond.methodLink RX6 169 yX2_distance, Cond.instanceMethod yX2_distance]
def wsX6_digest_r7 : List Cond := [Cond.selects RX2 yX2_distance yX2_distance, Cond.initialized RX2, Cond.code yX2_distance cX2_distance 7 (some .int), Cond.fieldLink RX2 11 "Threetwo$Prints" "rows" "[LThreetwo$Row;", Cond.fieldLink RX2 20 "Threetwo$Prints" "behind" "[I", Cond.methodLink RX2 32 yX4_many, Cond.methodLink RX2 35 yX2_leastFrom, Cond.instanceMethod yX2_leastFrom, Cond.selects RX2 yX2_leastFrom yX2_leastFrom, Cond.code yX2_leastFrom cX2_leastFrom 7 (some .int), Cond.methodLink RX2 51 Lib.Math.min.name, Cond.methodLink RX2 43 yX4_has, Cond.methodLink RX2 56 yX4_at, Cond.methodLink RX2 60 yX2_together, Cond.static yX2_together, Cond.code yX2_together cX2_together 2 (some .int), Cond.methodLink RX2 63 Lib.Math.abs.name, Cond.static Lib.Math.abs.name, Cond.code Lib.Math.abs.name Lib.Math.abs.code 1 (some .int), Cond.methodLink RX6 177 yX2_layOut, Cond.instanceMethod yX2_layOut, Cond.selects RX2 yX2_layOut yX2_layOut, Cond.code yX2_layOut cX2_layOut 9 (some .int), Cond.fieldLink RX2 24 "Threetwo$Prints" "signs" "[C"]
def wsX6_digest_r8 : List Cond := [Cond.methodLink RX2 39 yX2_distance, Cond.methodLink RX2 47 yX2_signAt, Cond.instanceMethod yX2_signAt, Cond.selects RX2 yX2_signAt yX2_signAt, Cond.code yX2_signAt cX2_signAt 6 (some .char), Cond.methodLink RX6 257 yX6_label, Cond.instanceMethod yX6_label, Cond.selects RX6 yX6_label yX6_label, Cond.code yX6_label cX6_label 2 (some .int), Cond.constant RX6 204 (107892), Cond.methodLink RX6 207 yX1_labelOf, Cond.static yX1_labelOf, Cond.initialized RX1, Cond.code yX1_labelOf cX1_labelOf 4 (some .int), Cond.methodLink RX6 260 yX6_dry, Cond.instanceMethod yX6_dry, Cond.selects RX6 yX6_dry yX6_dry, Cond.code yX6_dry cX6_dry 2 (some .int), Cond.methodLink RX6 217 yX0_firstDry, Cond.instanceMethod yX0_firstDry, Cond.selects RX0 yX0_firstDry yX0_firstDry, Cond.code yX0_firstDry cX0_firstDry 5 (some .int), Cond.methodLink RX6 201 yX5_nameLooks, Cond.instanceMethod yX5_nameLooks]
def wsX6_digest_r9 : List Cond := [Cond.selects RX5 yX5_nameLooks yX5_nameLooks, Cond.code yX5_nameLooks cX5_nameLooks 4 (some .int), Cond.fieldLink RX5 14 "Threetwo$Strip" "looks" "LThreetwo$Row;", Cond.fieldLink RX5 30 "Threetwo$Strip" "signs" "[C", Cond.methodLink RX5 41 yX4_many, Cond.methodLink RX5 59 yX5_firstLike, Cond.instanceMethod yX5_firstLike, Cond.selects RX5 yX5_firstLike yX5_firstLike, Cond.code yX5_firstLike cX5_firstLike 3 (some .int), Cond.methodLink RX5 45 yX4_at, Cond.methodLink RX6 263 yX6_isSound, Cond.instanceMethod yX6_isSound, Cond.selects RX6 yX6_isSound yX6_isSound, Cond.code yX6_isSound cX6_isSound 1 (some .boolean), Cond.methodLink RX6 227 yX6_printsAreSound, Cond.instanceMethod yX6_printsAreSound, Cond.selects RX6 yX6_printsAreSound yX6_printsAreSound, Cond.code yX6_printsAreSound cX6_printsAreSound 3 (some .boolean), Cond.methodLink RX6 287 yX6_pairIsSound, Cond.instanceMethod yX6_pairIsSound, Cond.selects RX6 yX6_pairIsSound yX6_pairIsSound, Cond.code yX6_pairIsSound cX6_pairIsSound 5 (some .boolean), Cond.methodLink RX6 231 yX6_bufferIsSound, Cond.instanceMethod yX6_bufferIsSound]
def wsX6_digest_r10 : List Cond := [Cond.selects RX6 yX6_bufferIsSound yX6_bufferIsSound, Cond.code yX6_bufferIsSound cX6_bufferIsSound 2 (some .boolean), Cond.methodLink RX6 234 yX6_framesAreSound, Cond.instanceMethod yX6_framesAreSound, Cond.selects RX6 yX6_framesAreSound yX6_framesAreSound, Cond.code yX6_framesAreSound cX6_framesAreSound 3 (some .boolean), Cond.methodLink RX6 237 yX6_labelsAreSound, Cond.static yX6_labelsAreSound, Cond.code yX6_labelsAreSound cX6_labelsAreSound 0 (some .boolean), Cond.constant RX6 294 (107891), Cond.methodLink RX6 291 yX1_goesBack, Cond.static yX1_goesBack, Cond.code yX1_goesBack cX1_goesBack 1 (some .boolean), Cond.methodLink RX1 15 yX1_labelOf, Cond.methodLink RX1 19 yX1_pictureOf, Cond.static yX1_pictureOf, Cond.code yX1_pictureOf cX1_pictureOf 5 (some .int), Cond.methodLink RX1 11 yX1_isLeftOut, Cond.static yX1_isLeftOut, Cond.code yX1_isLeftOut cX1_isLeftOut 3 (some .boolean)]
def wsX6_digest : List Cond := .code yX6_digest cX6_digest 4 (some .long) :: ((wsX6_digest_r1 ++ (wsX6_digest_r2 ++ (wsX6_digest_r3 ++ (wsX6_digest_r4 ++ (wsX6_digest_r5 ++ (wsX6_digest_r6 ++ (wsX6_digest_r7 ++ (wsX6_digest_r8 ++ (wsX6_digest_r9 ++ wsX6_digest_r10))))))))) ++ wsX60 ++ wsX50 ++ wsX30 ++ wsX20 ++ wsX00 ++ wsX40 ++ (vx_atS RX6 71 "java/lang/IllegalArgumentException" ["java/lang/RuntimeException", "java/lang/Exception"]).filter goodWord ++ (vx_atS RX6 155 "java/lang/IndexOutOfBoundsException" ["java/lang/RuntimeException", "java/lang/Exception"]).filter goodWord)
def wsJ9_abs_0f7a4 : List Cond := .code yJ9_abs_0f7a4 cJ9_abs_0f7a4 1 (some .int) :: ([])
def wsJ9_max_7cf53 : List Cond := .code yJ9_max_7cf53 cJ9_max_7cf53 2 (some .int) :: ([])
def wsJ9_min_7cf53 : List Cond := .code yJ9_min_7cf53 cJ9_min_7cf53 2 (some .int) :: ([])
def wsL_below : List Cond := .code yL_below cL_below 2 (some .int) :: ([.constant RL 7 (2147483647)])
def wsL_cell : List Cond := .code yL_cell cL_cell 2 (some .int) :: ([.constant RL 8 (790386105)])
def wsL_act_r1 : List Cond := [Cond.classLink RL 82 "java/lang/IndexOutOfBoundsException", Cond.classLink RL 84 "java/lang/IllegalArgumentException", Cond.classLink RL 86 "java/lang/IllegalStateException", Cond.methodLink RL 18 yL_below, Cond.static yL_below, Cond.initialized RL, Cond.code yL_below cL_below 2 (some .int), Cond.constant RL 7 (2147483647), Cond.methodLink RL 51 yX6_frame, Cond.instanceMethod yX6_frame, Cond.selects RX6 yX6_frame yX6_frame, Cond.initialized RX6, Cond.code yX6_frame cX6_frame 3 (some .int), Cond.classLink RX6 60 "java/lang/IllegalStateException", Cond.initialized "java/lang/IllegalStateException", Cond.fieldLink RX6 14 "Threetwo" "reel" "LThreetwo$Row;", Cond.methodLink RX6 53 yX6_requireLook, Cond.static yX6_requireLook, Cond.code yX6_requireLook cX6_requireLook 1 none, Cond.classLink RX6 67 "java/lang/IllegalArgumentException", Cond.initialized "java/lang/IllegalArgumentException", Cond.methodLink RX6 56 yX4_add, Cond.instanceMethod yX4_add, Cond.selects RX4 yX4_add yX4_add]
def wsL_act_r2 : List Cond := [Cond.initialized RX4, Cond.code yX4_add cX4_add 2 (some .int), Cond.fieldLink RX4 21 "Threetwo$Row" "told" "I", Cond.fieldLink RX4 15 "Threetwo$Row" "items" "[I", Cond.methodLink RL 54 yX6_pull, Cond.instanceMethod yX6_pull, Cond.selects RX6 yX6_pull yX6_pull, Cond.code yX6_pull cX6_pull 2 (some .int), Cond.fieldLink RX6 21 "Threetwo" "strip" "LThreetwo$Strip;", Cond.fieldLink RX6 28 "Threetwo" "rhythm" "LThreetwo$Rhythm;", Cond.methodLink RX6 72 yX5_pullDown, Cond.instanceMethod yX5_pullDown, Cond.selects RX5 yX5_pullDown yX5_pullDown, Cond.initialized RX5, Cond.code yX5_pullDown cX5_pullDown 6 none, Cond.fieldLink RX5 14 "Threetwo$Strip" "looks" "LThreetwo$Row;", Cond.fieldLink RX5 34 "Threetwo$Strip" "notes" "I", Cond.methodLink RX5 38 yX4_clear, Cond.instanceMethod yX4_clear, Cond.selects RX4 yX4_clear yX4_clear, Cond.code yX4_clear cX4_clear 1 none, Cond.methodLink RX5 41 yX4_many, Cond.instanceMethod yX4_many, Cond.selects RX4 yX4_many yX4_many]
def wsL_act_r3 : List Cond := [Cond.code yX4_many cX4_many 1 (some .int), Cond.methodLink RX5 45 yX4_at, Cond.instanceMethod yX4_at, Cond.selects RX4 yX4_at yX4_at, Cond.code yX4_at cX4_at 2 (some .int), Cond.methodLink RX5 49 yX4_add, Cond.methodLink RX6 76 yX3_forget, Cond.instanceMethod yX3_forget, Cond.selects RX3 yX3_forget yX3_forget, Cond.initialized RX3, Cond.code yX3_forget cX3_forget 1 none, Cond.fieldLink RX3 37 "Threetwo$Rhythm" "known" "Z", Cond.methodLink RX6 82 yX4_many, Cond.methodLink RL 57 yX6_cut, Cond.instanceMethod yX6_cut, Cond.selects RX6 yX6_cut yX6_cut, Cond.code yX6_cut cX6_cut 3 (some .int), Cond.methodLink RX6 86 yX6_requireField, Cond.instanceMethod yX6_requireField, Cond.selects RX6 yX6_requireField yX6_requireField, Cond.code yX6_requireField cX6_requireField 2 none, Cond.classLink RX6 151 "java/lang/IndexOutOfBoundsException", Cond.initialized "java/lang/IndexOutOfBoundsException", Cond.methodLink RX6 268 yX4_has]
def wsL_act_r4 : List Cond := [Cond.instanceMethod yX4_has, Cond.selects RX4 yX4_has yX4_has, Cond.code yX4_has cX4_has 2 (some .boolean), Cond.methodLink RX6 91 yX5_cutOut, Cond.instanceMethod yX5_cutOut, Cond.selects RX5 yX5_cutOut yX5_cutOut, Cond.code yX5_cutOut cX5_cutOut 3 none, Cond.methodLink RX5 52 yX4_remove, Cond.instanceMethod yX4_remove, Cond.selects RX4 yX4_remove yX4_remove, Cond.code yX4_remove cX4_remove 4 none, Cond.methodLink RX4 25 yX4_has, Cond.methodLink RL 60 yX6_spoil, Cond.instanceMethod yX6_spoil, Cond.selects RX6 yX6_spoil yX6_spoil, Cond.code yX6_spoil cX6_spoil 4 (some .int), Cond.methodLink RX6 95 yX4_at, Cond.methodLink RX6 98 yX5_note, Cond.instanceMethod yX5_note, Cond.selects RX5 yX5_note yX5_note, Cond.code yX5_note cX5_note 3 none, Cond.fieldLink RX5 23 "Threetwo$Strip" "noteFields" "[I", Cond.fieldLink RX5 27 "Threetwo$Strip" "noteLooks" "[I", Cond.methodLink RX5 56 yX4_put]
def wsL_act_r5 : List Cond := [Cond.instanceMethod yX4_put, Cond.selects RX4 yX4_put yX4_put, Cond.code yX4_put cX4_put 3 none, Cond.methodLink RL 63 yX6_heal, Cond.instanceMethod yX6_heal, Cond.selects RX6 yX6_heal yX6_heal, Cond.code yX6_heal cX6_heal 2 (some .int), Cond.methodLink RX6 101 yX5_takeBack, Cond.instanceMethod yX5_takeBack, Cond.selects RX5 yX5_takeBack yX5_takeBack, Cond.code yX5_takeBack cX5_takeBack 2 (some .int), Cond.methodLink RL 67 yX6_change, Cond.instanceMethod yX6_change, Cond.selects RX6 yX6_change yX6_change, Cond.code yX6_change cX6_change 3 (some .int), Cond.fieldLink RX6 46 "Threetwo" "changeNow" "I", Cond.methodLink RL 70 yX6_print, Cond.instanceMethod yX6_print, Cond.selects RX6 yX6_print yX6_print, Cond.code yX6_print cX6_print 2 (some .int), Cond.fieldLink RX6 35 "Threetwo" "prints" "LThreetwo$Prints;", Cond.methodLink RX6 106 yX2_begin, Cond.instanceMethod yX2_begin, Cond.selects RX2 yX2_begin yX2_begin]
def wsL_act_r6 : List Cond := [Cond.initialized RX2, Cond.code yX2_begin cX2_begin 1 (some .int), Cond.fieldLink RX2 28 "Threetwo$Prints" "many" "I", Cond.methodLink RL 73 yX6_look, Cond.instanceMethod yX6_look, Cond.selects RX6 yX6_look yX6_look, Cond.code yX6_look cX6_look 4 (some .int), Cond.methodLink RX6 111 yX6_requirePrint, Cond.instanceMethod yX6_requirePrint, Cond.selects RX6 yX6_requirePrint yX6_requirePrint, Cond.code yX6_requirePrint cX6_requirePrint 2 none, Cond.methodLink RX6 273 yX2_has, Cond.instanceMethod yX2_has, Cond.selects RX2 yX2_has yX2_has, Cond.code yX2_has cX2_has 2 (some .boolean), Cond.methodLink RX6 114 yX2_row, Cond.instanceMethod yX2_row, Cond.selects RX2 yX2_row yX2_row, Cond.code yX2_row cX2_row 2 (some (.object "Threetwo$Row")), Cond.fieldLink RX2 11 "Threetwo$Prints" "rows" "[LThreetwo$Row;", Cond.methodLink RL 76 yX6_rate, Cond.instanceMethod yX6_rate, Cond.selects RX6 yX6_rate yX6_rate, Cond.code yX6_rate cX6_rate 3 (some .int)]
def wsL_act_r7 : List Cond := [Cond.fieldLink RX6 42 "Threetwo" "buffer" "LThreetwo$Buffer;", Cond.methodLink RL 79 yX6_size, Cond.instanceMethod yX6_size, Cond.selects RX6 yX6_size yX6_size, Cond.code yX6_size cX6_size 3 (some .int)]
def wsL_act : List Cond := .codeWith yL_act cL_act 4 none [(0, 262, 265, 82), (0, 262, 267, 84), (0, 262, 269, 86)] :: ((wsL_act_r1 ++ (wsL_act_r2 ++ (wsL_act_r3 ++ (wsL_act_r4 ++ (wsL_act_r5 ++ (wsL_act_r6 ++ wsL_act_r7)))))) ++ wsX60 ++ wsX40 ++ wsX50 ++ wsX30 ++ wsX20 ++ wsX00 ++ (vx_atS RX6 64 "java/lang/IllegalStateException" ["java/lang/RuntimeException", "java/lang/Exception"]).filter goodWord ++ (vx_atS RX6 71 "java/lang/IllegalArgumentException" ["java/lang/RuntimeException", "java/lang/Exception"]).filter goodWord ++ (vx_atS RX6 155 "java/lang/IndexOutOfBoundsException" ["java/lang/RuntimeException", "java/lang/Exception"]).filter goodWord)
def wsL_law0_r1 : List Cond := [Cond.classLink RL 9 RX6, Cond.instantiable RX6 7, Cond.initialized RX6, Cond.constant RL 26 (107892), Cond.methodLink RL 11 yX6_init, Cond.instanceMethod yX6_init, Cond.code yX6_init cX6_init 1 none, Cond.methodLink RX6 1 objectInit, Cond.instanceMethod objectInit, Cond.code objectInit ⟨#[0xb1]⟩ 1 none, Cond.classLink RX6 7 RX4, Cond.instantiable RX4 2, Cond.initialized RX4, Cond.fieldLink RX6 14 "Threetwo" "reel" "LThreetwo$Row;", Cond.classLink RX6 18 RX5, Cond.instantiable RX5 6, Cond.initialized RX5, Cond.fieldLink RX6 21 "Threetwo" "strip" "LThreetwo$Strip;", Cond.classLink RX6 25 RX3, Cond.instantiable RX3 9, Cond.initialized RX3, Cond.fieldLink RX6 28 "Threetwo" "rhythm" "LThreetwo$Rhythm;", Cond.classLink RX6 32 RX2, Cond.instantiable RX2 4]
def wsL_law0_r2 : List Cond := [Cond.initialized RX2, Cond.fieldLink RX6 35 "Threetwo" "prints" "LThreetwo$Prints;", Cond.classLink RX6 39 RX0, Cond.instantiable RX0 2, Cond.initialized RX0, Cond.fieldLink RX6 42 "Threetwo" "buffer" "LThreetwo$Buffer;", Cond.fieldLink RX6 46 "Threetwo" "changeNow" "I", Cond.fieldLink RX6 50 "Threetwo" "refused" "I", Cond.methodLink RX6 11 yX4_init, Cond.instanceMethod yX4_init, Cond.code yX4_init cX4_init 2 none, Cond.methodLink RX4 3 objectInit, Cond.methodLink RX4 9 Lib.Math.max.name, Cond.static Lib.Math.max.name, Cond.initialized "java/lang/Math", Cond.code Lib.Math.max.name Lib.Math.max.code 2 (some .int), Cond.arrayClass .int, Cond.fieldLink RX4 15 "Threetwo$Row" "items" "[I", Cond.fieldLink RX4 21 "Threetwo$Row" "told" "I", Cond.methodLink RX6 20 yX5_init, Cond.instanceMethod yX5_init, Cond.code yX5_init cX5_init 1 none, Cond.methodLink RX5 3 objectInit, Cond.classLink RX5 9 RX4]
def wsL_law0_r3 : List Cond := [Cond.fieldLink RX5 14 "Threetwo$Strip" "looks" "LThreetwo$Row;", Cond.fieldLink RX5 20 "Threetwo$Strip" "rest" "LThreetwo$Row;", Cond.fieldLink RX5 23 "Threetwo$Strip" "noteFields" "[I", Cond.fieldLink RX5 27 "Threetwo$Strip" "noteLooks" "[I", Cond.arrayClass .char, Cond.fieldLink RX5 30 "Threetwo$Strip" "signs" "[C", Cond.fieldLink RX5 34 "Threetwo$Strip" "notes" "I", Cond.methodLink RX5 11 yX4_init, Cond.methodLink RX6 27 yX3_init, Cond.instanceMethod yX3_init, Cond.code yX3_init cX3_init 1 none, Cond.methodLink RX3 3 objectInit, Cond.fieldLink RX3 11 "Threetwo$Rhythm" "behind" "[I", Cond.fieldLink RX3 15 "Threetwo$Rhythm" "places" "[I", Cond.fieldLink RX3 18 "Threetwo$Rhythm" "frameOf" "[I", Cond.fieldLink RX3 21 "Threetwo$Rhythm" "firsts" "[I", Cond.fieldLink RX3 24 "Threetwo$Rhythm" "lengths" "[I", Cond.fieldLink RX3 27 "Threetwo$Rhythm" "frameLooks" "[I", Cond.fieldLink RX3 30 "Threetwo$Rhythm" "cost" "I", Cond.fieldLink RX3 34 "Threetwo$Rhythm" "frames" "I", Cond.fieldLink RX3 37 "Threetwo$Rhythm" "known" "Z", Cond.methodLink RX6 34 yX2_init, Cond.instanceMethod yX2_init, Cond.code yX2_init cX2_init 2 none]
def wsL_law0_r4 : List Cond := [Cond.methodLink RX2 3 objectInit, Cond.classLink RX2 9 RX4, Cond.fieldLink RX2 11 "Threetwo$Prints" "rows" "[LThreetwo$Row;", Cond.fieldLink RX2 20 "Threetwo$Prints" "behind" "[I", Cond.fieldLink RX2 24 "Threetwo$Prints" "signs" "[C", Cond.fieldLink RX2 28 "Threetwo$Prints" "many" "I", Cond.methodLink RX2 17 yX4_init, Cond.methodLink RX6 41 yX0_init, Cond.instanceMethod yX0_init, Cond.code yX0_init cX0_init 1 none, Cond.methodLink RX0 3 objectInit, Cond.classLink RX0 9 RX4, Cond.fieldLink RX0 14 "Threetwo$Buffer" "sizes" "LThreetwo$Row;", Cond.fieldLink RX0 20 "Threetwo$Buffer" "rateNow" "I", Cond.methodLink RX0 11 yX4_init, Cond.methodLink RL 12 yL_cell, Cond.static yL_cell, Cond.initialized RL, Cond.code yL_cell cL_cell 2 (some .int), Cond.constant RL 8 (790386105), Cond.methodLink RL 18 yL_below, Cond.static yL_below, Cond.code yL_below cL_below 2 (some .int), Cond.constant RL 7 (2147483647)]
def wsL_law0_r5 : List Cond := [Cond.methodLink RL 22 yL_act, Cond.static yL_act, Cond.codeWith yL_act cL_act 4 none [(0, 262, 265, 82), (0, 262, 267, 84), (0, 262, 269, 86)], Cond.classLink RL 82 "java/lang/IndexOutOfBoundsException", Cond.classLink RL 84 "java/lang/IllegalArgumentException", Cond.classLink RL 86 "java/lang/IllegalStateException", Cond.methodLink RL 51 yX6_frame, Cond.instanceMethod yX6_frame, Cond.selects RX6 yX6_frame yX6_frame, Cond.code yX6_frame cX6_frame 3 (some .int), Cond.classLink RX6 60 "java/lang/IllegalStateException", Cond.initialized "java/lang/IllegalStateException", Cond.methodLink RX6 53 yX6_requireLook, Cond.static yX6_requireLook, Cond.code yX6_requireLook cX6_requireLook 1 none, Cond.classLink RX6 67 "java/lang/IllegalArgumentException", Cond.initialized "java/lang/IllegalArgumentException", Cond.methodLink RX6 56 yX4_add, Cond.instanceMethod yX4_add, Cond.selects RX4 yX4_add yX4_add, Cond.code yX4_add cX4_add 2 (some .int), Cond.methodLink RL 54 yX6_pull, Cond.instanceMethod yX6_pull, Cond.selects RX6 yX6_pull yX6_pull]
def wsL_law0_r6 : List Cond := [Cond.code yX6_pull cX6_pull 2 (some .int), Cond.methodLink RX6 72 yX5_pullDown, Cond.instanceMethod yX5_pullDown, Cond.selects RX5 yX5_pullDown yX5_pullDown, Cond.code yX5_pullDown cX5_pullDown 6 none, Cond.methodLink RX5 38 yX4_clear, Cond.instanceMethod yX4_clear, Cond.selects RX4 yX4_clear yX4_clear, Cond.code yX4_clear cX4_clear 1 none, Cond.methodLink RX5 41 yX4_many, Cond.instanceMethod yX4_many, Cond.selects RX4 yX4_many yX4_many, Cond.code yX4_many cX4_many 1 (some .int), Cond.methodLink RX5 45 yX4_at, Cond.instanceMethod yX4_at, Cond.selects RX4 yX4_at yX4_at, Cond.code yX4_at cX4_at 2 (some .int), Cond.methodLink RX5 49 yX4_add, Cond.methodLink RX6 76 yX3_forget, Cond.instanceMethod yX3_forget, Cond.selects RX3 yX3_forget yX3_forget, Cond.code yX3_forget cX3_forget 1 none, Cond.methodLink RX6 82 yX4_many, Cond.methodLink RL 57 yX6_cut]
def wsL_law0_r7 : List Cond := [Cond.instanceMethod yX6_cut, Cond.selects RX6 yX6_cut yX6_cut, Cond.code yX6_cut cX6_cut 3 (some .int), Cond.methodLink RX6 86 yX6_requireField, Cond.instanceMethod yX6_requireField, Cond.selects RX6 yX6_requireField yX6_requireField, Cond.code yX6_requireField cX6_requireField 2 none, Cond.classLink RX6 151 "java/lang/IndexOutOfBoundsException", Cond.initialized "java/lang/IndexOutOfBoundsException", Cond.methodLink RX6 268 yX4_has, Cond.instanceMethod yX4_has, Cond.selects RX4 yX4_has yX4_has, Cond.code yX4_has cX4_has 2 (some .boolean), Cond.methodLink RX6 91 yX5_cutOut, Cond.instanceMethod yX5_cutOut, Cond.selects RX5 yX5_cutOut yX5_cutOut, Cond.code yX5_cutOut cX5_cutOut 3 none, Cond.methodLink RX5 52 yX4_remove, Cond.instanceMethod yX4_remove, Cond.selects RX4 yX4_remove yX4_remove, Cond.code yX4_remove cX4_remove 4 none, Cond.methodLink RX4 25 yX4_has, Cond.methodLink RL 60 yX6_spoil, Cond.instanceMethod yX6_spoil]
def wsL_law0_r8 : List Cond := [Cond.selects RX6 yX6_spoil yX6_spoil, Cond.code yX6_spoil cX6_spoil 4 (some .int), Cond.methodLink RX6 95 yX4_at, Cond.methodLink RX6 98 yX5_note, Cond.instanceMethod yX5_note, Cond.selects RX5 yX5_note yX5_note, Cond.code yX5_note cX5_note 3 none, Cond.methodLink RX5 56 yX4_put, Cond.instanceMethod yX4_put, Cond.selects RX4 yX4_put yX4_put, Cond.code yX4_put cX4_put 3 none, Cond.methodLink RL 63 yX6_heal, Cond.instanceMethod yX6_heal, Cond.selects RX6 yX6_heal yX6_heal, Cond.code yX6_heal cX6_heal 2 (some .int), Cond.methodLink RX6 101 yX5_takeBack, Cond.instanceMethod yX5_takeBack, Cond.selects RX5 yX5_takeBack yX5_takeBack, Cond.code yX5_takeBack cX5_takeBack 2 (some .int), Cond.methodLink RL 67 yX6_change, Cond.instanceMethod yX6_change, Cond.selects RX6 yX6_change yX6_change, Cond.code yX6_change cX6_change 3 (some .int), Cond.methodLink RL 70 yX6_print]
def wsL_law0_r9 : List Cond := [Cond.instanceMethod yX6_print, Cond.selects RX6 yX6_print yX6_print, Cond.code yX6_print cX6_print 2 (some .int), Cond.methodLink RX6 106 yX2_begin, Cond.instanceMethod yX2_begin, Cond.selects RX2 yX2_begin yX2_begin, Cond.code yX2_begin cX2_begin 1 (some .int), Cond.methodLink RL 73 yX6_look, Cond.instanceMethod yX6_look, Cond.selects RX6 yX6_look yX6_look, Cond.code yX6_look cX6_look 4 (some .int), Cond.methodLink RX6 111 yX6_requirePrint, Cond.instanceMethod yX6_requirePrint, Cond.selects RX6 yX6_requirePrint yX6_requirePrint, Cond.code yX6_requirePrint cX6_requirePrint 2 none, Cond.methodLink RX6 273 yX2_has, Cond.instanceMethod yX2_has, Cond.selects RX2 yX2_has yX2_has, Cond.code yX2_has cX2_has 2 (some .boolean), Cond.methodLink RX6 114 yX2_row, Cond.instanceMethod yX2_row, Cond.selects RX2 yX2_row yX2_row, Cond.code yX2_row cX2_row 2 (some (.object "Threetwo$Row")), Cond.methodLink RL 76 yX6_rate]
def wsL_law0_r10 : List Cond := [Cond.instanceMethod yX6_rate, Cond.selects RX6 yX6_rate yX6_rate, Cond.code yX6_rate cX6_rate 3 (some .int), Cond.methodLink RL 79 yX6_size, Cond.instanceMethod yX6_size, Cond.selects RX6 yX6_size yX6_size, Cond.code yX6_size cX6_size 3 (some .int), Cond.methodLink RL 27 yX6_label, Cond.instanceMethod yX6_label, Cond.selects RX6 yX6_label yX6_label, Cond.code yX6_label cX6_label 2 (some .int), Cond.constant RX6 204 (107892), Cond.methodLink RX6 207 yX1_labelOf, Cond.static yX1_labelOf, Cond.initialized RX1, Cond.code yX1_labelOf cX1_labelOf 4 (some .int), Cond.methodLink RL 31 yX6_picture, Cond.instanceMethod yX6_picture, Cond.selects RX6 yX6_picture yX6_picture, Cond.code yX6_picture cX6_picture 2 (some .int), Cond.methodLink RX6 212 yX1_pictureOf, Cond.static yX1_pictureOf, Cond.code yX1_pictureOf cX1_pictureOf 5 (some .int), Cond.methodLink RX1 11 yX1_isLeftOut]
def wsL_law0_r11 : List Cond := [Cond.static yX1_isLeftOut, Cond.code yX1_isLeftOut cX1_isLeftOut 3 (some .boolean), Cond.methodLink RL 34 yX6_house, Cond.instanceMethod yX6_house, Cond.selects RX6 yX6_house yX6_house, Cond.code yX6_house cX6_house 2 (some .int), Cond.methodLink RX6 132 yX3_find, Cond.instanceMethod yX3_find, Cond.selects RX3 yX3_find yX3_find, Cond.code yX3_find cX3_find 4 none, Cond.methodLink RX3 41 yX3_leastCost, Cond.instanceMethod yX3_leastCost, Cond.selects RX3 yX3_leastCost yX3_leastCost, Cond.code yX3_leastCost cX3_leastCost 8 (some .int), Cond.methodLink RX3 49 yX4_many, Cond.methodLink RX3 63 yX4_at, Cond.methodLink RX3 67 yX3_bestNext, Cond.instanceMethod yX3_bestNext, Cond.selects RX3 yX3_bestNext yX3_bestNext, Cond.code yX3_bestNext cX3_bestNext 10 (some .int), Cond.methodLink RX3 71 yX3_step, Cond.static yX3_step, Cond.code yX3_step cX3_step 4 (some .int), Cond.methodLink RX3 74 yX3_bestFirst]
def wsL_law0_r12 : List Cond := [Cond.instanceMethod yX3_bestFirst, Cond.selects RX3 yX3_bestFirst yX3_bestFirst, Cond.code yX3_bestFirst cX3_bestFirst 3 (some .int), Cond.methodLink RX3 45 yX3_tracePath, Cond.instanceMethod yX3_tracePath, Cond.selects RX3 yX3_tracePath yX3_tracePath, Cond.code yX3_tracePath cX3_tracePath 5 none, Cond.methodLink RX3 55 yX3_gatherFrames, Cond.instanceMethod yX3_gatherFrames, Cond.selects RX3 yX3_gatherFrames yX3_gatherFrames, Cond.code yX3_gatherFrames cX3_gatherFrames 4 none, Cond.methodLink RX3 77 yX3_beginsFrame, Cond.instanceMethod yX3_beginsFrame, Cond.selects RX3 yX3_beginsFrame yX3_beginsFrame, Cond.code yX3_beginsFrame cX3_beginsFrame 3 (some .boolean), Cond.methodLink RX3 59 yX3_commonLook, Cond.static yX3_commonLook, Cond.code yX3_commonLook cX3_commonLook 8 (some .int), Cond.methodLink RX3 81 yX3_timesOf, Cond.static yX3_timesOf, Cond.code yX3_timesOf cX3_timesOf 6 (some .int), Cond.methodLink RX6 192 yX0_leastDelay, Cond.instanceMethod yX0_leastDelay, Cond.selects RX0 yX0_leastDelay yX0_leastDelay]
def wsL_law0_r13 : List Cond := [Cond.code yX0_leastDelay cX0_leastDelay 5 (some .int), Cond.methodLink RX0 39 Lib.Math.max.name, Cond.methodLink RX0 28 yX4_many, Cond.methodLink RX0 31 yX4_at, Cond.methodLink RX6 195 yX0_peak, Cond.instanceMethod yX0_peak, Cond.selects RX0 yX0_peak yX0_peak, Cond.code yX0_peak cX0_peak 6 (some .int), Cond.methodLink RX0 44 yX0_leastDelay, Cond.methodLink RX0 24 yX0_sumOfSizes, Cond.instanceMethod yX0_sumOfSizes, Cond.selects RX0 yX0_sumOfSizes yX0_sumOfSizes, Cond.code yX0_sumOfSizes cX0_sumOfSizes 3 (some .int), Cond.methodLink RX0 35 yX0_cameIn, Cond.instanceMethod yX0_cameIn, Cond.selects RX0 yX0_cameIn yX0_cameIn, Cond.code yX0_cameIn cX0_cameIn 3 (some .int), Cond.methodLink RX0 47 Lib.Math.min.name, Cond.static Lib.Math.min.name, Cond.code Lib.Math.min.name Lib.Math.min.code 2 (some .int), Cond.methodLink RL 37 yX6_apart, Cond.instanceMethod yX6_apart, Cond.selects RX6 yX6_apart yX6_apart, Cond.code yX6_apart cX6_apart 3 (some .int)]
def wsL_law0_r14 : List Cond := [Cond.methodLink RX6 169 yX2_distance, Cond.instanceMethod yX2_distance, Cond.selects RX2 yX2_distance yX2_distance, Cond.code yX2_distance cX2_distance 7 (some .int), Cond.methodLink RX2 32 yX4_many, Cond.methodLink RX2 35 yX2_leastFrom, Cond.instanceMethod yX2_leastFrom, Cond.selects RX2 yX2_leastFrom yX2_leastFrom, Cond.code yX2_leastFrom cX2_leastFrom 7 (some .int), Cond.methodLink RX2 51 Lib.Math.min.name, Cond.methodLink RX2 43 yX4_has, Cond.methodLink RX2 56 yX4_at, Cond.methodLink RX2 60 yX2_together, Cond.static yX2_together, Cond.code yX2_together cX2_together 2 (some .int), Cond.methodLink RX2 63 Lib.Math.abs.name, Cond.static Lib.Math.abs.name, Cond.code Lib.Math.abs.name Lib.Math.abs.code 1 (some .int), Cond.methodLink RL 40 yX6_dry, Cond.instanceMethod yX6_dry, Cond.selects RX6 yX6_dry yX6_dry, Cond.code yX6_dry cX6_dry 2 (some .int), Cond.methodLink RX6 217 yX0_firstDry, Cond.instanceMethod yX0_firstDry]
def wsL_law0_r15 : List Cond := [Cond.selects RX0 yX0_firstDry yX0_firstDry, Cond.code yX0_firstDry cX0_firstDry 5 (some .int), Cond.methodLink RL 43 yX6_digest, Cond.instanceMethod yX6_digest, Cond.selects RX6 yX6_digest yX6_digest, Cond.code yX6_digest cX6_digest 4 (some .long), Cond.constantLong RX6 240 (8311), Cond.constantLong RX6 242 (31), Cond.methodLink RX6 244 yX6_house, Cond.methodLink RX6 247 yX6_withFields, Cond.instanceMethod yX6_withFields, Cond.selects RX6 yX6_withFields yX6_withFields, Cond.code yX6_withFields cX6_withFields 7 (some .long), Cond.methodLink RX6 295 yX6_ofField, Cond.instanceMethod yX6_ofField, Cond.selects RX6 yX6_ofField yX6_ofField, Cond.code yX6_ofField cX6_ofField 3 (some .int), Cond.methodLink RX6 142 yX5_isNoted, Cond.instanceMethod yX5_isNoted, Cond.selects RX5 yX5_isNoted yX5_isNoted, Cond.code yX5_isNoted cX5_isNoted 3 (some .boolean), Cond.methodLink RX6 251 yX6_withFoundFrames, Cond.instanceMethod yX6_withFoundFrames, Cond.selects RX6 yX6_withFoundFrames yX6_withFoundFrames]
def wsL_law0_r16 : List Cond := [Cond.code yX6_withFoundFrames cX6_withFoundFrames 7 (some .long), Cond.methodLink RX6 298 yX6_found, Cond.instanceMethod yX6_found, Cond.selects RX6 yX6_found yX6_found, Cond.code yX6_found cX6_found 3 (some .int), Cond.methodLink RX6 254 yX6_withPrints, Cond.instanceMethod yX6_withPrints, Cond.selects RX6 yX6_withPrints yX6_withPrints, Cond.code yX6_withPrints cX6_withPrints 7 (some .long), Cond.methodLink RX6 177 yX2_layOut, Cond.instanceMethod yX2_layOut, Cond.selects RX2 yX2_layOut yX2_layOut, Cond.code yX2_layOut cX2_layOut 9 (some .int), Cond.methodLink RX2 39 yX2_distance, Cond.methodLink RX2 47 yX2_signAt, Cond.instanceMethod yX2_signAt, Cond.selects RX2 yX2_signAt yX2_signAt, Cond.code yX2_signAt cX2_signAt 6 (some .char), Cond.methodLink RX6 257 yX6_label, Cond.methodLink RX6 260 yX6_dry, Cond.methodLink RX6 201 yX5_nameLooks, Cond.instanceMethod yX5_nameLooks, Cond.selects RX5 yX5_nameLooks yX5_nameLooks, Cond.code yX5_nameLooks cX5_nameLooks 4 (some .int)]
def wsL_law0_r17 : List Cond := [Cond.methodLink RX5 59 yX5_firstLike, Cond.instanceMethod yX5_firstLike, Cond.selects RX5 yX5_firstLike yX5_firstLike, Cond.code yX5_firstLike cX5_firstLike 3 (some .int), Cond.methodLink RX6 263 yX6_isSound, Cond.instanceMethod yX6_isSound, Cond.selects RX6 yX6_isSound yX6_isSound, Cond.code yX6_isSound cX6_isSound 1 (some .boolean), Cond.methodLink RX6 227 yX6_printsAreSound, Cond.instanceMethod yX6_printsAreSound, Cond.selects RX6 yX6_printsAreSound yX6_printsAreSound, Cond.code yX6_printsAreSound cX6_printsAreSound 3 (some .boolean), Cond.methodLink RX6 287 yX6_pairIsSound, Cond.instanceMethod yX6_pairIsSound, Cond.selects RX6 yX6_pairIsSound yX6_pairIsSound, Cond.code yX6_pairIsSound cX6_pairIsSound 5 (some .boolean), Cond.methodLink RX6 231 yX6_bufferIsSound, Cond.instanceMethod yX6_bufferIsSound, Cond.selects RX6 yX6_bufferIsSound yX6_bufferIsSound, Cond.code yX6_bufferIsSound cX6_bufferIsSound 2 (some .boolean), Cond.methodLink RX6 234 yX6_framesAreSound, Cond.instanceMethod yX6_framesAreSound, Cond.selects RX6 yX6_framesAreSound yX6_framesAreSound, Cond.code yX6_framesAreSound cX6_framesAreSound 3 (some .boolean)]
def wsL_law0_r18 : List Cond := [Cond.methodLink RX6 237 yX6_labelsAreSound, Cond.static yX6_labelsAreSound, Cond.code yX6_labelsAreSound cX6_labelsAreSound 0 (some .boolean), Cond.constant RX6 294 (107891), Cond.methodLink RX6 291 yX1_goesBack, Cond.static yX1_goesBack, Cond.code yX1_goesBack cX1_goesBack 1 (some .boolean), Cond.methodLink RX1 15 yX1_labelOf, Cond.methodLink RX1 19 yX1_pictureOf, Cond.methodLink RL 47 yX6_isSound]
def wsL_law0 : List Cond := (wsL_law0_r1 ++ (wsL_law0_r2 ++ (wsL_law0_r3 ++ (wsL_law0_r4 ++ (wsL_law0_r5 ++ (wsL_law0_r6 ++ (wsL_law0_r7 ++ (wsL_law0_r8 ++ (wsL_law0_r9 ++ (wsL_law0_r10 ++ (wsL_law0_r11 ++ (wsL_law0_r12 ++ (wsL_law0_r13 ++ (wsL_law0_r14 ++ (wsL_law0_r15 ++ (wsL_law0_r16 ++ (wsL_law0_r17 ++ wsL_law0_r18))))))))))))))))) ++ wsX60 ++ wsX40 ++ wsX50 ++ wsX30 ++ wsX20 ++ wsX00 ++ ([] : List Cond)
def wsL_law : List Cond := wsL_law0 ++ (vx_atS RX6 64 "java/lang/IllegalStateException" ["java/lang/RuntimeException", "java/lang/Exception"]).filter goodWord ++ (vx_atS RX6 71 "java/lang/IllegalArgumentException" ["java/lang/RuntimeException", "java/lang/Exception"]).filter goodWord ++ (vx_atS RX6 155 "java/lang/IndexOutOfBoundsException" ["java/lang/RuntimeException", "java/lang/Exception"]).filter goodWord
end
section
set_option maxRecDepth 20000 in
theorem wsL_law_in0_1 : ∀ w ∈ wsL_law0_r1, w ∈ lw_tbl := fun w h => (goodIn_p wsL_law0_r1 [39, 42] (by decide +kernel) (by decide +kernel) w h).1
set_option maxRecDepth 20000 in
theorem wsL_law_in0_2 : ∀ w ∈ wsL_law0_r2, w ∈ lw_tbl := fun w h => (goodIn_p wsL_law0_r2 [47, 51, 64] (by decide +kernel) (by decide +kernel) w h).1
set_option maxRecDepth 20000 in
theorem wsL_law_in0_3 : ∀ w ∈ wsL_law0_r3, w ∈ lw_tbl := fun w h => (goodIn_p wsL_law0_r3 [94, 135] (by decide +kernel) (by decide +kernel) w h).1
set_option maxRecDepth 20000 in
theorem wsL_law_in0_4 : ∀ w ∈ wsL_law0_r4, w ∈ lw_tbl := fun w h => (goodIn_p wsL_law0_r4 [158, 509, 505] (by decide +kernel) (by decide +kernel) w h).1
set_option maxRecDepth 20000 in
theorem wsL_law_in0_5 : ∀ w ∈ wsL_law0_r5, w ∈ lw_tbl := fun w h => (goodIn_p wsL_law0_r5 [520, 523, 528] (by decide +kernel) (by decide +kernel) w h).1
set_option maxRecDepth 20000 in
theorem wsL_law_in0_6 : ∀ w ∈ wsL_law0_r6, w ∈ lw_tbl := fun w h => (goodIn_p wsL_law0_r6 [548, 553, 557, 280, 295, 562] (by decide +kernel) (by decide +kernel) w h).1
set_option maxRecDepth 20000 in
theorem wsL_law_in0_7 : ∀ w ∈ wsL_law0_r7, w ∈ lw_tbl := fun w h => (goodIn_p wsL_law0_r7 [566, 458, 288, 571, 575] (by decide +kernel) (by decide +kernel) w h).1
set_option maxRecDepth 20000 in
theorem wsL_law_in0_8 : ∀ w ∈ wsL_law0_r8, w ∈ lw_tbl := fun w h => (goodIn_p wsL_law0_r8 [580, 584, 588, 592, 596, 600] (by decide +kernel) (by decide +kernel) w h).1
set_option maxRecDepth 20000 in
theorem wsL_law_in0_9 : ∀ w ∈ wsL_law0_r9, w ∈ lw_tbl := fun w h => (goodIn_p wsL_law0_r9 [605, 609, 614, 200, 204, 618] (by decide +kernel) (by decide +kernel) w h).1
set_option maxRecDepth 20000 in
theorem wsL_law_in0_10 : ∀ w ∈ wsL_law0_r10, w ∈ lw_tbl := fun w h => (goodIn_p wsL_law0_r10 [623, 628, 386, 391, 395, 398] (by decide +kernel) (by decide +kernel) w h).1
set_option maxRecDepth 20000 in
theorem wsL_law_in0_11 : ∀ w ∈ wsL_law0_r11, w ∈ lw_tbl := fun w h => (goodIn_p wsL_law0_r11 [401, 305, 310, 314, 320, 323] (by decide +kernel) (by decide +kernel) w h).1
set_option maxRecDepth 20000 in
theorem wsL_law_in0_12 : ∀ w ∈ wsL_law0_r12, w ∈ lw_tbl := fun w h => (goodIn_p wsL_law0_r12 [327, 331, 335, 339, 342, 345] (by decide +kernel) (by decide +kernel) w h).1
set_option maxRecDepth 20000 in
theorem wsL_law_in0_13 : ∀ w ∈ wsL_law0_r13, w ∈ lw_tbl := fun w h => (goodIn_p wsL_law0_r13 [349, 356, 361, 365, 291, 196] (by decide +kernel) (by decide +kernel) w h).1
set_option maxRecDepth 20000 in
theorem wsL_law_in0_14 : ∀ w ∈ wsL_law0_r14, w ∈ lw_tbl := fun w h => (goodIn_p wsL_law0_r14 [276, 284, 298, 301, 405] (by decide +kernel) (by decide +kernel) w h).1
set_option maxRecDepth 20000 in
theorem wsL_law_in0_15 : ∀ w ∈ wsL_law0_r15, w ∈ lw_tbl := fun w h => (goodIn_p wsL_law0_r15 [410, 443, 450, 454, 465] (by decide +kernel) (by decide +kernel) w h).1
set_option maxRecDepth 20000 in
theorem wsL_law_in0_16 : ∀ w ∈ wsL_law0_r16, w ∈ lw_tbl := fun w h => (goodIn_p wsL_law0_r16 [470, 474, 480, 484, 489, 495] (by decide +kernel) (by decide +kernel) w h).1
set_option maxRecDepth 20000 in
theorem wsL_law_in0_17 : ∀ w ∈ wsL_law0_r17, w ∈ lw_tbl := fun w h => (goodIn_p wsL_law0_r17 [500, 414, 418, 422, 426, 430] (by decide +kernel) (by decide +kernel) w h).1
set_option maxRecDepth 20000 in
theorem wsL_law_in0_18 : ∀ w ∈ wsL_law0_r18, w ∈ lw_tbl := fun w h => (goodIn_p wsL_law0_r18 [433, 436] (by decide +kernel) (by decide +kernel) w h).1
set_option maxRecDepth 20000 in
theorem wsL_law_in1_0 : ∀ w ∈ wsX60, w ∈ lw_tbl := by decide +kernel
set_option maxRecDepth 20000 in
theorem wsL_law_in1_1 : ∀ w ∈ wsX40, w ∈ lw_tbl := by decide +kernel
set_option maxRecDepth 20000 in
theorem wsL_law_in1_2 : ∀ w ∈ wsX50, w ∈ lw_tbl := by decide +kernel
set_option maxRecDepth 20000 in
theorem wsL_law_in1_3 : ∀ w ∈ wsX30, w ∈ lw_tbl := by decide +kernel
set_option maxRecDepth 20000 in
theorem wsL_law_in1_4 : ∀ w ∈ wsX20, w ∈ lw_tbl := by decide +kernel
set_option maxRecDepth 20000 in
theorem wsL_law_in1_5 : ∀ w ∈ wsX00, w ∈ lw_tbl := by decide +kernel
theorem wsL_law_in0 : ∀ w ∈ wsL_law0, w ∈ lw_tbl := by
  intro w h
  unfold wsL_law0 at h
  simp only [List.mem_append, List.not_mem_nil, or_false] at h
  rcases h with (((((h | h) | h) | h) | h) | h) | h
  · rcases h with h | h | h | h | h | h | h | h | h | h | h | h | h | h | h | h | h | h
    · exact wsL_law_in0_1 w h
    · exact wsL_law_in0_2 w h
    · exact wsL_law_in0_3 w h
    · exact wsL_law_in0_4 w h
    · exact wsL_law_in0_5 w h
    · exact wsL_law_in0_6 w h
    · exact wsL_law_in0_7 w h
    · exact wsL_law_in0_8 w h
    · exact wsL_law_in0_9 w h
    · exact wsL_law_in0_10 w h
    · exact wsL_law_in0_11 w h
    · exact wsL_law_in0_12 w h
    · exact wsL_law_in0_13 w h
    · exact wsL_law_in0_14 w h
    · exact wsL_law_in0_15 w h
    · exact wsL_law_in0_16 w h
    · exact wsL_law_in0_17 w h
    · exact wsL_law_in0_18 w h
  · exact wsL_law_in1_0 w h
  · exact wsL_law_in1_1 w h
  · exact wsL_law_in1_2 w h
  · exact wsL_law_in1_3 w h
  · exact wsL_law_in1_4 w h
  · exact wsL_law_in1_5 w h
theorem wsL_law_x0 : ∀ w ∈ (vx_atS RX6 64 "java/lang/IllegalStateException" ["java/lang/RuntimeException", "java/lang/Exception"]).filter goodWord, w ∈ lw_tbl := by decide +kernel
theorem wsL_law_x1 : ∀ w ∈ (vx_atS RX6 71 "java/lang/IllegalArgumentException" ["java/lang/RuntimeException", "java/lang/Exception"]).filter goodWord, w ∈ lw_tbl := by decide +kernel
theorem wsL_law_x2 : ∀ w ∈ (vx_atS RX6 155 "java/lang/IndexOutOfBoundsException" ["java/lang/RuntimeException", "java/lang/Exception"]).filter goodWord, w ∈ lw_tbl := by decide +kernel
theorem wsL_law_in : ∀ w ∈ wsL_law, w ∈ lw_tbl := fun w h => (List.mem_append.mp h).elim (fun h => (List.mem_append.mp h).elim (fun h => (List.mem_append.mp h).elim (fun h => wsL_law_in0 w h) (fun h => wsL_law_x0 w h)) (fun h => wsL_law_x1 w h)) (fun h => wsL_law_x2 w h)
theorem inlX0 : ∀ w ∈ wsX00, w ∈ wsL_law := fun _ h => List.mem_append_left _ (List.mem_append_left _ (List.mem_append_left _ (List.mem_append_left _ (List.mem_append_right _ h))))
theorem inX0 : ∀ w ∈ wsX00, w ∈ lw_tbl := fun w h => wsL_law_in w (inlX0 w h)
theorem inX1 : ∀ w ∈ wsX10, w ∈ lw_tbl := by decide +kernel
theorem inlX2 : ∀ w ∈ wsX20, w ∈ wsL_law := fun _ h => List.mem_append_left _ (List.mem_append_left _ (List.mem_append_left _ (List.mem_append_left _ (List.mem_append_left _ (List.mem_append_right _ h)))))
theorem inX2 : ∀ w ∈ wsX20, w ∈ lw_tbl := fun w h => wsL_law_in w (inlX2 w h)
theorem inlX3 : ∀ w ∈ wsX30, w ∈ wsL_law := fun _ h => List.mem_append_left _ (List.mem_append_left _ (List.mem_append_left _ (List.mem_append_left _ (List.mem_append_left _ (List.mem_append_left _ (List.mem_append_right _ h))))))
theorem inX3 : ∀ w ∈ wsX30, w ∈ lw_tbl := fun w h => wsL_law_in w (inlX3 w h)
theorem inlX4 : ∀ w ∈ wsX40, w ∈ wsL_law := fun _ h => List.mem_append_left _ (List.mem_append_left _ (List.mem_append_left _ (List.mem_append_left _ (List.mem_append_left _ (List.mem_append_left _ (List.mem_append_left _ (List.mem_append_left _ (List.mem_append_right _ h))))))))
theorem inX4 : ∀ w ∈ wsX40, w ∈ lw_tbl := fun w h => wsL_law_in w (inlX4 w h)
theorem inlX5 : ∀ w ∈ wsX50, w ∈ wsL_law := fun _ h => List.mem_append_left _ (List.mem_append_left _ (List.mem_append_left _ (List.mem_append_left _ (List.mem_append_left _ (List.mem_append_left _ (List.mem_append_left _ (List.mem_append_right _ h)))))))
theorem inX5 : ∀ w ∈ wsX50, w ∈ lw_tbl := fun w h => wsL_law_in w (inlX5 w h)
theorem inlX6 : ∀ w ∈ wsX60, w ∈ wsL_law := fun _ h => List.mem_append_left _ (List.mem_append_left _ (List.mem_append_left _ (List.mem_append_left _ (List.mem_append_left _ (List.mem_append_left _ (List.mem_append_left _ (List.mem_append_left _ (List.mem_append_left _ (List.mem_append_right _ h)))))))))
theorem inX6 : ∀ w ∈ wsX60, w ∈ lw_tbl := fun w h => wsL_law_in w (inlX6 w h)
end
section
theorem inX7 : ∀ w ∈ wsX70, w ∈ lw_tbl := by decide +kernel
theorem inJx145de : ∀ w ∈ wsJx145de0, w ∈ lw_tbl := by decide +kernel
theorem inJ9 : ∀ w ∈ wsJ90, w ∈ lw_tbl := by decide +kernel
theorem inJ0 : ∀ w ∈ wsJ00, w ∈ lw_tbl := by decide +kernel
set_option maxRecDepth 20000 in
theorem ggX0_init_X4_init : GoodIn wsX0_init wsX4_init := goodIn_r _ [11, 12, 2, 3, 13, 14, 15, 16, 17, 18, 19, 20, 21] (by decide +kernel) (by decide +kernel)
set_option maxRecDepth 20000 in
theorem gX0_init_X4_init : GoodIn wsX0_init (wsX4_init) := ggX0_init_X4_init
theorem dX0_init_0 : decode cX0_init 0 = .ok (.aload_n 0, 1) := by decide +kernel
theorem dX0_init_1 : decode cX0_init 1 = .ok (.invokespecial 3, 3) := by decide +kernel
theorem dX0_init_4 : decode cX0_init 4 = .ok (.aload_n 0, 1) := by decide +kernel
theorem dX0_init_5 : decode cX0_init 5 = .ok (.new 9, 3) := by decide +kernel
theorem dX0_init_8 : decode cX0_init 8 = .ok (.dup, 1) := by decide +kernel
theorem dX0_init_9 : decode cX0_init 9 = .ok (.bipush 20, 2) := by decide +kernel
theorem dX0_init_11 : decode cX0_init 11 = .ok (.invokespecial 11, 3) := by decide +kernel
theorem dX0_init_14 : decode cX0_init 14 = .ok (.putfield 14, 3) := by decide +kernel
theorem dX0_init_17 : decode cX0_init 17 = .ok (.aload_n 0, 1) := by decide +kernel
theorem dX0_init_18 : decode cX0_init 18 = .ok (.bipush 10, 2) := by decide +kernel
theorem dX0_init_20 : decode cX0_init 20 = .ok (.putfield 20, 3) := by decide +kernel
theorem dX0_init_23 : decode cX0_init 23 = .ok (.return_, 1) := by decide +kernel
set_option maxRecDepth 20000 in
theorem ggX0_firstDry_X0_sumOfSizes : GoodIn wsX0_firstDry wsX0_sumOfSizes := goodIn_r _ [6, 1, 7, 8, 9, 10, 11, 12, 13, 14, 15, 16, 17, 27, 28, 29, 30] (by decide +kernel) (by decide +kernel)
set_option maxRecDepth 20000 in
theorem gX0_firstDry_X0_sumOfSizes : GoodIn wsX0_firstDry (wsV RX0 24 RX0 yX0_sumOfSizes wsX0_sumOfSizes) := goodIn_app (goodIn_of _ (by decide +kernel)) ggX0_firstDry_X0_sumOfSizes
set_option maxRecDepth 20000 in
theorem ggX0_firstDry_X4_many : GoodIn wsX0_firstDry wsX4_many := goodIn_r _ [11, 12, 29, 30] (by decide +kernel) (by decide +kernel)
set_option maxRecDepth 20000 in
theorem gX0_firstDry_X4_many : GoodIn wsX0_firstDry (wsV RX0 28 RX4 yX4_many wsX4_many) := goodIn_app (goodIn_of _ (by decide +kernel)) ggX0_firstDry_X4_many
set_option maxRecDepth 20000 in
theorem ggX0_firstDry_X4_at : GoodIn wsX0_firstDry wsX4_at := goodIn_r _ [16, 12, 17, 29, 30] (by decide +kernel) (by decide +kernel)
set_option maxRecDepth 20000 in
theorem gX0_firstDry_X4_at : GoodIn wsX0_firstDry (wsV RX0 31 RX4 yX4_at wsX4_at) := goodIn_app (goodIn_of _ (by decide +kernel)) ggX0_firstDry_X4_at
set_option maxRecDepth 20000 in
theorem ggX0_firstDry_X0_cameIn : GoodIn wsX0_firstDry wsX0_cameIn := goodIn_r _ [21, 22, 23, 24, 25, 26, 27, 28] (by decide +kernel) (by decide +kernel)
set_option maxRecDepth 20000 in
theorem gX0_firstDry_X0_cameIn : GoodIn wsX0_firstDry (wsV RX0 35 RX0 yX0_cameIn wsX0_cameIn) := goodIn_app (goodIn_of _ (by decide +kernel)) ggX0_firstDry_X0_cameIn
theorem dX0_firstDry_0 : decode cX0_firstDry 0 = .ok (.aload_n 0, 1) := by decide +kernel
theorem dX0_firstDry_1 : decode cX0_firstDry 1 = .ok (.invokevirtual 24, 3) := by decide +kernel
theorem dX0_firstDry_4 : decode cX0_firstDry 4 = .ok (.istore_n 2, 1) := by decide +kernel
theorem dX0_firstDry_5 : decode cX0_firstDry 5 = .ok (.iconst 0, 1) := by decide +kernel
theorem dX0_firstDry_6 : decode cX0_firstDry 6 = .ok (.istore_n 3, 1) := by decide +kernel
theorem dX0_firstDry_7 : decode cX0_firstDry 7 = .ok (.iconst 0, 1) := by decide +kernel
theorem dX0_firstDry_8 : decode cX0_firstDry 8 = .ok (.istore 4, 2) := by decide +kernel
theorem dX0_firstDry_10 : decode cX0_firstDry 10 = .ok (.iload 4, 2) := by decide +kernel
theorem dX0_firstDry_12 : decode cX0_firstDry 12 = .ok (.aload_n 0, 1) := by decide +kernel
theorem dX0_firstDry_13 : decode cX0_firstDry 13 = .ok (.getfield 14, 3) := by decide +kernel
theorem dX0_firstDry_16 : decode cX0_firstDry 16 = .ok (.invokevirtual 28, 3) := by decide +kernel
theorem dX0_firstDry_19 : decode cX0_firstDry 19 = .ok (.if_icmp .ge 39, 3) := by decide +kernel
theorem dX0_firstDry_22 : decode cX0_firstDry 22 = .ok (.iload_n 3, 1) := by decide +kernel
theorem dX0_firstDry_23 : decode cX0_firstDry 23 = .ok (.aload_n 0, 1) := by decide +kernel
theorem dX0_firstDry_24 : decode cX0_firstDry 24 = .ok (.getfield 14, 3) := by decide +kernel
theorem dX0_firstDry_27 : decode cX0_firstDry 27 = .ok (.iload 4, 2) := by decide +kernel
theorem dX0_firstDry_29 : decode cX0_firstDry 29 = .ok (.invokevirtual 31, 3) := by decide +kernel
theorem dX0_firstDry_32 : decode cX0_firstDry 32 = .ok (.iadd, 1) := by decide +kernel
theorem dX0_firstDry_33 : decode cX0_firstDry 33 = .ok (.istore_n 3, 1) := by decide +kernel
theorem dX0_firstDry_34 : decode cX0_firstDry 34 = .ok (.aload_n 0, 1) := by decide +kernel
theorem dX0_firstDry_35 : decode cX0_firstDry 35 = .ok (.iload_n 1, 1) := by decide +kernel
theorem dX0_firstDry_36 : decode cX0_firstDry 36 = .ok (.iload 4, 2) := by decide +kernel
theorem dX0_firstDry_38 : decode cX0_firstDry 38 = .ok (.iadd, 1) := by decide +kernel
theorem dX0_firstDry_39 : decode cX0_firstDry 39 = .ok (.iconst 1, 1) := by decide +kernel
theorem dX0_firstDry_40 : decode cX0_firstDry 40 = .ok (.iadd, 1) := by decide +kernel
theorem dX0_firstDry_41 : decode cX0_firstDry 41 = .ok (.iload_n 2, 1) := by decide +kernel
theorem dX0_firstDry_42 : decode cX0_firstDry 42 = .ok (.invokevirtual 35, 3) := by decide +kernel
theorem dX0_firstDry_45 : decode cX0_firstDry 45 = .ok (.iload_n 3, 1) := by decide +kernel
theorem dX0_firstDry_46 : decode cX0_firstDry 46 = .ok (.if_icmp .ge 6, 3) := by decide +kernel
theorem dX0_firstDry_49 : decode cX0_firstDry 49 = .ok (.iload 4, 2) := by decide +kernel
theorem dX0_firstDry_51 : decode cX0_firstDry 51 = .ok (.ireturn, 1) := by decide +kernel
theorem dX0_firstDry_52 : decode cX0_firstDry 52 = .ok (.iinc 4 1, 3) := by decide +kernel
theorem dX0_firstDry_55 : decode cX0_firstDry 55 = .ok (.goto (-45), 3) := by decide +kernel
theorem dX0_firstDry_58 : decode cX0_firstDry 58 = .ok (.iconst (-1), 1) := by decide +kernel
theorem dX0_firstDry_59 : decode cX0_firstDry 59 = .ok (.ireturn, 1) := by decide +kernel
set_option maxRecDepth 20000 in
theorem ggX0_leastDelay_X4_many : GoodIn wsX0_leastDelay wsX4_many := goodIn_r _ [11, 12, 20, 21] (by decide +kernel) (by decide +kernel)
set_option maxRecDepth 20000 in
theorem gX0_leastDelay_X4_many : GoodIn wsX0_leastDelay (wsV RX0 28 RX4 yX4_many wsX4_many) := goodIn_app (goodIn_of _ (by decide +kernel)) ggX0_leastDelay_X4_many
set_option maxRecDepth 20000 in
theorem ggX0_leastDelay_X4_at : GoodIn wsX0_leastDelay wsX4_at := goodIn_r _ [16, 12, 17, 20, 21] (by decide +kernel) (by decide +kernel)
set_option maxRecDepth 20000 in
theorem gX0_leastDelay_X4_at : GoodIn wsX0_leastDelay (wsV RX0 31 RX4 yX4_at wsX4_at) := goodIn_app (goodIn_of _ (by decide +kernel)) ggX0_leastDelay_X4_at
theorem dX0_leastDelay_0 : decode cX0_leastDelay 0 = .ok (.iconst 0, 1) := by decide +kernel
theorem dX0_leastDelay_1 : decode cX0_leastDelay 1 = .ok (.istore_n 1, 1) := by decide +kernel
theorem dX0_leastDelay_2 : decode cX0_leastDelay 2 = .ok (.iconst 0, 1) := by decide +kernel
theorem dX0_leastDelay_3 : decode cX0_leastDelay 3 = .ok (.istore_n 2, 1) := by decide +kernel
theorem dX0_leastDelay_4 : decode cX0_leastDelay 4 = .ok (.iconst 0, 1) := by decide +kernel
theorem dX0_leastDelay_5 : decode cX0_leastDelay 5 = .ok (.istore_n 3, 1) := by decide +kernel
theorem dX0_leastDelay_6 : decode cX0_leastDelay 6 = .ok (.iload_n 3, 1) := by decide +kernel
theorem dX0_leastDelay_7 : decode cX0_leastDelay 7 = .ok (.aload_n 0, 1) := by decide +kernel
theorem dX0_leastDelay_8 : decode cX0_leastDelay 8 = .ok (.getfield 14, 3) := by decide +kernel
theorem dX0_leastDelay_11 : decode cX0_leastDelay 11 = .ok (.invokevirtual 28, 3) := by decide +kernel
theorem dX0_leastDelay_14 : decode cX0_leastDelay 14 = .ok (.if_icmp .ge 50, 3) := by decide +kernel
theorem dX0_leastDelay_17 : decode cX0_leastDelay 17 = .ok (.iload_n 2, 1) := by decide +kernel
theorem dX0_leastDelay_18 : decode cX0_leastDelay 18 = .ok (.aload_n 0, 1) := by decide +kernel
theorem dX0_leastDelay_19 : decode cX0_leastDelay 19 = .ok (.getfield 14, 3) := by decide +kernel
theorem dX0_leastDelay_22 : decode cX0_leastDelay 22 = .ok (.iload_n 3, 1) := by decide +kernel
theorem dX0_leastDelay_23 : decode cX0_leastDelay 23 = .ok (.invokevirtual 31, 3) := by decide +kernel
theorem dX0_leastDelay_26 : decode cX0_leastDelay 26 = .ok (.iadd, 1) := by decide +kernel
theorem dX0_leastDelay_27 : decode cX0_leastDelay 27 = .ok (.istore_n 2, 1) := by decide +kernel
theorem dX0_leastDelay_28 : decode cX0_leastDelay 28 = .ok (.iload_n 2, 1) := by decide +kernel
theorem dX0_leastDelay_29 : decode cX0_leastDelay 29 = .ok (.aload_n 0, 1) := by decide +kernel
theorem dX0_leastDelay_30 : decode cX0_leastDelay 30 = .ok (.getfield 20, 3) := by decide +kernel
theorem dX0_leastDelay_33 : decode cX0_leastDelay 33 = .ok (.iadd, 1) := by decide +kernel
theorem dX0_leastDelay_34 : decode cX0_leastDelay 34 = .ok (.iconst 1, 1) := by decide +kernel
theorem dX0_leastDelay_35 : decode cX0_leastDelay 35 = .ok (.isub, 1) := by decide +kernel
theorem dX0_leastDelay_36 : decode cX0_leastDelay 36 = .ok (.aload_n 0, 1) := by decide +kernel
theorem dX0_leastDelay_37 : decode cX0_leastDelay 37 = .ok (.getfield 20, 3) := by decide +kernel
theorem dX0_leastDelay_40 : decode cX0_leastDelay 40 = .ok (.iconst 1, 1) := by decide +kernel
theorem dX0_leastDelay_41 : decode cX0_leastDelay 41 = .ok (.invokestatic 39, 3) := by decide +kernel
theorem dX0_leastDelay_44 : decode cX0_leastDelay 44 = .ok (.idiv, 1) := by decide +kernel
theorem dX0_leastDelay_45 : decode cX0_leastDelay 45 = .ok (.istore 4, 2) := by decide +kernel
theorem dX0_leastDelay_47 : decode cX0_leastDelay 47 = .ok (.iload_n 1, 1) := by decide +kernel
theorem dX0_leastDelay_48 : decode cX0_leastDelay 48 = .ok (.iload 4, 2) := by decide +kernel
theorem dX0_leastDelay_50 : decode cX0_leastDelay 50 = .ok (.iload_n 3, 1) := by decide +kernel
theorem dX0_leastDelay_51 : decode cX0_leastDelay 51 = .ok (.iconst 1, 1) := by decide +kernel
theorem dX0_leastDelay_52 : decode cX0_leastDelay 52 = .ok (.iadd, 1) := by decide +kernel
theorem dX0_leastDelay_53 : decode cX0_leastDelay 53 = .ok (.isub, 1) := by decide +kernel
theorem dX0_leastDelay_54 : decode cX0_leastDelay 54 = .ok (.invokestatic 39, 3) := by decide +kernel
theorem dX0_leastDelay_57 : decode cX0_leastDelay 57 = .ok (.istore_n 1, 1) := by decide +kernel
theorem dX0_leastDelay_58 : decode cX0_leastDelay 58 = .ok (.iinc 3 1, 3) := by decide +kernel
theorem dX0_leastDelay_61 : decode cX0_leastDelay 61 = .ok (.goto (-55), 3) := by decide +kernel
theorem dX0_leastDelay_64 : decode cX0_leastDelay 64 = .ok (.iload_n 1, 1) := by decide +kernel
theorem dX0_leastDelay_65 : decode cX0_leastDelay 65 = .ok (.ireturn, 1) := by decide +kernel
set_option maxRecDepth 20000 in
theorem ggX0_peak_X0_leastDelay : GoodIn wsX0_peak wsX0_leastDelay := goodIn_r _ [10, 1, 11, 2, 3, 4, 5, 12, 13, 14, 15, 16, 17, 18, 19, 20, 21, 22, 34, 35, 36, 37] (by decide +kernel) (by decide +kernel)
set_option maxRecDepth 20000 in
theorem gX0_peak_X0_leastDelay : GoodIn wsX0_peak (wsV RX0 44 RX0 yX0_leastDelay wsX0_leastDelay) := goodIn_app (goodIn_of _ (by decide +kernel)) ggX0_peak_X0_leastDelay
set_option maxRecDepth 20000 in
theorem ggX0_peak_X0_sumOfSizes : GoodIn wsX0_peak wsX0_sumOfSizes := goodIn_r _ [26, 1, 12, 13, 14, 15, 16, 17, 18, 19, 20, 21, 22, 34, 35, 36, 37] (by decide +kernel) (by decide +kernel)
set_option maxRecDepth 20000 in
theorem gX0_peak_X0_sumOfSizes : GoodIn wsX0_peak (wsV RX0 24 RX0 yX0_sumOfSizes wsX0_sumOfSizes) := goodIn_app (goodIn_of _ (by decide +kernel)) ggX0_peak_X0_sumOfSizes
set_option maxRecDepth 20000 in
theorem ggX0_peak_X4_many : GoodIn wsX0_peak wsX4_many := goodIn_r _ [16, 17, 36, 37] (by decide +kernel) (by decide +kernel)
set_option maxRecDepth 20000 in
theorem gX0_peak_X4_many : GoodIn wsX0_peak (wsV RX0 28 RX4 yX4_many wsX4_many) := goodIn_app (goodIn_of _ (by decide +kernel)) ggX0_peak_X4_many
set_option maxRecDepth 20000 in
theorem ggX0_peak_X0_cameIn : GoodIn wsX0_peak wsX0_cameIn := goodIn_r _ [30, 11, 31, 32, 4, 33, 34, 35] (by decide +kernel) (by decide +kernel)
set_option maxRecDepth 20000 in
theorem gX0_peak_X0_cameIn : GoodIn wsX0_peak (wsV RX0 35 RX0 yX0_cameIn wsX0_cameIn) := goodIn_app (goodIn_of _ (by decide +kernel)) ggX0_peak_X0_cameIn
set_option maxRecDepth 20000 in
theorem ggX0_peak_X4_at : GoodIn wsX0_peak wsX4_at := goodIn_r _ [21, 17, 22, 36, 37] (by decide +kernel) (by decide +kernel)
set_option maxRecDepth 20000 in
theorem gX0_peak_X4_at : GoodIn wsX0_peak (wsV RX0 31 RX4 yX4_at wsX4_at) := goodIn_app (goodIn_of _ (by decide +kernel)) ggX0_peak_X4_at
theorem dX0_peak_0 : decode cX0_peak 0 = .ok (.aload_n 0, 1) := by decide +kernel
theorem dX0_peak_1 : decode cX0_peak 1 = .ok (.invokevirtual 44, 3) := by decide +kernel
theorem dX0_peak_4 : decode cX0_peak 4 = .ok (.istore_n 1, 1) := by decide +kernel
theorem dX0_peak_5 : decode cX0_peak 5 = .ok (.aload_n 0, 1) := by decide +kernel
theorem dX0_peak_6 : decode cX0_peak 6 = .ok (.invokevirtual 24, 3) := by decide +kernel
theorem dX0_peak_9 : decode cX0_peak 9 = .ok (.istore_n 2, 1) := by decide +kernel
theorem dX0_peak_10 : decode cX0_peak 10 = .ok (.iconst 0, 1) := by decide +kernel
theorem dX0_peak_11 : decode cX0_peak 11 = .ok (.istore_n 3, 1) := by decide +kernel
theorem dX0_peak_12 : decode cX0_peak 12 = .ok (.iconst 0, 1) := by decide +kernel
theorem dX0_peak_13 : decode cX0_peak 13 = .ok (.istore 4, 2) := by decide +kernel
theorem dX0_peak_15 : decode cX0_peak 15 = .ok (.iconst 0, 1) := by decide +kernel
theorem dX0_peak_16 : decode cX0_peak 16 = .ok (.istore 5, 2) := by decide +kernel
theorem dX0_peak_18 : decode cX0_peak 18 = .ok (.iload 5, 2) := by decide +kernel
theorem dX0_peak_20 : decode cX0_peak 20 = .ok (.aload_n 0, 1) := by decide +kernel
theorem dX0_peak_21 : decode cX0_peak 21 = .ok (.getfield 14, 3) := by decide +kernel
theorem dX0_peak_24 : decode cX0_peak 24 = .ok (.invokevirtual 28, 3) := by decide +kernel
theorem dX0_peak_27 : decode cX0_peak 27 = .ok (.if_icmp .ge 42, 3) := by decide +kernel
theorem dX0_peak_30 : decode cX0_peak 30 = .ok (.iload_n 3, 1) := by decide +kernel
theorem dX0_peak_31 : decode cX0_peak 31 = .ok (.aload_n 0, 1) := by decide +kernel
theorem dX0_peak_32 : decode cX0_peak 32 = .ok (.iload_n 1, 1) := by decide +kernel
theorem dX0_peak_33 : decode cX0_peak 33 = .ok (.iload 5, 2) := by decide +kernel
theorem dX0_peak_35 : decode cX0_peak 35 = .ok (.iadd, 1) := by decide +kernel
theorem dX0_peak_36 : decode cX0_peak 36 = .ok (.iconst 1, 1) := by decide +kernel
theorem dX0_peak_37 : decode cX0_peak 37 = .ok (.iadd, 1) := by decide +kernel
theorem dX0_peak_38 : decode cX0_peak 38 = .ok (.iload_n 2, 1) := by decide +kernel
theorem dX0_peak_39 : decode cX0_peak 39 = .ok (.invokevirtual 35, 3) := by decide +kernel
theorem dX0_peak_42 : decode cX0_peak 42 = .ok (.iload 4, 2) := by decide +kernel
theorem dX0_peak_44 : decode cX0_peak 44 = .ok (.isub, 1) := by decide +kernel
theorem dX0_peak_45 : decode cX0_peak 45 = .ok (.invokestatic 39, 3) := by decide +kernel
theorem dX0_peak_48 : decode cX0_peak 48 = .ok (.istore_n 3, 1) := by decide +kernel
theorem dX0_peak_49 : decode cX0_peak 49 = .ok (.iload 4, 2) := by decide +kernel
theorem dX0_peak_51 : decode cX0_peak 51 = .ok (.aload_n 0, 1) := by decide +kernel
theorem dX0_peak_52 : decode cX0_peak 52 = .ok (.getfield 14, 3) := by decide +kernel
theorem dX0_peak_55 : decode cX0_peak 55 = .ok (.iload 5, 2) := by decide +kernel
theorem dX0_peak_57 : decode cX0_peak 57 = .ok (.invokevirtual 31, 3) := by decide +kernel
theorem dX0_peak_60 : decode cX0_peak 60 = .ok (.iadd, 1) := by decide +kernel
theorem dX0_peak_61 : decode cX0_peak 61 = .ok (.istore 4, 2) := by decide +kernel
theorem dX0_peak_63 : decode cX0_peak 63 = .ok (.iinc 5 1, 3) := by decide +kernel
theorem dX0_peak_66 : decode cX0_peak 66 = .ok (.goto (-48), 3) := by decide +kernel
theorem dX0_peak_69 : decode cX0_peak 69 = .ok (.iload_n 3, 1) := by decide +kernel
theorem dX0_peak_70 : decode cX0_peak 70 = .ok (.ireturn, 1) := by decide +kernel
theorem dX0_cameIn_0 : decode cX0_cameIn 0 = .ok (.aload_n 0, 1) := by decide +kernel
theorem dX0_cameIn_1 : decode cX0_cameIn 1 = .ok (.getfield 20, 3) := by decide +kernel
theorem dX0_cameIn_4 : decode cX0_cameIn 4 = .ok (.iload_n 1, 1) := by decide +kernel
theorem dX0_cameIn_5 : decode cX0_cameIn 5 = .ok (.imul, 1) := by decide +kernel
theorem dX0_cameIn_6 : decode cX0_cameIn 6 = .ok (.iload_n 2, 1) := by decide +kernel
theorem dX0_cameIn_7 : decode cX0_cameIn 7 = .ok (.invokestatic 47, 3) := by decide +kernel
theorem dX0_cameIn_10 : decode cX0_cameIn 10 = .ok (.ireturn, 1) := by decide +kernel
set_option maxRecDepth 20000 in
theorem ggX0_sumOfSizes_X4_many : GoodIn wsX0_sumOfSizes wsX4_many := goodIn_r _ [6, 7, 15, 16] (by decide +kernel) (by decide +kernel)
set_option maxRecDepth 20000 in
theorem gX0_sumOfSizes_X4_many : GoodIn wsX0_sumOfSizes (wsV RX0 28 RX4 yX4_many wsX4_many) := goodIn_app (goodIn_of _ (by decide +kernel)) ggX0_sumOfSizes_X4_many
set_option maxRecDepth 20000 in
theorem ggX0_sumOfSizes_X4_at : GoodIn wsX0_sumOfSizes wsX4_at := goodIn_r _ [11, 7, 12, 15, 16] (by decide +kernel) (by decide +kernel)
set_option maxRecDepth 20000 in
theorem gX0_sumOfSizes_X4_at : GoodIn wsX0_sumOfSizes (wsV RX0 31 RX4 yX4_at wsX4_at) := goodIn_app (goodIn_of _ (by decide +kernel)) ggX0_sumOfSizes_X4_at
theorem dX0_sumOfSizes_0 : decode cX0_sumOfSizes 0 = .ok (.iconst 0, 1) := by decide +kernel
theorem dX0_sumOfSizes_1 : decode cX0_sumOfSizes 1 = .ok (.istore_n 1, 1) := by decide +kernel
theorem dX0_sumOfSizes_2 : decode cX0_sumOfSizes 2 = .ok (.iconst 0, 1) := by decide +kernel
theorem dX0_sumOfSizes_3 : decode cX0_sumOfSizes 3 = .ok (.istore_n 2, 1) := by decide +kernel
theorem dX0_sumOfSizes_4 : decode cX0_sumOfSizes 4 = .ok (.iload_n 2, 1) := by decide +kernel
theorem dX0_sumOfSizes_5 : decode cX0_sumOfSizes 5 = .ok (.aload_n 0, 1) := by decide +kernel
theorem dX0_sumOfSizes_6 : decode cX0_sumOfSizes 6 = .ok (.getfield 14, 3) := by decide +kernel
theorem dX0_sumOfSizes_9 : decode cX0_sumOfSizes 9 = .ok (.invokevirtual 28, 3) := by decide +kernel
theorem dX0_sumOfSizes_12 : decode cX0_sumOfSizes 12 = .ok (.if_icmp .ge 20, 3) := by decide +kernel
theorem dX0_sumOfSizes_15 : decode cX0_sumOfSizes 15 = .ok (.iload_n 1, 1) := by decide +kernel
theorem dX0_sumOfSizes_16 : decode cX0_sumOfSizes 16 = .ok (.aload_n 0, 1) := by decide +kernel
theorem dX0_sumOfSizes_17 : decode cX0_sumOfSizes 17 = .ok (.getfield 14, 3) := by decide +kernel
theorem dX0_sumOfSizes_20 : decode cX0_sumOfSizes 20 = .ok (.iload_n 2, 1) := by decide +kernel
theorem dX0_sumOfSizes_21 : decode cX0_sumOfSizes 21 = .ok (.invokevirtual 31, 3) := by decide +kernel
theorem dX0_sumOfSizes_24 : decode cX0_sumOfSizes 24 = .ok (.iadd, 1) := by decide +kernel
theorem dX0_sumOfSizes_25 : decode cX0_sumOfSizes 25 = .ok (.istore_n 1, 1) := by decide +kernel
theorem dX0_sumOfSizes_26 : decode cX0_sumOfSizes 26 = .ok (.iinc 2 1, 3) := by decide +kernel
theorem dX0_sumOfSizes_29 : decode cX0_sumOfSizes 29 = .ok (.goto (-25), 3) := by decide +kernel
theorem dX0_sumOfSizes_32 : decode cX0_sumOfSizes 32 = .ok (.iload_n 1, 1) := by decide +kernel
theorem dX0_sumOfSizes_33 : decode cX0_sumOfSizes 33 = .ok (.ireturn, 1) := by decide +kernel
theorem dX1_labelOf_0 : decode cX1_labelOf 0 = .ok (.iload_n 0, 1) := by decide +kernel
theorem dX1_labelOf_1 : decode cX1_labelOf 1 = .ok (.sipush 17982, 3) := by decide +kernel
theorem dX1_labelOf_4 : decode cX1_labelOf 4 = .ok (.idiv, 1) := by decide +kernel
theorem dX1_labelOf_5 : decode cX1_labelOf 5 = .ok (.bipush 10, 2) := by decide +kernel
theorem dX1_labelOf_7 : decode cX1_labelOf 7 = .ok (.imul, 1) := by decide +kernel
theorem dX1_labelOf_8 : decode cX1_labelOf 8 = .ok (.istore_n 1, 1) := by decide +kernel
theorem dX1_labelOf_9 : decode cX1_labelOf 9 = .ok (.iload_n 0, 1) := by decide +kernel
theorem dX1_labelOf_10 : decode cX1_labelOf 10 = .ok (.sipush 17982, 3) := by decide +kernel
theorem dX1_labelOf_13 : decode cX1_labelOf 13 = .ok (.irem, 1) := by decide +kernel
theorem dX1_labelOf_14 : decode cX1_labelOf 14 = .ok (.istore_n 2, 1) := by decide +kernel
theorem dX1_labelOf_15 : decode cX1_labelOf 15 = .ok (.iload_n 2, 1) := by decide +kernel
theorem dX1_labelOf_16 : decode cX1_labelOf 16 = .ok (.sipush 1800, 3) := by decide +kernel
theorem dX1_labelOf_19 : decode cX1_labelOf 19 = .ok (.if_icmp .lt 27, 3) := by decide +kernel
theorem dX1_labelOf_22 : decode cX1_labelOf 22 = .ok (.iload_n 2, 1) := by decide +kernel
theorem dX1_labelOf_23 : decode cX1_labelOf 23 = .ok (.sipush 1800, 3) := by decide +kernel
theorem dX1_labelOf_26 : decode cX1_labelOf 26 = .ok (.isub, 1) := by decide +kernel
theorem dX1_labelOf_27 : decode cX1_labelOf 27 = .ok (.istore_n 3, 1) := by decide +kernel
theorem dX1_labelOf_28 : decode cX1_labelOf 28 = .ok (.iload_n 1, 1) := by decide +kernel
theorem dX1_labelOf_29 : decode cX1_labelOf 29 = .ok (.iconst 1, 1) := by decide +kernel
theorem dX1_labelOf_30 : decode cX1_labelOf 30 = .ok (.iload_n 3, 1) := by decide +kernel
theorem dX1_labelOf_31 : decode cX1_labelOf 31 = .ok (.sipush 1798, 3) := by decide +kernel
theorem dX1_labelOf_34 : decode cX1_labelOf 34 = .ok (.idiv, 1) := by decide +kernel
theorem dX1_labelOf_35 : decode cX1_labelOf 35 = .ok (.iadd, 1) := by decide +kernel
theorem dX1_labelOf_36 : decode cX1_labelOf 36 = .ok (.iadd, 1) := by decide +kernel
theorem dX1_labelOf_37 : decode cX1_labelOf 37 = .ok (.istore_n 1, 1) := by decide +kernel
theorem dX1_labelOf_38 : decode cX1_labelOf 38 = .ok (.iconst 2, 1) := by decide +kernel
theorem dX1_labelOf_39 : decode cX1_labelOf 39 = .ok (.iload_n 3, 1) := by decide +kernel
theorem dX1_labelOf_40 : decode cX1_labelOf 40 = .ok (.sipush 1798, 3) := by decide +kernel
theorem dX1_labelOf_43 : decode cX1_labelOf 43 = .ok (.irem, 1) := by decide +kernel
theorem dX1_labelOf_44 : decode cX1_labelOf 44 = .ok (.iadd, 1) := by decide +kernel
theorem dX1_labelOf_45 : decode cX1_labelOf 45 = .ok (.istore_n 2, 1) := by decide +kernel
theorem dX1_labelOf_46 : decode cX1_labelOf 46 = .ok (.iload_n 1, 1) := by decide +kernel
theorem dX1_labelOf_47 : decode cX1_labelOf 47 = .ok (.sipush 10000, 3) := by decide +kernel
theorem dX1_labelOf_50 : decode cX1_labelOf 50 = .ok (.imul, 1) := by decide +kernel
theorem dX1_labelOf_51 : decode cX1_labelOf 51 = .ok (.iload_n 2, 1) := by decide +kernel
theorem dX1_labelOf_52 : decode cX1_labelOf 52 = .ok (.bipush 30, 2) := by decide +kernel
theorem dX1_labelOf_54 : decode cX1_labelOf 54 = .ok (.idiv, 1) := by decide +kernel
theorem dX1_labelOf_55 : decode cX1_labelOf 55 = .ok (.bipush 100, 2) := by decide +kernel
theorem dX1_labelOf_57 : decode cX1_labelOf 57 = .ok (.imul, 1) := by decide +kernel
theorem dX1_labelOf_58 : decode cX1_labelOf 58 = .ok (.iadd, 1) := by decide +kernel
theorem dX1_labelOf_59 : decode cX1_labelOf 59 = .ok (.iload_n 2, 1) := by decide +kernel
theorem dX1_labelOf_60 : decode cX1_labelOf 60 = .ok (.bipush 30, 2) := by decide +kernel
theorem dX1_labelOf_62 : decode cX1_labelOf 62 = .ok (.irem, 1) := by decide +kernel
theorem dX1_labelOf_63 : decode cX1_labelOf 63 = .ok (.iadd, 1) := by decide +kernel
theorem dX1_labelOf_64 : decode cX1_labelOf 64 = .ok (.ireturn, 1) := by decide +kernel
set_option maxRecDepth 20000 in
theorem ggX1_pictureOf_X1_isLeftOut : GoodIn wsX1_pictureOf wsX1_isLeftOut := goodIn_r _ [4] (by decide +kernel) (by decide +kernel)
set_option maxRecDepth 20000 in
theorem gX1_pictureOf_X1_isLeftOut : GoodIn wsX1_pictureOf (va_wsS RX1 11 yX1_isLeftOut wsX1_isLeftOut) := goodIn_app (goodIn_of _ (by decide +kernel)) ggX1_pictureOf_X1_isLeftOut
theorem dX1_pictureOf_0 : decode cX1_pictureOf 0 = .ok (.iload_n 0, 1) := by decide +kernel
theorem dX1_pictureOf_1 : decode cX1_pictureOf 1 = .ok (.ifCond .ge 5, 3) := by decide +kernel
theorem dX1_pictureOf_4 : decode cX1_pictureOf 4 = .ok (.iconst (-1), 1) := by decide +kernel
theorem dX1_pictureOf_5 : decode cX1_pictureOf 5 = .ok (.ireturn, 1) := by decide +kernel
theorem dX1_pictureOf_6 : decode cX1_pictureOf 6 = .ok (.iload_n 0, 1) := by decide +kernel
theorem dX1_pictureOf_7 : decode cX1_pictureOf 7 = .ok (.sipush 10000, 3) := by decide +kernel
theorem dX1_pictureOf_10 : decode cX1_pictureOf 10 = .ok (.idiv, 1) := by decide +kernel
theorem dX1_pictureOf_11 : decode cX1_pictureOf 11 = .ok (.istore_n 1, 1) := by decide +kernel
theorem dX1_pictureOf_12 : decode cX1_pictureOf 12 = .ok (.iload_n 0, 1) := by decide +kernel
theorem dX1_pictureOf_13 : decode cX1_pictureOf 13 = .ok (.bipush 100, 2) := by decide +kernel
theorem dX1_pictureOf_15 : decode cX1_pictureOf 15 = .ok (.idiv, 1) := by decide +kernel
theorem dX1_pictureOf_16 : decode cX1_pictureOf 16 = .ok (.bipush 100, 2) := by decide +kernel
theorem dX1_pictureOf_18 : decode cX1_pictureOf 18 = .ok (.irem, 1) := by decide +kernel
theorem dX1_pictureOf_19 : decode cX1_pictureOf 19 = .ok (.istore_n 2, 1) := by decide +kernel
theorem dX1_pictureOf_20 : decode cX1_pictureOf 20 = .ok (.iload_n 0, 1) := by decide +kernel
theorem dX1_pictureOf_21 : decode cX1_pictureOf 21 = .ok (.bipush 100, 2) := by decide +kernel
theorem dX1_pictureOf_23 : decode cX1_pictureOf 23 = .ok (.irem, 1) := by decide +kernel
theorem dX1_pictureOf_24 : decode cX1_pictureOf 24 = .ok (.istore_n 3, 1) := by decide +kernel
theorem dX1_pictureOf_25 : decode cX1_pictureOf 25 = .ok (.iload_n 1, 1) := by decide +kernel
theorem dX1_pictureOf_26 : decode cX1_pictureOf 26 = .ok (.bipush 59, 2) := by decide +kernel
theorem dX1_pictureOf_28 : decode cX1_pictureOf 28 = .ok (.if_icmp .gt 24, 3) := by decide +kernel
theorem dX1_pictureOf_31 : decode cX1_pictureOf 31 = .ok (.iload_n 2, 1) := by decide +kernel
theorem dX1_pictureOf_32 : decode cX1_pictureOf 32 = .ok (.bipush 59, 2) := by decide +kernel
theorem dX1_pictureOf_34 : decode cX1_pictureOf 34 = .ok (.if_icmp .gt 18, 3) := by decide +kernel
theorem dX1_pictureOf_37 : decode cX1_pictureOf 37 = .ok (.iload_n 3, 1) := by decide +kernel
theorem dX1_pictureOf_38 : decode cX1_pictureOf 38 = .ok (.bipush 30, 2) := by decide +kernel
theorem dX1_pictureOf_40 : decode cX1_pictureOf 40 = .ok (.if_icmp .ge 12, 3) := by decide +kernel
theorem dX1_pictureOf_43 : decode cX1_pictureOf 43 = .ok (.iload_n 1, 1) := by decide +kernel
theorem dX1_pictureOf_44 : decode cX1_pictureOf 44 = .ok (.iload_n 2, 1) := by decide +kernel
theorem dX1_pictureOf_45 : decode cX1_pictureOf 45 = .ok (.iload_n 3, 1) := by decide +kernel
theorem dX1_pictureOf_46 : decode cX1_pictureOf 46 = .ok (.invokestatic 11, 3) := by decide +kernel
theorem dX1_pictureOf_49 : decode cX1_pictureOf 49 = .ok (.ifCond .eq 5, 3) := by decide +kernel
theorem dX1_pictureOf_52 : decode cX1_pictureOf 52 = .ok (.iconst (-1), 1) := by decide +kernel
theorem dX1_pictureOf_53 : decode cX1_pictureOf 53 = .ok (.ireturn, 1) := by decide +kernel
theorem dX1_pictureOf_54 : decode cX1_pictureOf 54 = .ok (.iload_n 1, 1) := by decide +kernel
theorem dX1_pictureOf_55 : decode cX1_pictureOf 55 = .ok (.iload_n 1, 1) := by decide +kernel
theorem dX1_pictureOf_56 : decode cX1_pictureOf 56 = .ok (.bipush 10, 2) := by decide +kernel
theorem dX1_pictureOf_58 : decode cX1_pictureOf 58 = .ok (.idiv, 1) := by decide +kernel
theorem dX1_pictureOf_59 : decode cX1_pictureOf 59 = .ok (.isub, 1) := by decide +kernel
theorem dX1_pictureOf_60 : decode cX1_pictureOf 60 = .ok (.istore 4, 2) := by decide +kernel
theorem dX1_pictureOf_62 : decode cX1_pictureOf 62 = .ok (.iload_n 1, 1) := by decide +kernel
theorem dX1_pictureOf_63 : decode cX1_pictureOf 63 = .ok (.sipush 1800, 3) := by decide +kernel
theorem dX1_pictureOf_66 : decode cX1_pictureOf 66 = .ok (.imul, 1) := by decide +kernel
theorem dX1_pictureOf_67 : decode cX1_pictureOf 67 = .ok (.iload_n 2, 1) := by decide +kernel
theorem dX1_pictureOf_68 : decode cX1_pictureOf 68 = .ok (.bipush 30, 2) := by decide +kernel
theorem dX1_pictureOf_70 : decode cX1_pictureOf 70 = .ok (.imul, 1) := by decide +kernel
theorem dX1_pictureOf_71 : decode cX1_pictureOf 71 = .ok (.iadd, 1) := by decide +kernel
theorem dX1_pictureOf_72 : decode cX1_pictureOf 72 = .ok (.iload_n 3, 1) := by decide +kernel
theorem dX1_pictureOf_73 : decode cX1_pictureOf 73 = .ok (.iadd, 1) := by decide +kernel
theorem dX1_pictureOf_74 : decode cX1_pictureOf 74 = .ok (.iconst 2, 1) := by decide +kernel
theorem dX1_pictureOf_75 : decode cX1_pictureOf 75 = .ok (.iload 4, 2) := by decide +kernel
theorem dX1_pictureOf_77 : decode cX1_pictureOf 77 = .ok (.imul, 1) := by decide +kernel
theorem dX1_pictureOf_78 : decode cX1_pictureOf 78 = .ok (.isub, 1) := by decide +kernel
theorem dX1_pictureOf_79 : decode cX1_pictureOf 79 = .ok (.ireturn, 1) := by decide +kernel
set_option maxRecDepth 20000 in
theorem ggX1_goesBack_X1_labelOf : GoodIn wsX1_goesBack wsX1_labelOf := goodIn_r _ [4] (by decide +kernel) (by decide +kernel)
set_option maxRecDepth 20000 in
theorem gX1_goesBack_X1_labelOf : GoodIn wsX1_goesBack (va_wsS RX1 15 yX1_labelOf wsX1_labelOf) := goodIn_app (goodIn_of _ (by decide +kernel)) ggX1_goesBack_X1_labelOf
set_option maxRecDepth 20000 in
theorem ggX1_goesBack_X1_pictureOf : GoodIn wsX1_goesBack wsX1_pictureOf := goodIn_r _ [7, 8, 9, 3, 10] (by decide +kernel) (by decide +kernel)
set_option maxRecDepth 20000 in
theorem gX1_goesBack_X1_pictureOf : GoodIn wsX1_goesBack (va_wsS RX1 19 yX1_pictureOf wsX1_pictureOf) := goodIn_app (goodIn_of _ (by decide +kernel)) ggX1_goesBack_X1_pictureOf
theorem dX1_goesBack_0 : decode cX1_goesBack 0 = .ok (.iload_n 0, 1) := by decide +kernel
theorem dX1_goesBack_1 : decode cX1_goesBack 1 = .ok (.invokestatic 15, 3) := by decide +kernel
theorem dX1_goesBack_4 : decode cX1_goesBack 4 = .ok (.invokestatic 19, 3) := by decide +kernel
theorem dX1_goesBack_7 : decode cX1_goesBack 7 = .ok (.iload_n 0, 1) := by decide +kernel
theorem dX1_goesBack_8 : decode cX1_goesBack 8 = .ok (.if_icmp .ne 7, 3) := by decide +kernel
theorem dX1_goesBack_11 : decode cX1_goesBack 11 = .ok (.iconst 1, 1) := by decide +kernel
theorem dX1_goesBack_12 : decode cX1_goesBack 12 = .ok (.goto 4, 3) := by decide +kernel
theorem dX1_goesBack_15 : decode cX1_goesBack 15 = .ok (.iconst 0, 1) := by decide +kernel
theorem dX1_goesBack_16 : decode cX1_goesBack 16 = .ok (.ireturn, 1) := by decide +kernel
theorem dX1_isLeftOut_0 : decode cX1_isLeftOut 0 = .ok (.iload_n 0, 1) := by decide +kernel
theorem dX1_isLeftOut_1 : decode cX1_isLeftOut 1 = .ok (.bipush 10, 2) := by decide +kernel
theorem dX1_isLeftOut_3 : decode cX1_isLeftOut 3 = .ok (.irem, 1) := by decide +kernel
theorem dX1_isLeftOut_4 : decode cX1_isLeftOut 4 = .ok (.ifCond .eq 16, 3) := by decide +kernel
theorem dX1_isLeftOut_7 : decode cX1_isLeftOut 7 = .ok (.iload_n 1, 1) := by decide +kernel
theorem dX1_isLeftOut_8 : decode cX1_isLeftOut 8 = .ok (.ifCond .ne 12, 3) := by decide +kernel
theorem dX1_isLeftOut_11 : decode cX1_isLeftOut 11 = .ok (.iload_n 2, 1) := by decide +kernel
theorem dX1_isLeftOut_12 : decode cX1_isLeftOut 12 = .ok (.iconst 2, 1) := by decide +kernel
theorem dX1_isLeftOut_13 : decode cX1_isLeftOut 13 = .ok (.if_icmp .ge 7, 3) := by decide +kernel
theorem dX1_isLeftOut_16 : decode cX1_isLeftOut 16 = .ok (.iconst 1, 1) := by decide +kernel
theorem dX1_isLeftOut_17 : decode cX1_isLeftOut 17 = .ok (.goto 4, 3) := by decide +kernel
theorem dX1_isLeftOut_20 : decode cX1_isLeftOut 20 = .ok (.iconst 0, 1) := by decide +kernel
theorem dX1_isLeftOut_21 : decode cX1_isLeftOut 21 = .ok (.ireturn, 1) := by decide +kernel
end
section
set_option maxRecDepth 20000 in
theorem ggX2_init_X4_init : GoodIn wsX2_init wsX4_init := goodIn_r _ [15, 16, 2, 3, 17, 18, 19, 20, 8, 21, 22, 27, 28] (by decide +kernel) (by decide +kernel)
set_option maxRecDepth 20000 in
theorem gX2_init_X4_init : GoodIn wsX2_init (wsX4_init) := ggX2_init_X4_init
theorem dX2_init_0 : decode cX2_init 0 = .ok (.aload_n 0, 1) := by decide +kernel
theorem dX2_init_1 : decode cX2_init 1 = .ok (.invokespecial 3, 3) := by decide +kernel
theorem dX2_init_4 : decode cX2_init 4 = .ok (.aload_n 0, 1) := by decide +kernel
theorem dX2_init_5 : decode cX2_init 5 = .ok (.iconst 3, 1) := by decide +kernel
theorem dX2_init_6 : decode cX2_init 6 = .ok (.anewarray 9, 3) := by decide +kernel
theorem dX2_init_9 : decode cX2_init 9 = .ok (.putfield 11, 3) := by decide +kernel
theorem dX2_init_12 : decode cX2_init 12 = .ok (.iconst 0, 1) := by decide +kernel
theorem dX2_init_13 : decode cX2_init 13 = .ok (.istore_n 1, 1) := by decide +kernel
theorem dX2_init_14 : decode cX2_init 14 = .ok (.iload_n 1, 1) := by decide +kernel
theorem dX2_init_15 : decode cX2_init 15 = .ok (.iconst 3, 1) := by decide +kernel
theorem dX2_init_16 : decode cX2_init 16 = .ok (.if_icmp .ge 24, 3) := by decide +kernel
theorem dX2_init_19 : decode cX2_init 19 = .ok (.aload_n 0, 1) := by decide +kernel
theorem dX2_init_20 : decode cX2_init 20 = .ok (.getfield 11, 3) := by decide +kernel
theorem dX2_init_23 : decode cX2_init 23 = .ok (.iload_n 1, 1) := by decide +kernel
theorem dX2_init_24 : decode cX2_init 24 = .ok (.new 9, 3) := by decide +kernel
theorem dX2_init_27 : decode cX2_init 27 = .ok (.dup, 1) := by decide +kernel
theorem dX2_init_28 : decode cX2_init 28 = .ok (.bipush 10, 2) := by decide +kernel
theorem dX2_init_30 : decode cX2_init 30 = .ok (.invokespecial 17, 3) := by decide +kernel
theorem dX2_init_33 : decode cX2_init 33 = .ok (.aastore, 1) := by decide +kernel
theorem dX2_init_34 : decode cX2_init 34 = .ok (.iinc 1 1, 3) := by decide +kernel
theorem dX2_init_37 : decode cX2_init 37 = .ok (.goto (-23), 3) := by decide +kernel
theorem dX2_init_40 : decode cX2_init 40 = .ok (.aload_n 0, 1) := by decide +kernel
theorem dX2_init_41 : decode cX2_init 41 = .ok (.bipush 121, 2) := by decide +kernel
theorem dX2_init_43 : decode cX2_init 43 = .ok (.newarray .int, 2) := by decide +kernel
theorem dX2_init_45 : decode cX2_init 45 = .ok (.putfield 20, 3) := by decide +kernel
theorem dX2_init_48 : decode cX2_init 48 = .ok (.aload_n 0, 1) := by decide +kernel
theorem dX2_init_49 : decode cX2_init 49 = .ok (.bipush 20, 2) := by decide +kernel
theorem dX2_init_51 : decode cX2_init 51 = .ok (.newarray .char, 2) := by decide +kernel
theorem dX2_init_53 : decode cX2_init 53 = .ok (.putfield 24, 3) := by decide +kernel
theorem dX2_init_56 : decode cX2_init 56 = .ok (.aload_n 0, 1) := by decide +kernel
theorem dX2_init_57 : decode cX2_init 57 = .ok (.iconst 0, 1) := by decide +kernel
theorem dX2_init_58 : decode cX2_init 58 = .ok (.putfield 28, 3) := by decide +kernel
theorem dX2_init_61 : decode cX2_init 61 = .ok (.return_, 1) := by decide +kernel
theorem dX2_begin_0 : decode cX2_begin 0 = .ok (.aload_n 0, 1) := by decide +kernel
theorem dX2_begin_1 : decode cX2_begin 1 = .ok (.getfield 28, 3) := by decide +kernel
theorem dX2_begin_4 : decode cX2_begin 4 = .ok (.iconst 3, 1) := by decide +kernel
theorem dX2_begin_5 : decode cX2_begin 5 = .ok (.if_icmp .lt 5, 3) := by decide +kernel
theorem dX2_begin_8 : decode cX2_begin 8 = .ok (.iconst (-1), 1) := by decide +kernel
theorem dX2_begin_9 : decode cX2_begin 9 = .ok (.ireturn, 1) := by decide +kernel
theorem dX2_begin_10 : decode cX2_begin 10 = .ok (.aload_n 0, 1) := by decide +kernel
theorem dX2_begin_11 : decode cX2_begin 11 = .ok (.dup, 1) := by decide +kernel
theorem dX2_begin_12 : decode cX2_begin 12 = .ok (.getfield 28, 3) := by decide +kernel
theorem dX2_begin_15 : decode cX2_begin 15 = .ok (.iconst 1, 1) := by decide +kernel
theorem dX2_begin_16 : decode cX2_begin 16 = .ok (.iadd, 1) := by decide +kernel
theorem dX2_begin_17 : decode cX2_begin 17 = .ok (.putfield 28, 3) := by decide +kernel
theorem dX2_begin_20 : decode cX2_begin 20 = .ok (.aload_n 0, 1) := by decide +kernel
theorem dX2_begin_21 : decode cX2_begin 21 = .ok (.getfield 28, 3) := by decide +kernel
theorem dX2_begin_24 : decode cX2_begin 24 = .ok (.iconst 1, 1) := by decide +kernel
theorem dX2_begin_25 : decode cX2_begin 25 = .ok (.isub, 1) := by decide +kernel
theorem dX2_begin_26 : decode cX2_begin 26 = .ok (.ireturn, 1) := by decide +kernel
theorem dX2_has_0 : decode cX2_has 0 = .ok (.iload_n 1, 1) := by decide +kernel
theorem dX2_has_1 : decode cX2_has 1 = .ok (.ifCond .lt 15, 3) := by decide +kernel
theorem dX2_has_4 : decode cX2_has 4 = .ok (.iload_n 1, 1) := by decide +kernel
theorem dX2_has_5 : decode cX2_has 5 = .ok (.aload_n 0, 1) := by decide +kernel
theorem dX2_has_6 : decode cX2_has 6 = .ok (.getfield 28, 3) := by decide +kernel
theorem dX2_has_9 : decode cX2_has 9 = .ok (.if_icmp .ge 7, 3) := by decide +kernel
theorem dX2_has_12 : decode cX2_has 12 = .ok (.iconst 1, 1) := by decide +kernel
theorem dX2_has_13 : decode cX2_has 13 = .ok (.goto 4, 3) := by decide +kernel
theorem dX2_has_16 : decode cX2_has 16 = .ok (.iconst 0, 1) := by decide +kernel
theorem dX2_has_17 : decode cX2_has 17 = .ok (.ireturn, 1) := by decide +kernel
theorem dX2_row_0 : decode cX2_row 0 = .ok (.aload_n 0, 1) := by decide +kernel
theorem dX2_row_1 : decode cX2_row 1 = .ok (.getfield 11, 3) := by decide +kernel
theorem dX2_row_4 : decode cX2_row 4 = .ok (.iload_n 1, 1) := by decide +kernel
theorem dX2_row_5 : decode cX2_row 5 = .ok (.aaload, 1) := by decide +kernel
theorem dX2_row_6 : decode cX2_row 6 = .ok (.areturn, 1) := by decide +kernel
set_option maxRecDepth 20000 in
theorem ggX2_distance_X4_many : GoodIn wsX2_distance wsX4_many := goodIn_r _ [7, 8, 37, 38] (by decide +kernel) (by decide +kernel)
set_option maxRecDepth 20000 in
theorem gX2_distance_X4_many : GoodIn wsX2_distance (wsV RX2 32 RX4 yX4_many wsX4_many) := goodIn_app (goodIn_of _ (by decide +kernel)) ggX2_distance_X4_many
set_option maxRecDepth 20000 in
theorem ggX2_distance_X2_leastFrom : GoodIn wsX2_distance wsX2_leastFrom := goodIn_r _ [13, 2, 14, 15, 16, 17, 18, 19, 20, 6, 21, 8, 3, 4, 5, 7, 22, 23, 24, 25, 26, 27, 28, 12, 29, 30, 31, 32, 33, 34, 35, 36, 37, 38] (by decide +kernel) (by decide +kernel)
set_option maxRecDepth 20000 in
theorem gX2_distance_X2_leastFrom : GoodIn wsX2_distance (wsV RX2 35 RX2 yX2_leastFrom wsX2_leastFrom) := goodIn_app (goodIn_of _ (by decide +kernel)) ggX2_distance_X2_leastFrom
theorem dX2_distance_0 : decode cX2_distance 0 = .ok (.aload_n 0, 1) := by decide +kernel
theorem dX2_distance_1 : decode cX2_distance 1 = .ok (.getfield 11, 3) := by decide +kernel
theorem dX2_distance_4 : decode cX2_distance 4 = .ok (.iload_n 1, 1) := by decide +kernel
theorem dX2_distance_5 : decode cX2_distance 5 = .ok (.aaload, 1) := by decide +kernel
theorem dX2_distance_6 : decode cX2_distance 6 = .ok (.astore_n 3, 1) := by decide +kernel
theorem dX2_distance_7 : decode cX2_distance 7 = .ok (.aload_n 0, 1) := by decide +kernel
theorem dX2_distance_8 : decode cX2_distance 8 = .ok (.getfield 11, 3) := by decide +kernel
theorem dX2_distance_11 : decode cX2_distance 11 = .ok (.iload_n 2, 1) := by decide +kernel
theorem dX2_distance_12 : decode cX2_distance 12 = .ok (.aaload, 1) := by decide +kernel
theorem dX2_distance_13 : decode cX2_distance 13 = .ok (.astore 4, 2) := by decide +kernel
theorem dX2_distance_15 : decode cX2_distance 15 = .ok (.aload_n 3, 1) := by decide +kernel
theorem dX2_distance_16 : decode cX2_distance 16 = .ok (.invokevirtual 32, 3) := by decide +kernel
theorem dX2_distance_19 : decode cX2_distance 19 = .ok (.istore 5, 2) := by decide +kernel
theorem dX2_distance_21 : decode cX2_distance 21 = .ok (.iload 5, 2) := by decide +kernel
theorem dX2_distance_23 : decode cX2_distance 23 = .ok (.ifCond .lt 51, 3) := by decide +kernel
theorem dX2_distance_26 : decode cX2_distance 26 = .ok (.aload 4, 2) := by decide +kernel
theorem dX2_distance_28 : decode cX2_distance 28 = .ok (.invokevirtual 32, 3) := by decide +kernel
theorem dX2_distance_31 : decode cX2_distance 31 = .ok (.istore 6, 2) := by decide +kernel
theorem dX2_distance_33 : decode cX2_distance 33 = .ok (.iload 6, 2) := by decide +kernel
theorem dX2_distance_35 : decode cX2_distance 35 = .ok (.ifCond .lt 33, 3) := by decide +kernel
theorem dX2_distance_38 : decode cX2_distance 38 = .ok (.aload_n 0, 1) := by decide +kernel
theorem dX2_distance_39 : decode cX2_distance 39 = .ok (.getfield 20, 3) := by decide +kernel
theorem dX2_distance_42 : decode cX2_distance 42 = .ok (.iload 5, 2) := by decide +kernel
theorem dX2_distance_44 : decode cX2_distance 44 = .ok (.bipush 11, 2) := by decide +kernel
theorem dX2_distance_46 : decode cX2_distance 46 = .ok (.imul, 1) := by decide +kernel
theorem dX2_distance_47 : decode cX2_distance 47 = .ok (.iload 6, 2) := by decide +kernel
theorem dX2_distance_49 : decode cX2_distance 49 = .ok (.iadd, 1) := by decide +kernel
theorem dX2_distance_50 : decode cX2_distance 50 = .ok (.aload_n 0, 1) := by decide +kernel
theorem dX2_distance_51 : decode cX2_distance 51 = .ok (.aload_n 3, 1) := by decide +kernel
theorem dX2_distance_52 : decode cX2_distance 52 = .ok (.aload 4, 2) := by decide +kernel
theorem dX2_distance_54 : decode cX2_distance 54 = .ok (.iload 5, 2) := by decide +kernel
theorem dX2_distance_56 : decode cX2_distance 56 = .ok (.iload 6, 2) := by decide +kernel
theorem dX2_distance_58 : decode cX2_distance 58 = .ok (.invokevirtual 35, 3) := by decide +kernel
theorem dX2_distance_61 : decode cX2_distance 61 = .ok (.iastore, 1) := by decide +kernel
theorem dX2_distance_62 : decode cX2_distance 62 = .ok (.iinc 6 (-1), 3) := by decide +kernel
theorem dX2_distance_65 : decode cX2_distance 65 = .ok (.goto (-32), 3) := by decide +kernel
theorem dX2_distance_68 : decode cX2_distance 68 = .ok (.iinc 5 (-1), 3) := by decide +kernel
theorem dX2_distance_71 : decode cX2_distance 71 = .ok (.goto (-50), 3) := by decide +kernel
theorem dX2_distance_74 : decode cX2_distance 74 = .ok (.aload_n 0, 1) := by decide +kernel
theorem dX2_distance_75 : decode cX2_distance 75 = .ok (.getfield 20, 3) := by decide +kernel
theorem dX2_distance_78 : decode cX2_distance 78 = .ok (.iconst 0, 1) := by decide +kernel
theorem dX2_distance_79 : decode cX2_distance 79 = .ok (.iaload, 1) := by decide +kernel
theorem dX2_distance_80 : decode cX2_distance 80 = .ok (.ireturn, 1) := by decide +kernel
set_option maxRecDepth 20000 in
theorem ggX2_layOut_X2_distance : GoodIn wsX2_layOut wsX2_distance := goodIn_r _ [7, 1, 8, 9, 10, 11, 12, 13, 14, 15, 16, 17, 6, 18, 19, 20, 21, 22, 23, 24, 25, 26, 27, 28, 29, 30, 31, 32, 33, 34, 35, 36, 37, 42, 43, 44, 45, 46, 47] (by decide +kernel) (by decide +kernel)
set_option maxRecDepth 20000 in
theorem gX2_layOut_X2_distance : GoodIn wsX2_layOut (wsV RX2 39 RX2 yX2_distance wsX2_distance) := goodIn_app (goodIn_of _ (by decide +kernel)) ggX2_layOut_X2_distance
set_option maxRecDepth 20000 in
theorem ggX2_layOut_X4_has : GoodIn wsX2_layOut wsX4_has := goodIn_r _ [26, 14, 46, 47] (by decide +kernel) (by decide +kernel)
set_option maxRecDepth 20000 in
theorem gX2_layOut_X4_has : GoodIn wsX2_layOut (wsV RX2 43 RX4 yX4_has wsX4_has) := goodIn_app (goodIn_of _ (by decide +kernel)) ggX2_layOut_X4_has
set_option maxRecDepth 20000 in
theorem ggX2_layOut_X2_signAt : GoodIn wsX2_layOut wsX2_signAt := goodIn_r _ [41, 8, 23, 24, 25, 12, 26, 14, 27, 28, 29, 30, 31, 32, 33, 6, 34, 35, 36, 21, 37, 19, 20, 22, 42, 43, 44, 45, 46, 47] (by decide +kernel) (by decide +kernel)
set_option maxRecDepth 20000 in
theorem gX2_layOut_X2_signAt : GoodIn wsX2_layOut (wsV RX2 47 RX2 yX2_signAt wsX2_signAt) := goodIn_app (goodIn_of _ (by decide +kernel)) ggX2_layOut_X2_signAt
theorem dX2_layOut_0 : decode cX2_layOut 0 = .ok (.aload_n 0, 1) := by decide +kernel
theorem dX2_layOut_1 : decode cX2_layOut 1 = .ok (.iload_n 1, 1) := by decide +kernel
theorem dX2_layOut_2 : decode cX2_layOut 2 = .ok (.iload_n 2, 1) := by decide +kernel
theorem dX2_layOut_3 : decode cX2_layOut 3 = .ok (.invokevirtual 39, 3) := by decide +kernel
theorem dX2_layOut_6 : decode cX2_layOut 6 = .ok (.pop, 1) := by decide +kernel
theorem dX2_layOut_7 : decode cX2_layOut 7 = .ok (.aload_n 0, 1) := by decide +kernel
theorem dX2_layOut_8 : decode cX2_layOut 8 = .ok (.getfield 11, 3) := by decide +kernel
theorem dX2_layOut_11 : decode cX2_layOut 11 = .ok (.iload_n 1, 1) := by decide +kernel
theorem dX2_layOut_12 : decode cX2_layOut 12 = .ok (.aaload, 1) := by decide +kernel
theorem dX2_layOut_13 : decode cX2_layOut 13 = .ok (.astore_n 3, 1) := by decide +kernel
theorem dX2_layOut_14 : decode cX2_layOut 14 = .ok (.aload_n 0, 1) := by decide +kernel
theorem dX2_layOut_15 : decode cX2_layOut 15 = .ok (.getfield 11, 3) := by decide +kernel
theorem dX2_layOut_18 : decode cX2_layOut 18 = .ok (.iload_n 2, 1) := by decide +kernel
theorem dX2_layOut_19 : decode cX2_layOut 19 = .ok (.aaload, 1) := by decide +kernel
theorem dX2_layOut_20 : decode cX2_layOut 20 = .ok (.astore 4, 2) := by decide +kernel
theorem dX2_layOut_22 : decode cX2_layOut 22 = .ok (.iconst 0, 1) := by decide +kernel
theorem dX2_layOut_23 : decode cX2_layOut 23 = .ok (.istore 5, 2) := by decide +kernel
theorem dX2_layOut_25 : decode cX2_layOut 25 = .ok (.iconst 0, 1) := by decide +kernel
theorem dX2_layOut_26 : decode cX2_layOut 26 = .ok (.istore 6, 2) := by decide +kernel
theorem dX2_layOut_28 : decode cX2_layOut 28 = .ok (.iconst 0, 1) := by decide +kernel
theorem dX2_layOut_29 : decode cX2_layOut 29 = .ok (.istore 7, 2) := by decide +kernel
theorem dX2_layOut_31 : decode cX2_layOut 31 = .ok (.iload 7, 2) := by decide +kernel
theorem dX2_layOut_33 : decode cX2_layOut 33 = .ok (.aload_n 0, 1) := by decide +kernel
theorem dX2_layOut_34 : decode cX2_layOut 34 = .ok (.getfield 24, 3) := by decide +kernel
theorem dX2_layOut_37 : decode cX2_layOut 37 = .ok (.arraylength, 1) := by decide +kernel
theorem dX2_layOut_38 : decode cX2_layOut 38 = .ok (.if_icmp .ge 84, 3) := by decide +kernel
theorem dX2_layOut_41 : decode cX2_layOut 41 = .ok (.aload_n 3, 1) := by decide +kernel
theorem dX2_layOut_42 : decode cX2_layOut 42 = .ok (.iload 5, 2) := by decide +kernel
theorem dX2_layOut_44 : decode cX2_layOut 44 = .ok (.invokevirtual 43, 3) := by decide +kernel
theorem dX2_layOut_47 : decode cX2_layOut 47 = .ok (.ifCond .ne 13, 3) := by decide +kernel
theorem dX2_layOut_50 : decode cX2_layOut 50 = .ok (.aload 4, 2) := by decide +kernel
theorem dX2_layOut_52 : decode cX2_layOut 52 = .ok (.iload 6, 2) := by decide +kernel
theorem dX2_layOut_54 : decode cX2_layOut 54 = .ok (.invokevirtual 43, 3) := by decide +kernel
theorem dX2_layOut_57 : decode cX2_layOut 57 = .ok (.ifCond .eq 65, 3) := by decide +kernel
theorem dX2_layOut_60 : decode cX2_layOut 60 = .ok (.aload_n 0, 1) := by decide +kernel
theorem dX2_layOut_61 : decode cX2_layOut 61 = .ok (.aload_n 3, 1) := by decide +kernel
theorem dX2_layOut_62 : decode cX2_layOut 62 = .ok (.aload 4, 2) := by decide +kernel
theorem dX2_layOut_64 : decode cX2_layOut 64 = .ok (.iload 5, 2) := by decide +kernel
theorem dX2_layOut_66 : decode cX2_layOut 66 = .ok (.iload 6, 2) := by decide +kernel
theorem dX2_layOut_68 : decode cX2_layOut 68 = .ok (.invokevirtual 47, 3) := by decide +kernel
theorem dX2_layOut_71 : decode cX2_layOut 71 = .ok (.istore 8, 2) := by decide +kernel
theorem dX2_layOut_73 : decode cX2_layOut 73 = .ok (.aload_n 0, 1) := by decide +kernel
theorem dX2_layOut_74 : decode cX2_layOut 74 = .ok (.getfield 24, 3) := by decide +kernel
theorem dX2_layOut_77 : decode cX2_layOut 77 = .ok (.iload 7, 2) := by decide +kernel
theorem dX2_layOut_79 : decode cX2_layOut 79 = .ok (.iload 8, 2) := by decide +kernel
theorem dX2_layOut_81 : decode cX2_layOut 81 = .ok (.castore, 1) := by decide +kernel
theorem dX2_layOut_82 : decode cX2_layOut 82 = .ok (.iinc 7 1, 3) := by decide +kernel
theorem dX2_layOut_85 : decode cX2_layOut 85 = .ok (.iload 5, 2) := by decide +kernel
theorem dX2_layOut_87 : decode cX2_layOut 87 = .ok (.iload 8, 2) := by decide +kernel
theorem dX2_layOut_89 : decode cX2_layOut 89 = .ok (.bipush 50, 2) := by decide +kernel
theorem dX2_layOut_91 : decode cX2_layOut 91 = .ok (.if_icmp .ne 7, 3) := by decide +kernel
theorem dX2_layOut_94 : decode cX2_layOut 94 = .ok (.iconst 0, 1) := by decide +kernel
theorem dX2_layOut_95 : decode cX2_layOut 95 = .ok (.goto 4, 3) := by decide +kernel
theorem dX2_layOut_98 : decode cX2_layOut 98 = .ok (.iconst 1, 1) := by decide +kernel
theorem dX2_layOut_99 : decode cX2_layOut 99 = .ok (.iadd, 1) := by decide +kernel
theorem dX2_layOut_100 : decode cX2_layOut 100 = .ok (.istore 5, 2) := by decide +kernel
theorem dX2_layOut_102 : decode cX2_layOut 102 = .ok (.iload 6, 2) := by decide +kernel
theorem dX2_layOut_104 : decode cX2_layOut 104 = .ok (.iload 8, 2) := by decide +kernel
theorem dX2_layOut_106 : decode cX2_layOut 106 = .ok (.bipush 49, 2) := by decide +kernel
theorem dX2_layOut_108 : decode cX2_layOut 108 = .ok (.if_icmp .ne 7, 3) := by decide +kernel
theorem dX2_layOut_111 : decode cX2_layOut 111 = .ok (.iconst 0, 1) := by decide +kernel
theorem dX2_layOut_112 : decode cX2_layOut 112 = .ok (.goto 4, 3) := by decide +kernel
theorem dX2_layOut_115 : decode cX2_layOut 115 = .ok (.iconst 1, 1) := by decide +kernel
theorem dX2_layOut_116 : decode cX2_layOut 116 = .ok (.iadd, 1) := by decide +kernel
theorem dX2_layOut_117 : decode cX2_layOut 117 = .ok (.istore 6, 2) := by decide +kernel
theorem dX2_layOut_119 : decode cX2_layOut 119 = .ok (.goto (-88), 3) := by decide +kernel
theorem dX2_layOut_122 : decode cX2_layOut 122 = .ok (.iload 7, 2) := by decide +kernel
theorem dX2_layOut_124 : decode cX2_layOut 124 = .ok (.ireturn, 1) := by decide +kernel
set_option maxRecDepth 20000 in
theorem ggX2_leastFrom_X4_has : GoodIn wsX2_leastFrom wsX4_has := goodIn_r _ [10, 11, 32, 33] (by decide +kernel) (by decide +kernel)
set_option maxRecDepth 20000 in
theorem gX2_leastFrom_X4_has : GoodIn wsX2_leastFrom (wsV RX2 43 RX4 yX4_has wsX4_has) := goodIn_app (goodIn_of _ (by decide +kernel)) ggX2_leastFrom_X4_has
set_option maxRecDepth 20000 in
theorem ggX2_leastFrom_X4_many : GoodIn wsX2_leastFrom wsX4_many := goodIn_r _ [15, 11, 32, 33] (by decide +kernel) (by decide +kernel)
set_option maxRecDepth 20000 in
theorem gX2_leastFrom_X4_many : GoodIn wsX2_leastFrom (wsV RX2 32 RX4 yX4_many wsX4_many) := goodIn_app (goodIn_of _ (by decide +kernel)) ggX2_leastFrom_X4_many
set_option maxRecDepth 20000 in
theorem ggX2_leastFrom_X4_at : GoodIn wsX2_leastFrom wsX4_at := goodIn_r _ [19, 11, 20, 32, 33] (by decide +kernel) (by decide +kernel)
set_option maxRecDepth 20000 in
theorem gX2_leastFrom_X4_at : GoodIn wsX2_leastFrom (wsV RX2 56 RX4 yX4_at wsX4_at) := goodIn_app (goodIn_of _ (by decide +kernel)) ggX2_leastFrom_X4_at
set_option maxRecDepth 20000 in
theorem ggX2_leastFrom_X2_together : GoodIn wsX2_leastFrom wsX2_together := goodIn_r _ [24, 25, 26, 4, 27, 2, 3, 5] (by decide +kernel) (by decide +kernel)
set_option maxRecDepth 20000 in
theorem gX2_leastFrom_X2_together : GoodIn wsX2_leastFrom (va_wsS RX2 60 yX2_together wsX2_together) := goodIn_app (goodIn_of _ (by decide +kernel)) ggX2_leastFrom_X2_together
theorem dX2_leastFrom_0 : decode cX2_leastFrom 0 = .ok (.aload_n 1, 1) := by decide +kernel
theorem dX2_leastFrom_1 : decode cX2_leastFrom 1 = .ok (.iload_n 3, 1) := by decide +kernel
theorem dX2_leastFrom_2 : decode cX2_leastFrom 2 = .ok (.invokevirtual 43, 3) := by decide +kernel
theorem dX2_leastFrom_5 : decode cX2_leastFrom 5 = .ok (.ifCond .ne 13, 3) := by decide +kernel
theorem dX2_leastFrom_8 : decode cX2_leastFrom 8 = .ok (.iconst 2, 1) := by decide +kernel
theorem dX2_leastFrom_9 : decode cX2_leastFrom 9 = .ok (.aload_n 2, 1) := by decide +kernel
theorem dX2_leastFrom_10 : decode cX2_leastFrom 10 = .ok (.invokevirtual 32, 3) := by decide +kernel
theorem dX2_leastFrom_13 : decode cX2_leastFrom 13 = .ok (.iload 4, 2) := by decide +kernel
theorem dX2_leastFrom_15 : decode cX2_leastFrom 15 = .ok (.isub, 1) := by decide +kernel
theorem dX2_leastFrom_16 : decode cX2_leastFrom 16 = .ok (.imul, 1) := by decide +kernel
theorem dX2_leastFrom_17 : decode cX2_leastFrom 17 = .ok (.ireturn, 1) := by decide +kernel
theorem dX2_leastFrom_18 : decode cX2_leastFrom 18 = .ok (.aload_n 2, 1) := by decide +kernel
theorem dX2_leastFrom_19 : decode cX2_leastFrom 19 = .ok (.iload 4, 2) := by decide +kernel
theorem dX2_leastFrom_21 : decode cX2_leastFrom 21 = .ok (.invokevirtual 43, 3) := by decide +kernel
theorem dX2_leastFrom_24 : decode cX2_leastFrom 24 = .ok (.ifCond .ne 12, 3) := by decide +kernel
theorem dX2_leastFrom_27 : decode cX2_leastFrom 27 = .ok (.iconst 2, 1) := by decide +kernel
theorem dX2_leastFrom_28 : decode cX2_leastFrom 28 = .ok (.aload_n 1, 1) := by decide +kernel
theorem dX2_leastFrom_29 : decode cX2_leastFrom 29 = .ok (.invokevirtual 32, 3) := by decide +kernel
theorem dX2_leastFrom_32 : decode cX2_leastFrom 32 = .ok (.iload_n 3, 1) := by decide +kernel
theorem dX2_leastFrom_33 : decode cX2_leastFrom 33 = .ok (.isub, 1) := by decide +kernel
theorem dX2_leastFrom_34 : decode cX2_leastFrom 34 = .ok (.imul, 1) := by decide +kernel
theorem dX2_leastFrom_35 : decode cX2_leastFrom 35 = .ok (.ireturn, 1) := by decide +kernel
theorem dX2_leastFrom_36 : decode cX2_leastFrom 36 = .ok (.iload_n 3, 1) := by decide +kernel
theorem dX2_leastFrom_37 : decode cX2_leastFrom 37 = .ok (.bipush 11, 2) := by decide +kernel
theorem dX2_leastFrom_39 : decode cX2_leastFrom 39 = .ok (.imul, 1) := by decide +kernel
theorem dX2_leastFrom_40 : decode cX2_leastFrom 40 = .ok (.iload 4, 2) := by decide +kernel
theorem dX2_leastFrom_42 : decode cX2_leastFrom 42 = .ok (.iadd, 1) := by decide +kernel
theorem dX2_leastFrom_43 : decode cX2_leastFrom 43 = .ok (.istore 5, 2) := by decide +kernel
theorem dX2_leastFrom_45 : decode cX2_leastFrom 45 = .ok (.iconst 2, 1) := by decide +kernel
theorem dX2_leastFrom_46 : decode cX2_leastFrom 46 = .ok (.aload_n 0, 1) := by decide +kernel
theorem dX2_leastFrom_47 : decode cX2_leastFrom 47 = .ok (.getfield 20, 3) := by decide +kernel
theorem dX2_leastFrom_50 : decode cX2_leastFrom 50 = .ok (.iload 5, 2) := by decide +kernel
theorem dX2_leastFrom_52 : decode cX2_leastFrom 52 = .ok (.bipush 11, 2) := by decide +kernel
theorem dX2_leastFrom_54 : decode cX2_leastFrom 54 = .ok (.iadd, 1) := by decide +kernel
theorem dX2_leastFrom_55 : decode cX2_leastFrom 55 = .ok (.iaload, 1) := by decide +kernel
theorem dX2_leastFrom_56 : decode cX2_leastFrom 56 = .ok (.aload_n 0, 1) := by decide +kernel
theorem dX2_leastFrom_57 : decode cX2_leastFrom 57 = .ok (.getfield 20, 3) := by decide +kernel
theorem dX2_leastFrom_60 : decode cX2_leastFrom 60 = .ok (.iload 5, 2) := by decide +kernel
theorem dX2_leastFrom_62 : decode cX2_leastFrom 62 = .ok (.iconst 1, 1) := by decide +kernel
theorem dX2_leastFrom_63 : decode cX2_leastFrom 63 = .ok (.iadd, 1) := by decide +kernel
theorem dX2_leastFrom_64 : decode cX2_leastFrom 64 = .ok (.iaload, 1) := by decide +kernel
theorem dX2_leastFrom_65 : decode cX2_leastFrom 65 = .ok (.invokestatic 51, 3) := by decide +kernel
theorem dX2_leastFrom_68 : decode cX2_leastFrom 68 = .ok (.iadd, 1) := by decide +kernel
theorem dX2_leastFrom_69 : decode cX2_leastFrom 69 = .ok (.istore 6, 2) := by decide +kernel
theorem dX2_leastFrom_71 : decode cX2_leastFrom 71 = .ok (.aload_n 1, 1) := by decide +kernel
theorem dX2_leastFrom_72 : decode cX2_leastFrom 72 = .ok (.iload_n 3, 1) := by decide +kernel
theorem dX2_leastFrom_73 : decode cX2_leastFrom 73 = .ok (.invokevirtual 56, 3) := by decide +kernel
theorem dX2_leastFrom_76 : decode cX2_leastFrom 76 = .ok (.aload_n 2, 1) := by decide +kernel
theorem dX2_leastFrom_77 : decode cX2_leastFrom 77 = .ok (.iload 4, 2) := by decide +kernel
theorem dX2_leastFrom_79 : decode cX2_leastFrom 79 = .ok (.invokevirtual 56, 3) := by decide +kernel
theorem dX2_leastFrom_82 : decode cX2_leastFrom 82 = .ok (.invokestatic 60, 3) := by decide +kernel
theorem dX2_leastFrom_85 : decode cX2_leastFrom 85 = .ok (.aload_n 0, 1) := by decide +kernel
theorem dX2_leastFrom_86 : decode cX2_leastFrom 86 = .ok (.getfield 20, 3) := by decide +kernel
theorem dX2_leastFrom_89 : decode cX2_leastFrom 89 = .ok (.iload 5, 2) := by decide +kernel
theorem dX2_leastFrom_91 : decode cX2_leastFrom 91 = .ok (.bipush 11, 2) := by decide +kernel
theorem dX2_leastFrom_93 : decode cX2_leastFrom 93 = .ok (.iadd, 1) := by decide +kernel
theorem dX2_leastFrom_94 : decode cX2_leastFrom 94 = .ok (.iconst 1, 1) := by decide +kernel
theorem dX2_leastFrom_95 : decode cX2_leastFrom 95 = .ok (.iadd, 1) := by decide +kernel
theorem dX2_leastFrom_96 : decode cX2_leastFrom 96 = .ok (.iaload, 1) := by decide +kernel
theorem dX2_leastFrom_97 : decode cX2_leastFrom 97 = .ok (.iadd, 1) := by decide +kernel
theorem dX2_leastFrom_98 : decode cX2_leastFrom 98 = .ok (.iload 6, 2) := by decide +kernel
theorem dX2_leastFrom_100 : decode cX2_leastFrom 100 = .ok (.invokestatic 51, 3) := by decide +kernel
theorem dX2_leastFrom_103 : decode cX2_leastFrom 103 = .ok (.ireturn, 1) := by decide +kernel
set_option maxRecDepth 20000 in
theorem ggX2_signAt_X4_has : GoodIn wsX2_signAt wsX4_has := goodIn_r _ [6, 7, 28, 29] (by decide +kernel) (by decide +kernel)
set_option maxRecDepth 20000 in
theorem gX2_signAt_X4_has : GoodIn wsX2_signAt (wsV RX2 43 RX4 yX4_has wsX4_has) := goodIn_app (goodIn_of _ (by decide +kernel)) ggX2_signAt_X4_has
set_option maxRecDepth 20000 in
theorem ggX2_signAt_X4_at : GoodIn wsX2_signAt wsX4_at := goodIn_r _ [11, 7, 12, 28, 29] (by decide +kernel) (by decide +kernel)
set_option maxRecDepth 20000 in
theorem gX2_signAt_X4_at : GoodIn wsX2_signAt (wsV RX2 56 RX4 yX4_at wsX4_at) := goodIn_app (goodIn_of _ (by decide +kernel)) ggX2_signAt_X4_at
set_option maxRecDepth 20000 in
theorem ggX2_signAt_X2_together : GoodIn wsX2_signAt wsX2_together := goodIn_r _ [16, 17, 18, 19, 20, 21, 22, 23] (by decide +kernel) (by decide +kernel)
set_option maxRecDepth 20000 in
theorem gX2_signAt_X2_together : GoodIn wsX2_signAt (va_wsS RX2 60 yX2_together wsX2_together) := goodIn_app (goodIn_of _ (by decide +kernel)) ggX2_signAt_X2_together
theorem dX2_signAt_0 : decode cX2_signAt 0 = .ok (.iload_n 3, 1) := by decide +kernel
theorem dX2_signAt_1 : decode cX2_signAt 1 = .ok (.bipush 11, 2) := by decide +kernel
theorem dX2_signAt_3 : decode cX2_signAt 3 = .ok (.imul, 1) := by decide +kernel
theorem dX2_signAt_4 : decode cX2_signAt 4 = .ok (.iload 4, 2) := by decide +kernel
theorem dX2_signAt_6 : decode cX2_signAt 6 = .ok (.iadd, 1) := by decide +kernel
theorem dX2_signAt_7 : decode cX2_signAt 7 = .ok (.istore 5, 2) := by decide +kernel
theorem dX2_signAt_9 : decode cX2_signAt 9 = .ok (.aload_n 1, 1) := by decide +kernel
theorem dX2_signAt_10 : decode cX2_signAt 10 = .ok (.iload_n 3, 1) := by decide +kernel
theorem dX2_signAt_11 : decode cX2_signAt 11 = .ok (.invokevirtual 43, 3) := by decide +kernel
theorem dX2_signAt_14 : decode cX2_signAt 14 = .ok (.ifCond .eq 71, 3) := by decide +kernel
theorem dX2_signAt_17 : decode cX2_signAt 17 = .ok (.aload_n 2, 1) := by decide +kernel
theorem dX2_signAt_18 : decode cX2_signAt 18 = .ok (.iload 4, 2) := by decide +kernel
theorem dX2_signAt_20 : decode cX2_signAt 20 = .ok (.invokevirtual 43, 3) := by decide +kernel
theorem dX2_signAt_23 : decode cX2_signAt 23 = .ok (.ifCond .eq 62, 3) := by decide +kernel
theorem dX2_signAt_26 : decode cX2_signAt 26 = .ok (.aload_n 0, 1) := by decide +kernel
theorem dX2_signAt_27 : decode cX2_signAt 27 = .ok (.getfield 20, 3) := by decide +kernel
theorem dX2_signAt_30 : decode cX2_signAt 30 = .ok (.iload 5, 2) := by decide +kernel
theorem dX2_signAt_32 : decode cX2_signAt 32 = .ok (.iaload, 1) := by decide +kernel
theorem dX2_signAt_33 : decode cX2_signAt 33 = .ok (.aload_n 1, 1) := by decide +kernel
theorem dX2_signAt_34 : decode cX2_signAt 34 = .ok (.iload_n 3, 1) := by decide +kernel
theorem dX2_signAt_35 : decode cX2_signAt 35 = .ok (.invokevirtual 56, 3) := by decide +kernel
theorem dX2_signAt_38 : decode cX2_signAt 38 = .ok (.aload_n 2, 1) := by decide +kernel
theorem dX2_signAt_39 : decode cX2_signAt 39 = .ok (.iload 4, 2) := by decide +kernel
theorem dX2_signAt_41 : decode cX2_signAt 41 = .ok (.invokevirtual 56, 3) := by decide +kernel
theorem dX2_signAt_44 : decode cX2_signAt 44 = .ok (.invokestatic 60, 3) := by decide +kernel
theorem dX2_signAt_47 : decode cX2_signAt 47 = .ok (.aload_n 0, 1) := by decide +kernel
theorem dX2_signAt_48 : decode cX2_signAt 48 = .ok (.getfield 20, 3) := by decide +kernel
theorem dX2_signAt_51 : decode cX2_signAt 51 = .ok (.iload 5, 2) := by decide +kernel
theorem dX2_signAt_53 : decode cX2_signAt 53 = .ok (.bipush 11, 2) := by decide +kernel
theorem dX2_signAt_55 : decode cX2_signAt 55 = .ok (.iadd, 1) := by decide +kernel
theorem dX2_signAt_56 : decode cX2_signAt 56 = .ok (.iconst 1, 1) := by decide +kernel
theorem dX2_signAt_57 : decode cX2_signAt 57 = .ok (.iadd, 1) := by decide +kernel
theorem dX2_signAt_58 : decode cX2_signAt 58 = .ok (.iaload, 1) := by decide +kernel
theorem dX2_signAt_59 : decode cX2_signAt 59 = .ok (.iadd, 1) := by decide +kernel
theorem dX2_signAt_60 : decode cX2_signAt 60 = .ok (.if_icmp .ne 25, 3) := by decide +kernel
theorem dX2_signAt_63 : decode cX2_signAt 63 = .ok (.aload_n 1, 1) := by decide +kernel
theorem dX2_signAt_64 : decode cX2_signAt 64 = .ok (.iload_n 3, 1) := by decide +kernel
theorem dX2_signAt_65 : decode cX2_signAt 65 = .ok (.invokevirtual 56, 3) := by decide +kernel
theorem dX2_signAt_68 : decode cX2_signAt 68 = .ok (.aload_n 2, 1) := by decide +kernel
theorem dX2_signAt_69 : decode cX2_signAt 69 = .ok (.iload 4, 2) := by decide +kernel
theorem dX2_signAt_71 : decode cX2_signAt 71 = .ok (.invokevirtual 56, 3) := by decide +kernel
theorem dX2_signAt_74 : decode cX2_signAt 74 = .ok (.if_icmp .ne 8, 3) := by decide +kernel
theorem dX2_signAt_77 : decode cX2_signAt 77 = .ok (.bipush 61, 2) := by decide +kernel
theorem dX2_signAt_79 : decode cX2_signAt 79 = .ok (.goto 5, 3) := by decide +kernel
theorem dX2_signAt_82 : decode cX2_signAt 82 = .ok (.bipush 126, 2) := by decide +kernel
theorem dX2_signAt_84 : decode cX2_signAt 84 = .ok (.ireturn, 1) := by decide +kernel
theorem dX2_signAt_85 : decode cX2_signAt 85 = .ok (.aload_n 1, 1) := by decide +kernel
theorem dX2_signAt_86 : decode cX2_signAt 86 = .ok (.iload_n 3, 1) := by decide +kernel
theorem dX2_signAt_87 : decode cX2_signAt 87 = .ok (.invokevirtual 43, 3) := by decide +kernel
theorem dX2_signAt_90 : decode cX2_signAt 90 = .ok (.ifCond .eq 30, 3) := by decide +kernel
theorem dX2_signAt_93 : decode cX2_signAt 93 = .ok (.aload_n 0, 1) := by decide +kernel
theorem dX2_signAt_94 : decode cX2_signAt 94 = .ok (.getfield 20, 3) := by decide +kernel
theorem dX2_signAt_97 : decode cX2_signAt 97 = .ok (.iload 5, 2) := by decide +kernel
theorem dX2_signAt_99 : decode cX2_signAt 99 = .ok (.iaload, 1) := by decide +kernel
theorem dX2_signAt_100 : decode cX2_signAt 100 = .ok (.iconst 2, 1) := by decide +kernel
theorem dX2_signAt_101 : decode cX2_signAt 101 = .ok (.aload_n 0, 1) := by decide +kernel
theorem dX2_signAt_102 : decode cX2_signAt 102 = .ok (.getfield 20, 3) := by decide +kernel
theorem dX2_signAt_105 : decode cX2_signAt 105 = .ok (.iload 5, 2) := by decide +kernel
theorem dX2_signAt_107 : decode cX2_signAt 107 = .ok (.bipush 11, 2) := by decide +kernel
theorem dX2_signAt_109 : decode cX2_signAt 109 = .ok (.iadd, 1) := by decide +kernel
theorem dX2_signAt_110 : decode cX2_signAt 110 = .ok (.iaload, 1) := by decide +kernel
theorem dX2_signAt_111 : decode cX2_signAt 111 = .ok (.iadd, 1) := by decide +kernel
theorem dX2_signAt_112 : decode cX2_signAt 112 = .ok (.if_icmp .ne 8, 3) := by decide +kernel
theorem dX2_signAt_115 : decode cX2_signAt 115 = .ok (.bipush 49, 2) := by decide +kernel
theorem dX2_signAt_117 : decode cX2_signAt 117 = .ok (.goto 5, 3) := by decide +kernel
theorem dX2_signAt_120 : decode cX2_signAt 120 = .ok (.bipush 50, 2) := by decide +kernel
theorem dX2_signAt_122 : decode cX2_signAt 122 = .ok (.ireturn, 1) := by decide +kernel
theorem dX2_together_0 : decode cX2_together 0 = .ok (.iload_n 0, 1) := by decide +kernel
theorem dX2_together_1 : decode cX2_together 1 = .ok (.iload_n 1, 1) := by decide +kernel
theorem dX2_together_2 : decode cX2_together 2 = .ok (.isub, 1) := by decide +kernel
theorem dX2_together_3 : decode cX2_together 3 = .ok (.invokestatic 63, 3) := by decide +kernel
theorem dX2_together_6 : decode cX2_together 6 = .ok (.iconst 4, 1) := by decide +kernel
theorem dX2_together_7 : decode cX2_together 7 = .ok (.invokestatic 51, 3) := by decide +kernel
theorem dX2_together_10 : decode cX2_together 10 = .ok (.ireturn, 1) := by decide +kernel
theorem dX3_init_0 : decode cX3_init 0 = .ok (.aload_n 0, 1) := by decide +kernel
theorem dX3_init_1 : decode cX3_init 1 = .ok (.invokespecial 3, 3) := by decide +kernel
theorem dX3_init_4 : decode cX3_init 4 = .ok (.aload_n 0, 1) := by decide +kernel
theorem dX3_init_5 : decode cX3_init 5 = .ok (.sipush 300, 3) := by decide +kernel
theorem dX3_init_8 : decode cX3_init 8 = .ok (.newarray .int, 2) := by decide +kernel
theorem dX3_init_10 : decode cX3_init 10 = .ok (.putfield 11, 3) := by decide +kernel
theorem dX3_init_13 : decode cX3_init 13 = .ok (.aload_n 0, 1) := by decide +kernel
theorem dX3_init_14 : decode cX3_init 14 = .ok (.bipush 60, 2) := by decide +kernel
theorem dX3_init_16 : decode cX3_init 16 = .ok (.newarray .int, 2) := by decide +kernel
theorem dX3_init_18 : decode cX3_init 18 = .ok (.putfield 15, 3) := by decide +kernel
theorem dX3_init_21 : decode cX3_init 21 = .ok (.aload_n 0, 1) := by decide +kernel
theorem dX3_init_22 : decode cX3_init 22 = .ok (.bipush 60, 2) := by decide +kernel
theorem dX3_init_24 : decode cX3_init 24 = .ok (.newarray .int, 2) := by decide +kernel
theorem dX3_init_26 : decode cX3_init 26 = .ok (.putfield 18, 3) := by decide +kernel
theorem dX3_init_29 : decode cX3_init 29 = .ok (.aload_n 0, 1) := by decide +kernel
theorem dX3_init_30 : decode cX3_init 30 = .ok (.bipush 60, 2) := by decide +kernel
theorem dX3_init_32 : decode cX3_init 32 = .ok (.newarray .int, 2) := by decide +kernel
theorem dX3_init_34 : decode cX3_init 34 = .ok (.putfield 21, 3) := by decide +kernel
theorem dX3_init_37 : decode cX3_init 37 = .ok (.aload_n 0, 1) := by decide +kernel
theorem dX3_init_38 : decode cX3_init 38 = .ok (.bipush 60, 2) := by decide +kernel
theorem dX3_init_40 : decode cX3_init 40 = .ok (.newarray .int, 2) := by decide +kernel
theorem dX3_init_42 : decode cX3_init 42 = .ok (.putfield 24, 3) := by decide +kernel
theorem dX3_init_45 : decode cX3_init 45 = .ok (.aload_n 0, 1) := by decide +kernel
theorem dX3_init_46 : decode cX3_init 46 = .ok (.bipush 60, 2) := by decide +kernel
theorem dX3_init_48 : decode cX3_init 48 = .ok (.newarray .int, 2) := by decide +kernel
theorem dX3_init_50 : decode cX3_init 50 = .ok (.putfield 27, 3) := by decide +kernel
theorem dX3_init_53 : decode cX3_init 53 = .ok (.aload_n 0, 1) := by decide +kernel
theorem dX3_init_54 : decode cX3_init 54 = .ok (.iconst 0, 1) := by decide +kernel
theorem dX3_init_55 : decode cX3_init 55 = .ok (.putfield 30, 3) := by decide +kernel
theorem dX3_init_58 : decode cX3_init 58 = .ok (.aload_n 0, 1) := by decide +kernel
theorem dX3_init_59 : decode cX3_init 59 = .ok (.iconst 0, 1) := by decide +kernel
theorem dX3_init_60 : decode cX3_init 60 = .ok (.putfield 34, 3) := by decide +kernel
theorem dX3_init_63 : decode cX3_init 63 = .ok (.aload_n 0, 1) := by decide +kernel
theorem dX3_init_64 : decode cX3_init 64 = .ok (.iconst 0, 1) := by decide +kernel
theorem dX3_init_65 : decode cX3_init 65 = .ok (.putfield 37, 3) := by decide +kernel
theorem dX3_init_68 : decode cX3_init 68 = .ok (.return_, 1) := by decide +kernel
theorem dX3_forget_0 : decode cX3_forget 0 = .ok (.aload_n 0, 1) := by decide +kernel
theorem dX3_forget_1 : decode cX3_forget 1 = .ok (.iconst 0, 1) := by decide +kernel
theorem dX3_forget_2 : decode cX3_forget 2 = .ok (.putfield 37, 3) := by decide +kernel
theorem dX3_forget_5 : decode cX3_forget 5 = .ok (.return_, 1) := by decide +kernel
end
section
set_option maxRecDepth 20000 in
theorem ggX3_find_X3_leastCost : GoodIn wsX3_find wsX3_leastCost := goodIn_r _ [11, 12, 13, 14, 15, 16, 17, 18, 19, 20, 21, 22, 23, 24, 25, 26, 10, 27, 28, 29, 30, 31, 32, 33, 34, 55, 56, 57, 58, 59, 60, 61, 62, 63, 64, 65] (by decide +kernel) (by decide +kernel)
set_option maxRecDepth 20000 in
theorem gX3_find_X3_leastCost : GoodIn wsX3_find (wsV RX3 41 RX3 yX3_leastCost wsX3_leastCost) := goodIn_app (goodIn_of _ (by decide +kernel)) ggX3_find_X3_leastCost
set_option maxRecDepth 20000 in
theorem ggX3_find_X3_tracePath : GoodIn wsX3_find wsX3_tracePath := goodIn_r _ [38, 39, 13, 14, 15, 16, 17, 18, 31, 32, 33, 10, 34, 12, 19, 20, 21, 22, 23, 24, 25, 26, 27, 28, 29, 30, 55, 56, 57, 58, 59, 60, 61, 62, 63, 64, 65] (by decide +kernel) (by decide +kernel)
set_option maxRecDepth 20000 in
theorem gX3_find_X3_tracePath : GoodIn wsX3_find (wsV RX3 45 RX3 yX3_tracePath wsX3_tracePath) := goodIn_app (goodIn_of _ (by decide +kernel)) ggX3_find_X3_tracePath
set_option maxRecDepth 20000 in
theorem ggX3_find_X4_many : GoodIn wsX3_find wsX4_many := goodIn_r _ [17, 18, 64, 65] (by decide +kernel) (by decide +kernel)
set_option maxRecDepth 20000 in
theorem gX3_find_X4_many : GoodIn wsX3_find (wsV RX3 49 RX4 yX4_many wsX4_many) := goodIn_app (goodIn_of _ (by decide +kernel)) ggX3_find_X4_many
set_option maxRecDepth 20000 in
theorem ggX3_find_X3_gatherFrames : GoodIn wsX3_find wsX3_gatherFrames := goodIn_r _ [43, 3, 5, 44, 6, 45, 46, 47, 10, 48, 39, 55, 56, 57, 58, 59, 60, 61, 62, 63] (by decide +kernel) (by decide +kernel)
set_option maxRecDepth 20000 in
theorem gX3_find_X3_gatherFrames : GoodIn wsX3_find (wsV RX3 55 RX3 yX3_gatherFrames wsX3_gatherFrames) := goodIn_app (goodIn_of _ (by decide +kernel)) ggX3_find_X3_gatherFrames
set_option maxRecDepth 20000 in
theorem ggX3_find_X3_commonLook : GoodIn wsX3_find wsX3_commonLook := goodIn_r _ [51, 19, 20, 21, 16, 22, 18, 23, 52, 53, 10, 54, 64, 65] (by decide +kernel) (by decide +kernel)
set_option maxRecDepth 20000 in
theorem gX3_find_X3_commonLook : GoodIn wsX3_find (va_wsS RX3 59 yX3_commonLook wsX3_commonLook) := goodIn_app (goodIn_of _ (by decide +kernel)) ggX3_find_X3_commonLook
theorem dX3_find_0 : decode cX3_find 0 = .ok (.aload_n 0, 1) := by decide +kernel
theorem dX3_find_1 : decode cX3_find 1 = .ok (.getfield 37, 3) := by decide +kernel
theorem dX3_find_4 : decode cX3_find 4 = .ok (.ifCond .eq 4, 3) := by decide +kernel
theorem dX3_find_7 : decode cX3_find 7 = .ok (.return_, 1) := by decide +kernel
theorem dX3_find_8 : decode cX3_find 8 = .ok (.aload_n 0, 1) := by decide +kernel
theorem dX3_find_9 : decode cX3_find 9 = .ok (.aload_n 0, 1) := by decide +kernel
theorem dX3_find_10 : decode cX3_find 10 = .ok (.aload_n 1, 1) := by decide +kernel
theorem dX3_find_11 : decode cX3_find 11 = .ok (.iload_n 2, 1) := by decide +kernel
theorem dX3_find_12 : decode cX3_find 12 = .ok (.invokevirtual 41, 3) := by decide +kernel
theorem dX3_find_15 : decode cX3_find 15 = .ok (.putfield 30, 3) := by decide +kernel
theorem dX3_find_18 : decode cX3_find 18 = .ok (.aload_n 0, 1) := by decide +kernel
theorem dX3_find_19 : decode cX3_find 19 = .ok (.aload_n 1, 1) := by decide +kernel
theorem dX3_find_20 : decode cX3_find 20 = .ok (.iload_n 2, 1) := by decide +kernel
theorem dX3_find_21 : decode cX3_find 21 = .ok (.invokevirtual 45, 3) := by decide +kernel
theorem dX3_find_24 : decode cX3_find 24 = .ok (.aload_n 0, 1) := by decide +kernel
theorem dX3_find_25 : decode cX3_find 25 = .ok (.aload_n 1, 1) := by decide +kernel
theorem dX3_find_26 : decode cX3_find 26 = .ok (.invokevirtual 49, 3) := by decide +kernel
theorem dX3_find_29 : decode cX3_find 29 = .ok (.invokevirtual 55, 3) := by decide +kernel
theorem dX3_find_32 : decode cX3_find 32 = .ok (.iconst 0, 1) := by decide +kernel
theorem dX3_find_33 : decode cX3_find 33 = .ok (.istore_n 3, 1) := by decide +kernel
theorem dX3_find_34 : decode cX3_find 34 = .ok (.iload_n 3, 1) := by decide +kernel
theorem dX3_find_35 : decode cX3_find 35 = .ok (.aload_n 0, 1) := by decide +kernel
theorem dX3_find_36 : decode cX3_find 36 = .ok (.getfield 34, 3) := by decide +kernel
theorem dX3_find_39 : decode cX3_find 39 = .ok (.if_icmp .ge 31, 3) := by decide +kernel
theorem dX3_find_42 : decode cX3_find 42 = .ok (.aload_n 0, 1) := by decide +kernel
theorem dX3_find_43 : decode cX3_find 43 = .ok (.getfield 27, 3) := by decide +kernel
theorem dX3_find_46 : decode cX3_find 46 = .ok (.iload_n 3, 1) := by decide +kernel
theorem dX3_find_47 : decode cX3_find 47 = .ok (.aload_n 1, 1) := by decide +kernel
theorem dX3_find_48 : decode cX3_find 48 = .ok (.aload_n 0, 1) := by decide +kernel
theorem dX3_find_49 : decode cX3_find 49 = .ok (.getfield 21, 3) := by decide +kernel
theorem dX3_find_52 : decode cX3_find 52 = .ok (.iload_n 3, 1) := by decide +kernel
theorem dX3_find_53 : decode cX3_find 53 = .ok (.iaload, 1) := by decide +kernel
theorem dX3_find_54 : decode cX3_find 54 = .ok (.aload_n 0, 1) := by decide +kernel
theorem dX3_find_55 : decode cX3_find 55 = .ok (.getfield 24, 3) := by decide +kernel
theorem dX3_find_58 : decode cX3_find 58 = .ok (.iload_n 3, 1) := by decide +kernel
theorem dX3_find_59 : decode cX3_find 59 = .ok (.iaload, 1) := by decide +kernel
theorem dX3_find_60 : decode cX3_find 60 = .ok (.invokestatic 59, 3) := by decide +kernel
theorem dX3_find_63 : decode cX3_find 63 = .ok (.iastore, 1) := by decide +kernel
theorem dX3_find_64 : decode cX3_find 64 = .ok (.iinc 3 1, 3) := by decide +kernel
theorem dX3_find_67 : decode cX3_find 67 = .ok (.goto (-33), 3) := by decide +kernel
theorem dX3_find_70 : decode cX3_find 70 = .ok (.aload_n 0, 1) := by decide +kernel
theorem dX3_find_71 : decode cX3_find 71 = .ok (.iconst 1, 1) := by decide +kernel
theorem dX3_find_72 : decode cX3_find 72 = .ok (.putfield 37, 3) := by decide +kernel
theorem dX3_find_75 : decode cX3_find 75 = .ok (.return_, 1) := by decide +kernel
set_option maxRecDepth 20000 in
theorem ggX3_leastCost_X4_many : GoodIn wsX3_leastCost wsX4_many := goodIn_r _ [6, 7, 34, 35] (by decide +kernel) (by decide +kernel)
set_option maxRecDepth 20000 in
theorem gX3_leastCost_X4_many : GoodIn wsX3_leastCost (wsV RX3 49 RX4 yX4_many wsX4_many) := goodIn_app (goodIn_of _ (by decide +kernel)) ggX3_leastCost_X4_many
set_option maxRecDepth 20000 in
theorem ggX3_leastCost_X4_at : GoodIn wsX3_leastCost wsX4_at := goodIn_r _ [11, 7, 12, 34, 35] (by decide +kernel) (by decide +kernel)
set_option maxRecDepth 20000 in
theorem gX3_leastCost_X4_at : GoodIn wsX3_leastCost (wsV RX3 63 RX4 yX4_at wsX4_at) := goodIn_app (goodIn_of _ (by decide +kernel)) ggX3_leastCost_X4_at
set_option maxRecDepth 20000 in
theorem ggX3_leastCost_X3_bestNext : GoodIn wsX3_leastCost wsX3_bestNext := goodIn_r _ [17, 1, 18, 19, 16, 20, 25, 26, 27, 28, 29, 30, 31, 32, 33] (by decide +kernel) (by decide +kernel)
set_option maxRecDepth 20000 in
theorem gX3_leastCost_X3_bestNext : GoodIn wsX3_leastCost (wsV RX3 67 RX3 yX3_bestNext wsX3_bestNext) := goodIn_app (goodIn_of _ (by decide +kernel)) ggX3_leastCost_X3_bestNext
set_option maxRecDepth 20000 in
theorem ggX3_leastCost_X3_step : GoodIn wsX3_leastCost wsX3_step := goodIn_r _ [20] (by decide +kernel) (by decide +kernel)
set_option maxRecDepth 20000 in
theorem gX3_leastCost_X3_step : GoodIn wsX3_leastCost (va_wsS RX3 71 yX3_step wsX3_step) := goodIn_app (goodIn_of _ (by decide +kernel)) ggX3_leastCost_X3_step
set_option maxRecDepth 20000 in
theorem ggX3_leastCost_X3_bestFirst : GoodIn wsX3_leastCost wsX3_bestFirst := goodIn_r _ [24, 1, 25, 26, 27, 28, 29, 30, 31, 32, 33] (by decide +kernel) (by decide +kernel)
set_option maxRecDepth 20000 in
theorem gX3_leastCost_X3_bestFirst : GoodIn wsX3_leastCost (wsV RX3 74 RX3 yX3_bestFirst wsX3_bestFirst) := goodIn_app (goodIn_of _ (by decide +kernel)) ggX3_leastCost_X3_bestFirst
theorem dX3_leastCost_0 : decode cX3_leastCost 0 = .ok (.aload_n 1, 1) := by decide +kernel
theorem dX3_leastCost_1 : decode cX3_leastCost 1 = .ok (.invokevirtual 49, 3) := by decide +kernel
theorem dX3_leastCost_4 : decode cX3_leastCost 4 = .ok (.iconst 1, 1) := by decide +kernel
theorem dX3_leastCost_5 : decode cX3_leastCost 5 = .ok (.isub, 1) := by decide +kernel
theorem dX3_leastCost_6 : decode cX3_leastCost 6 = .ok (.istore_n 3, 1) := by decide +kernel
theorem dX3_leastCost_7 : decode cX3_leastCost 7 = .ok (.iload_n 3, 1) := by decide +kernel
theorem dX3_leastCost_8 : decode cX3_leastCost 8 = .ok (.ifCond .ge 5, 3) := by decide +kernel
theorem dX3_leastCost_11 : decode cX3_leastCost 11 = .ok (.iconst 0, 1) := by decide +kernel
theorem dX3_leastCost_12 : decode cX3_leastCost 12 = .ok (.ireturn, 1) := by decide +kernel
theorem dX3_leastCost_13 : decode cX3_leastCost 13 = .ok (.iconst 0, 1) := by decide +kernel
theorem dX3_leastCost_14 : decode cX3_leastCost 14 = .ok (.istore 4, 2) := by decide +kernel
theorem dX3_leastCost_16 : decode cX3_leastCost 16 = .ok (.iload 4, 2) := by decide +kernel
theorem dX3_leastCost_18 : decode cX3_leastCost 18 = .ok (.iconst 5, 1) := by decide +kernel
theorem dX3_leastCost_19 : decode cX3_leastCost 19 = .ok (.if_icmp .ge 21, 3) := by decide +kernel
theorem dX3_leastCost_22 : decode cX3_leastCost 22 = .ok (.aload_n 0, 1) := by decide +kernel
theorem dX3_leastCost_23 : decode cX3_leastCost 23 = .ok (.getfield 11, 3) := by decide +kernel
theorem dX3_leastCost_26 : decode cX3_leastCost 26 = .ok (.iload_n 3, 1) := by decide +kernel
theorem dX3_leastCost_27 : decode cX3_leastCost 27 = .ok (.iconst 5, 1) := by decide +kernel
theorem dX3_leastCost_28 : decode cX3_leastCost 28 = .ok (.imul, 1) := by decide +kernel
theorem dX3_leastCost_29 : decode cX3_leastCost 29 = .ok (.iload 4, 2) := by decide +kernel
theorem dX3_leastCost_31 : decode cX3_leastCost 31 = .ok (.iadd, 1) := by decide +kernel
theorem dX3_leastCost_32 : decode cX3_leastCost 32 = .ok (.iconst 0, 1) := by decide +kernel
theorem dX3_leastCost_33 : decode cX3_leastCost 33 = .ok (.iastore, 1) := by decide +kernel
theorem dX3_leastCost_34 : decode cX3_leastCost 34 = .ok (.iinc 4 1, 3) := by decide +kernel
theorem dX3_leastCost_37 : decode cX3_leastCost 37 = .ok (.goto (-21), 3) := by decide +kernel
theorem dX3_leastCost_40 : decode cX3_leastCost 40 = .ok (.iload_n 3, 1) := by decide +kernel
theorem dX3_leastCost_41 : decode cX3_leastCost 41 = .ok (.iconst 1, 1) := by decide +kernel
theorem dX3_leastCost_42 : decode cX3_leastCost 42 = .ok (.isub, 1) := by decide +kernel
theorem dX3_leastCost_43 : decode cX3_leastCost 43 = .ok (.istore 4, 2) := by decide +kernel
theorem dX3_leastCost_45 : decode cX3_leastCost 45 = .ok (.iload 4, 2) := by decide +kernel
theorem dX3_leastCost_47 : decode cX3_leastCost 47 = .ok (.ifCond .lt 98, 3) := by decide +kernel
theorem dX3_leastCost_50 : decode cX3_leastCost 50 = .ok (.aload_n 1, 1) := by decide +kernel
theorem dX3_leastCost_51 : decode cX3_leastCost 51 = .ok (.iload 4, 2) := by decide +kernel
theorem dX3_leastCost_53 : decode cX3_leastCost 53 = .ok (.invokevirtual 63, 3) := by decide +kernel
theorem dX3_leastCost_56 : decode cX3_leastCost 56 = .ok (.aload_n 1, 1) := by decide +kernel
theorem dX3_leastCost_57 : decode cX3_leastCost 57 = .ok (.iload 4, 2) := by decide +kernel
theorem dX3_leastCost_59 : decode cX3_leastCost 59 = .ok (.iconst 1, 1) := by decide +kernel
theorem dX3_leastCost_60 : decode cX3_leastCost 60 = .ok (.iadd, 1) := by decide +kernel
theorem dX3_leastCost_61 : decode cX3_leastCost 61 = .ok (.invokevirtual 63, 3) := by decide +kernel
theorem dX3_leastCost_64 : decode cX3_leastCost 64 = .ok (.if_icmp .ne 7, 3) := by decide +kernel
theorem dX3_leastCost_67 : decode cX3_leastCost 67 = .ok (.iconst 1, 1) := by decide +kernel
theorem dX3_leastCost_68 : decode cX3_leastCost 68 = .ok (.goto 4, 3) := by decide +kernel
theorem dX3_leastCost_71 : decode cX3_leastCost 71 = .ok (.iconst 0, 1) := by decide +kernel
theorem dX3_leastCost_72 : decode cX3_leastCost 72 = .ok (.istore 5, 2) := by decide +kernel
theorem dX3_leastCost_74 : decode cX3_leastCost 74 = .ok (.iconst 0, 1) := by decide +kernel
theorem dX3_leastCost_75 : decode cX3_leastCost 75 = .ok (.istore 6, 2) := by decide +kernel
theorem dX3_leastCost_77 : decode cX3_leastCost 77 = .ok (.iload 6, 2) := by decide +kernel
theorem dX3_leastCost_79 : decode cX3_leastCost 79 = .ok (.iconst 5, 1) := by decide +kernel
theorem dX3_leastCost_80 : decode cX3_leastCost 80 = .ok (.if_icmp .ge 59, 3) := by decide +kernel
theorem dX3_leastCost_83 : decode cX3_leastCost 83 = .ok (.aload_n 0, 1) := by decide +kernel
theorem dX3_leastCost_84 : decode cX3_leastCost 84 = .ok (.iload 4, 2) := by decide +kernel
theorem dX3_leastCost_86 : decode cX3_leastCost 86 = .ok (.iload 6, 2) := by decide +kernel
theorem dX3_leastCost_88 : decode cX3_leastCost 88 = .ok (.iload 5, 2) := by decide +kernel
theorem dX3_leastCost_90 : decode cX3_leastCost 90 = .ok (.iload_n 2, 1) := by decide +kernel
theorem dX3_leastCost_91 : decode cX3_leastCost 91 = .ok (.invokevirtual 67, 3) := by decide +kernel
theorem dX3_leastCost_94 : decode cX3_leastCost 94 = .ok (.istore 7, 2) := by decide +kernel
theorem dX3_leastCost_96 : decode cX3_leastCost 96 = .ok (.aload_n 0, 1) := by decide +kernel
theorem dX3_leastCost_97 : decode cX3_leastCost 97 = .ok (.getfield 11, 3) := by decide +kernel
theorem dX3_leastCost_100 : decode cX3_leastCost 100 = .ok (.iload 4, 2) := by decide +kernel
theorem dX3_leastCost_102 : decode cX3_leastCost 102 = .ok (.iconst 5, 1) := by decide +kernel
theorem dX3_leastCost_103 : decode cX3_leastCost 103 = .ok (.imul, 1) := by decide +kernel
theorem dX3_leastCost_104 : decode cX3_leastCost 104 = .ok (.iload 6, 2) := by decide +kernel
theorem dX3_leastCost_106 : decode cX3_leastCost 106 = .ok (.iadd, 1) := by decide +kernel
theorem dX3_leastCost_107 : decode cX3_leastCost 107 = .ok (.iload 6, 2) := by decide +kernel
theorem dX3_leastCost_109 : decode cX3_leastCost 109 = .ok (.iload 7, 2) := by decide +kernel
theorem dX3_leastCost_111 : decode cX3_leastCost 111 = .ok (.iload 5, 2) := by decide +kernel
theorem dX3_leastCost_113 : decode cX3_leastCost 113 = .ok (.iload_n 2, 1) := by decide +kernel
theorem dX3_leastCost_114 : decode cX3_leastCost 114 = .ok (.invokestatic 71, 3) := by decide +kernel
theorem dX3_leastCost_117 : decode cX3_leastCost 117 = .ok (.aload_n 0, 1) := by decide +kernel
theorem dX3_leastCost_118 : decode cX3_leastCost 118 = .ok (.getfield 11, 3) := by decide +kernel
theorem dX3_leastCost_121 : decode cX3_leastCost 121 = .ok (.iload 4, 2) := by decide +kernel
theorem dX3_leastCost_123 : decode cX3_leastCost 123 = .ok (.iconst 1, 1) := by decide +kernel
theorem dX3_leastCost_124 : decode cX3_leastCost 124 = .ok (.iadd, 1) := by decide +kernel
theorem dX3_leastCost_125 : decode cX3_leastCost 125 = .ok (.iconst 5, 1) := by decide +kernel
theorem dX3_leastCost_126 : decode cX3_leastCost 126 = .ok (.imul, 1) := by decide +kernel
theorem dX3_leastCost_127 : decode cX3_leastCost 127 = .ok (.iload 7, 2) := by decide +kernel
theorem dX3_leastCost_129 : decode cX3_leastCost 129 = .ok (.iadd, 1) := by decide +kernel
theorem dX3_leastCost_130 : decode cX3_leastCost 130 = .ok (.iaload, 1) := by decide +kernel
theorem dX3_leastCost_131 : decode cX3_leastCost 131 = .ok (.iadd, 1) := by decide +kernel
theorem dX3_leastCost_132 : decode cX3_leastCost 132 = .ok (.iastore, 1) := by decide +kernel
theorem dX3_leastCost_133 : decode cX3_leastCost 133 = .ok (.iinc 6 1, 3) := by decide +kernel
theorem dX3_leastCost_136 : decode cX3_leastCost 136 = .ok (.goto (-59), 3) := by decide +kernel
theorem dX3_leastCost_139 : decode cX3_leastCost 139 = .ok (.iinc 4 (-1), 3) := by decide +kernel
theorem dX3_leastCost_142 : decode cX3_leastCost 142 = .ok (.goto (-97), 3) := by decide +kernel
theorem dX3_leastCost_145 : decode cX3_leastCost 145 = .ok (.aload_n 0, 1) := by decide +kernel
theorem dX3_leastCost_146 : decode cX3_leastCost 146 = .ok (.getfield 11, 3) := by decide +kernel
theorem dX3_leastCost_149 : decode cX3_leastCost 149 = .ok (.aload_n 0, 1) := by decide +kernel
theorem dX3_leastCost_150 : decode cX3_leastCost 150 = .ok (.invokevirtual 74, 3) := by decide +kernel
theorem dX3_leastCost_153 : decode cX3_leastCost 153 = .ok (.iaload, 1) := by decide +kernel
theorem dX3_leastCost_154 : decode cX3_leastCost 154 = .ok (.ireturn, 1) := by decide +kernel
set_option maxRecDepth 20000 in
theorem ggX3_tracePath_X4_many : GoodIn wsX3_tracePath wsX4_many := goodIn_r _ [6, 7, 35, 36] (by decide +kernel) (by decide +kernel)
set_option maxRecDepth 20000 in
theorem gX3_tracePath_X4_many : GoodIn wsX3_tracePath (wsV RX3 49 RX4 yX4_many wsX4_many) := goodIn_app (goodIn_of _ (by decide +kernel)) ggX3_tracePath_X4_many
set_option maxRecDepth 20000 in
theorem ggX3_tracePath_X3_bestFirst : GoodIn wsX3_tracePath wsX3_bestFirst := goodIn_r _ [12, 13, 26, 27, 28, 29, 30, 31, 32, 33, 34] (by decide +kernel) (by decide +kernel)
set_option maxRecDepth 20000 in
theorem gX3_tracePath_X3_bestFirst : GoodIn wsX3_tracePath (wsV RX3 74 RX3 yX3_bestFirst wsX3_bestFirst) := goodIn_app (goodIn_of _ (by decide +kernel)) ggX3_tracePath_X3_bestFirst
set_option maxRecDepth 20000 in
theorem ggX3_tracePath_X4_at : GoodIn wsX3_tracePath wsX4_at := goodIn_r _ [17, 7, 18, 35, 36] (by decide +kernel) (by decide +kernel)
set_option maxRecDepth 20000 in
theorem gX3_tracePath_X4_at : GoodIn wsX3_tracePath (wsV RX3 63 RX4 yX4_at wsX4_at) := goodIn_app (goodIn_of _ (by decide +kernel)) ggX3_tracePath_X4_at
set_option maxRecDepth 20000 in
theorem ggX3_tracePath_X3_bestNext : GoodIn wsX3_tracePath wsX3_bestNext := goodIn_r _ [22, 13, 23, 24, 11, 25, 26, 27, 28, 29, 30, 31, 32, 33, 34] (by decide +kernel) (by decide +kernel)
set_option maxRecDepth 20000 in
theorem gX3_tracePath_X3_bestNext : GoodIn wsX3_tracePath (wsV RX3 67 RX3 yX3_bestNext wsX3_bestNext) := goodIn_app (goodIn_of _ (by decide +kernel)) ggX3_tracePath_X3_bestNext
theorem dX3_tracePath_0 : decode cX3_tracePath 0 = .ok (.iconst 0, 1) := by decide +kernel
theorem dX3_tracePath_1 : decode cX3_tracePath 1 = .ok (.istore_n 3, 1) := by decide +kernel
theorem dX3_tracePath_2 : decode cX3_tracePath 2 = .ok (.iload_n 3, 1) := by decide +kernel
theorem dX3_tracePath_3 : decode cX3_tracePath 3 = .ok (.aload_n 1, 1) := by decide +kernel
theorem dX3_tracePath_4 : decode cX3_tracePath 4 = .ok (.invokevirtual 49, 3) := by decide +kernel
theorem dX3_tracePath_7 : decode cX3_tracePath 7 = .ok (.if_icmp .ge 72, 3) := by decide +kernel
theorem dX3_tracePath_10 : decode cX3_tracePath 10 = .ok (.iload_n 3, 1) := by decide +kernel
theorem dX3_tracePath_11 : decode cX3_tracePath 11 = .ok (.ifCond .ne 16, 3) := by decide +kernel
theorem dX3_tracePath_14 : decode cX3_tracePath 14 = .ok (.aload_n 0, 1) := by decide +kernel
theorem dX3_tracePath_15 : decode cX3_tracePath 15 = .ok (.getfield 15, 3) := by decide +kernel
theorem dX3_tracePath_18 : decode cX3_tracePath 18 = .ok (.iload_n 3, 1) := by decide +kernel
theorem dX3_tracePath_19 : decode cX3_tracePath 19 = .ok (.aload_n 0, 1) := by decide +kernel
theorem dX3_tracePath_20 : decode cX3_tracePath 20 = .ok (.invokevirtual 74, 3) := by decide +kernel
theorem dX3_tracePath_23 : decode cX3_tracePath 23 = .ok (.iastore, 1) := by decide +kernel
theorem dX3_tracePath_24 : decode cX3_tracePath 24 = .ok (.goto 49, 3) := by decide +kernel
theorem dX3_tracePath_27 : decode cX3_tracePath 27 = .ok (.aload_n 1, 1) := by decide +kernel
theorem dX3_tracePath_28 : decode cX3_tracePath 28 = .ok (.iload_n 3, 1) := by decide +kernel
theorem dX3_tracePath_29 : decode cX3_tracePath 29 = .ok (.iconst 1, 1) := by decide +kernel
theorem dX3_tracePath_30 : decode cX3_tracePath 30 = .ok (.isub, 1) := by decide +kernel
theorem dX3_tracePath_31 : decode cX3_tracePath 31 = .ok (.invokevirtual 63, 3) := by decide +kernel
theorem dX3_tracePath_34 : decode cX3_tracePath 34 = .ok (.aload_n 1, 1) := by decide +kernel
theorem dX3_tracePath_35 : decode cX3_tracePath 35 = .ok (.iload_n 3, 1) := by decide +kernel
theorem dX3_tracePath_36 : decode cX3_tracePath 36 = .ok (.invokevirtual 63, 3) := by decide +kernel
theorem dX3_tracePath_39 : decode cX3_tracePath 39 = .ok (.if_icmp .ne 7, 3) := by decide +kernel
theorem dX3_tracePath_42 : decode cX3_tracePath 42 = .ok (.iconst 1, 1) := by decide +kernel
theorem dX3_tracePath_43 : decode cX3_tracePath 43 = .ok (.goto 4, 3) := by decide +kernel
theorem dX3_tracePath_46 : decode cX3_tracePath 46 = .ok (.iconst 0, 1) := by decide +kernel
theorem dX3_tracePath_47 : decode cX3_tracePath 47 = .ok (.istore 4, 2) := by decide +kernel
theorem dX3_tracePath_49 : decode cX3_tracePath 49 = .ok (.aload_n 0, 1) := by decide +kernel
theorem dX3_tracePath_50 : decode cX3_tracePath 50 = .ok (.getfield 15, 3) := by decide +kernel
theorem dX3_tracePath_53 : decode cX3_tracePath 53 = .ok (.iload_n 3, 1) := by decide +kernel
theorem dX3_tracePath_54 : decode cX3_tracePath 54 = .ok (.aload_n 0, 1) := by decide +kernel
theorem dX3_tracePath_55 : decode cX3_tracePath 55 = .ok (.iload_n 3, 1) := by decide +kernel
theorem dX3_tracePath_56 : decode cX3_tracePath 56 = .ok (.iconst 1, 1) := by decide +kernel
theorem dX3_tracePath_57 : decode cX3_tracePath 57 = .ok (.isub, 1) := by decide +kernel
theorem dX3_tracePath_58 : decode cX3_tracePath 58 = .ok (.aload_n 0, 1) := by decide +kernel
theorem dX3_tracePath_59 : decode cX3_tracePath 59 = .ok (.getfield 15, 3) := by decide +kernel
theorem dX3_tracePath_62 : decode cX3_tracePath 62 = .ok (.iload_n 3, 1) := by decide +kernel
theorem dX3_tracePath_63 : decode cX3_tracePath 63 = .ok (.iconst 1, 1) := by decide +kernel
theorem dX3_tracePath_64 : decode cX3_tracePath 64 = .ok (.isub, 1) := by decide +kernel
theorem dX3_tracePath_65 : decode cX3_tracePath 65 = .ok (.iaload, 1) := by decide +kernel
theorem dX3_tracePath_66 : decode cX3_tracePath 66 = .ok (.iload 4, 2) := by decide +kernel
theorem dX3_tracePath_68 : decode cX3_tracePath 68 = .ok (.iload_n 2, 1) := by decide +kernel
theorem dX3_tracePath_69 : decode cX3_tracePath 69 = .ok (.invokevirtual 67, 3) := by decide +kernel
theorem dX3_tracePath_72 : decode cX3_tracePath 72 = .ok (.iastore, 1) := by decide +kernel
theorem dX3_tracePath_73 : decode cX3_tracePath 73 = .ok (.iinc 3 1, 3) := by decide +kernel
theorem dX3_tracePath_76 : decode cX3_tracePath 76 = .ok (.goto (-74), 3) := by decide +kernel
theorem dX3_tracePath_79 : decode cX3_tracePath 79 = .ok (.return_, 1) := by decide +kernel
theorem dX3_bestFirst_0 : decode cX3_bestFirst 0 = .ok (.iconst 0, 1) := by decide +kernel
theorem dX3_bestFirst_1 : decode cX3_bestFirst 1 = .ok (.istore_n 1, 1) := by decide +kernel
theorem dX3_bestFirst_2 : decode cX3_bestFirst 2 = .ok (.iconst 1, 1) := by decide +kernel
theorem dX3_bestFirst_3 : decode cX3_bestFirst 3 = .ok (.istore_n 2, 1) := by decide +kernel
theorem dX3_bestFirst_4 : decode cX3_bestFirst 4 = .ok (.iload_n 2, 1) := by decide +kernel
theorem dX3_bestFirst_5 : decode cX3_bestFirst 5 = .ok (.iconst 5, 1) := by decide +kernel
theorem dX3_bestFirst_6 : decode cX3_bestFirst 6 = .ok (.if_icmp .ge 26, 3) := by decide +kernel
theorem dX3_bestFirst_9 : decode cX3_bestFirst 9 = .ok (.aload_n 0, 1) := by decide +kernel
theorem dX3_bestFirst_10 : decode cX3_bestFirst 10 = .ok (.getfield 11, 3) := by decide +kernel
theorem dX3_bestFirst_13 : decode cX3_bestFirst 13 = .ok (.iload_n 2, 1) := by decide +kernel
theorem dX3_bestFirst_14 : decode cX3_bestFirst 14 = .ok (.iaload, 1) := by decide +kernel
theorem dX3_bestFirst_15 : decode cX3_bestFirst 15 = .ok (.aload_n 0, 1) := by decide +kernel
theorem dX3_bestFirst_16 : decode cX3_bestFirst 16 = .ok (.getfield 11, 3) := by decide +kernel
theorem dX3_bestFirst_19 : decode cX3_bestFirst 19 = .ok (.iload_n 1, 1) := by decide +kernel
theorem dX3_bestFirst_20 : decode cX3_bestFirst 20 = .ok (.iaload, 1) := by decide +kernel
theorem dX3_bestFirst_21 : decode cX3_bestFirst 21 = .ok (.if_icmp .ge 5, 3) := by decide +kernel
theorem dX3_bestFirst_24 : decode cX3_bestFirst 24 = .ok (.iload_n 2, 1) := by decide +kernel
theorem dX3_bestFirst_25 : decode cX3_bestFirst 25 = .ok (.istore_n 1, 1) := by decide +kernel
theorem dX3_bestFirst_26 : decode cX3_bestFirst 26 = .ok (.iinc 2 1, 3) := by decide +kernel
theorem dX3_bestFirst_29 : decode cX3_bestFirst 29 = .ok (.goto (-25), 3) := by decide +kernel
theorem dX3_bestFirst_32 : decode cX3_bestFirst 32 = .ok (.iload_n 1, 1) := by decide +kernel
theorem dX3_bestFirst_33 : decode cX3_bestFirst 33 = .ok (.ireturn, 1) := by decide +kernel
set_option maxRecDepth 20000 in
theorem ggX3_bestNext_X3_step : GoodIn wsX3_bestNext wsX3_step := goodIn_r _ [5] (by decide +kernel) (by decide +kernel)
set_option maxRecDepth 20000 in
theorem gX3_bestNext_X3_step : GoodIn wsX3_bestNext (va_wsS RX3 71 yX3_step wsX3_step) := goodIn_app (goodIn_of _ (by decide +kernel)) ggX3_bestNext_X3_step
theorem dX3_bestNext_0 : decode cX3_bestNext 0 = .ok (.iload_n 1, 1) := by decide +kernel
theorem dX3_bestNext_1 : decode cX3_bestNext 1 = .ok (.iconst 1, 1) := by decide +kernel
theorem dX3_bestNext_2 : decode cX3_bestNext 2 = .ok (.iadd, 1) := by decide +kernel
theorem dX3_bestNext_3 : decode cX3_bestNext 3 = .ok (.iconst 5, 1) := by decide +kernel
theorem dX3_bestNext_4 : decode cX3_bestNext 4 = .ok (.imul, 1) := by decide +kernel
theorem dX3_bestNext_5 : decode cX3_bestNext 5 = .ok (.istore 5, 2) := by decide +kernel
theorem dX3_bestNext_7 : decode cX3_bestNext 7 = .ok (.iconst 0, 1) := by decide +kernel
theorem dX3_bestNext_8 : decode cX3_bestNext 8 = .ok (.istore 6, 2) := by decide +kernel
theorem dX3_bestNext_10 : decode cX3_bestNext 10 = .ok (.iload_n 2, 1) := by decide +kernel
theorem dX3_bestNext_11 : decode cX3_bestNext 11 = .ok (.iconst 0, 1) := by decide +kernel
theorem dX3_bestNext_12 : decode cX3_bestNext 12 = .ok (.iload_n 3, 1) := by decide +kernel
theorem dX3_bestNext_13 : decode cX3_bestNext 13 = .ok (.iload 4, 2) := by decide +kernel
theorem dX3_bestNext_15 : decode cX3_bestNext 15 = .ok (.invokestatic 71, 3) := by decide +kernel
theorem dX3_bestNext_18 : decode cX3_bestNext 18 = .ok (.aload_n 0, 1) := by decide +kernel
theorem dX3_bestNext_19 : decode cX3_bestNext 19 = .ok (.getfield 11, 3) := by decide +kernel
theorem dX3_bestNext_22 : decode cX3_bestNext 22 = .ok (.iload 5, 2) := by decide +kernel
theorem dX3_bestNext_24 : decode cX3_bestNext 24 = .ok (.iaload, 1) := by decide +kernel
theorem dX3_bestNext_25 : decode cX3_bestNext 25 = .ok (.iadd, 1) := by decide +kernel
theorem dX3_bestNext_26 : decode cX3_bestNext 26 = .ok (.istore 7, 2) := by decide +kernel
theorem dX3_bestNext_28 : decode cX3_bestNext 28 = .ok (.iconst 1, 1) := by decide +kernel
theorem dX3_bestNext_29 : decode cX3_bestNext 29 = .ok (.istore 8, 2) := by decide +kernel
theorem dX3_bestNext_31 : decode cX3_bestNext 31 = .ok (.iload 8, 2) := by decide +kernel
theorem dX3_bestNext_33 : decode cX3_bestNext 33 = .ok (.iconst 5, 1) := by decide +kernel
theorem dX3_bestNext_34 : decode cX3_bestNext 34 = .ok (.if_icmp .ge 46, 3) := by decide +kernel
theorem dX3_bestNext_37 : decode cX3_bestNext 37 = .ok (.iload_n 2, 1) := by decide +kernel
theorem dX3_bestNext_38 : decode cX3_bestNext 38 = .ok (.iload 8, 2) := by decide +kernel
theorem dX3_bestNext_40 : decode cX3_bestNext 40 = .ok (.iload_n 3, 1) := by decide +kernel
theorem dX3_bestNext_41 : decode cX3_bestNext 41 = .ok (.iload 4, 2) := by decide +kernel
theorem dX3_bestNext_43 : decode cX3_bestNext 43 = .ok (.invokestatic 71, 3) := by decide +kernel
theorem dX3_bestNext_46 : decode cX3_bestNext 46 = .ok (.aload_n 0, 1) := by decide +kernel
theorem dX3_bestNext_47 : decode cX3_bestNext 47 = .ok (.getfield 11, 3) := by decide +kernel
theorem dX3_bestNext_50 : decode cX3_bestNext 50 = .ok (.iload 5, 2) := by decide +kernel
theorem dX3_bestNext_52 : decode cX3_bestNext 52 = .ok (.iload 8, 2) := by decide +kernel
theorem dX3_bestNext_54 : decode cX3_bestNext 54 = .ok (.iadd, 1) := by decide +kernel
theorem dX3_bestNext_55 : decode cX3_bestNext 55 = .ok (.iaload, 1) := by decide +kernel
theorem dX3_bestNext_56 : decode cX3_bestNext 56 = .ok (.iadd, 1) := by decide +kernel
theorem dX3_bestNext_57 : decode cX3_bestNext 57 = .ok (.istore 9, 2) := by decide +kernel
theorem dX3_bestNext_59 : decode cX3_bestNext 59 = .ok (.iload 9, 2) := by decide +kernel
theorem dX3_bestNext_61 : decode cX3_bestNext 61 = .ok (.iload 7, 2) := by decide +kernel
theorem dX3_bestNext_63 : decode cX3_bestNext 63 = .ok (.if_icmp .ge 11, 3) := by decide +kernel
theorem dX3_bestNext_66 : decode cX3_bestNext 66 = .ok (.iload 8, 2) := by decide +kernel
theorem dX3_bestNext_68 : decode cX3_bestNext 68 = .ok (.istore 6, 2) := by decide +kernel
theorem dX3_bestNext_70 : decode cX3_bestNext 70 = .ok (.iload 9, 2) := by decide +kernel
theorem dX3_bestNext_72 : decode cX3_bestNext 72 = .ok (.istore 7, 2) := by decide +kernel
theorem dX3_bestNext_74 : decode cX3_bestNext 74 = .ok (.iinc 8 1, 3) := by decide +kernel
theorem dX3_bestNext_77 : decode cX3_bestNext 77 = .ok (.goto (-46), 3) := by decide +kernel
theorem dX3_bestNext_80 : decode cX3_bestNext 80 = .ok (.iload 6, 2) := by decide +kernel
theorem dX3_bestNext_82 : decode cX3_bestNext 82 = .ok (.ireturn, 1) := by decide +kernel
theorem dX3_step_0 : decode cX3_step 0 = .ok (.iload_n 1, 1) := by decide +kernel
theorem dX3_step_1 : decode cX3_step 1 = .ok (.iload_n 0, 1) := by decide +kernel
theorem dX3_step_2 : decode cX3_step 2 = .ok (.iconst 1, 1) := by decide +kernel
theorem dX3_step_3 : decode cX3_step 3 = .ok (.iadd, 1) := by decide +kernel
theorem dX3_step_4 : decode cX3_step 4 = .ok (.iconst 5, 1) := by decide +kernel
theorem dX3_step_5 : decode cX3_step 5 = .ok (.irem, 1) := by decide +kernel
theorem dX3_step_6 : decode cX3_step 6 = .ok (.if_icmp .eq 5, 3) := by decide +kernel
theorem dX3_step_9 : decode cX3_step 9 = .ok (.iload_n 3, 1) := by decide +kernel
theorem dX3_step_10 : decode cX3_step 10 = .ok (.ireturn, 1) := by decide +kernel
theorem dX3_step_11 : decode cX3_step 11 = .ok (.iload_n 1, 1) := by decide +kernel
theorem dX3_step_12 : decode cX3_step 12 = .ok (.ifCond .eq 8, 3) := by decide +kernel
theorem dX3_step_15 : decode cX3_step 15 = .ok (.iload_n 1, 1) := by decide +kernel
theorem dX3_step_16 : decode cX3_step 16 = .ok (.iconst 2, 1) := by decide +kernel
theorem dX3_step_17 : decode cX3_step 17 = .ok (.if_icmp .ne 13, 3) := by decide +kernel
theorem dX3_step_20 : decode cX3_step 20 = .ok (.iload_n 2, 1) := by decide +kernel
theorem dX3_step_21 : decode cX3_step 21 = .ok (.ifCond .eq 7, 3) := by decide +kernel
theorem dX3_step_24 : decode cX3_step 24 = .ok (.iconst 1, 1) := by decide +kernel
theorem dX3_step_25 : decode cX3_step 25 = .ok (.goto 4, 3) := by decide +kernel
theorem dX3_step_28 : decode cX3_step 28 = .ok (.iconst 0, 1) := by decide +kernel
theorem dX3_step_29 : decode cX3_step 29 = .ok (.ireturn, 1) := by decide +kernel
theorem dX3_step_30 : decode cX3_step 30 = .ok (.iload_n 2, 1) := by decide +kernel
theorem dX3_step_31 : decode cX3_step 31 = .ok (.ifCond .eq 7, 3) := by decide +kernel
theorem dX3_step_34 : decode cX3_step 34 = .ok (.iconst 0, 1) := by decide +kernel
theorem dX3_step_35 : decode cX3_step 35 = .ok (.goto 4, 3) := by decide +kernel
theorem dX3_step_38 : decode cX3_step 38 = .ok (.iconst 3, 1) := by decide +kernel
theorem dX3_step_39 : decode cX3_step 39 = .ok (.ireturn, 1) := by decide +kernel
theorem dX3_beginsFrame_0 : decode cX3_beginsFrame 0 = .ok (.aload_n 0, 1) := by decide +kernel
theorem dX3_beginsFrame_1 : decode cX3_beginsFrame 1 = .ok (.getfield 15, 3) := by decide +kernel
theorem dX3_beginsFrame_4 : decode cX3_beginsFrame 4 = .ok (.iload_n 1, 1) := by decide +kernel
theorem dX3_beginsFrame_5 : decode cX3_beginsFrame 5 = .ok (.iaload, 1) := by decide +kernel
theorem dX3_beginsFrame_6 : decode cX3_beginsFrame 6 = .ok (.istore_n 2, 1) := by decide +kernel
theorem dX3_beginsFrame_7 : decode cX3_beginsFrame 7 = .ok (.iload_n 1, 1) := by decide +kernel
theorem dX3_beginsFrame_8 : decode cX3_beginsFrame 8 = .ok (.ifCond .eq 28, 3) := by decide +kernel
theorem dX3_beginsFrame_11 : decode cX3_beginsFrame 11 = .ok (.iload_n 2, 1) := by decide +kernel
theorem dX3_beginsFrame_12 : decode cX3_beginsFrame 12 = .ok (.ifCond .eq 24, 3) := by decide +kernel
theorem dX3_beginsFrame_15 : decode cX3_beginsFrame 15 = .ok (.iload_n 2, 1) := by decide +kernel
theorem dX3_beginsFrame_16 : decode cX3_beginsFrame 16 = .ok (.iconst 2, 1) := by decide +kernel
theorem dX3_beginsFrame_17 : decode cX3_beginsFrame 17 = .ok (.if_icmp .eq 19, 3) := by decide +kernel
theorem dX3_beginsFrame_20 : decode cX3_beginsFrame 20 = .ok (.iload_n 2, 1) := by decide +kernel
theorem dX3_beginsFrame_21 : decode cX3_beginsFrame 21 = .ok (.aload_n 0, 1) := by decide +kernel
theorem dX3_beginsFrame_22 : decode cX3_beginsFrame 22 = .ok (.getfield 15, 3) := by decide +kernel
theorem dX3_beginsFrame_25 : decode cX3_beginsFrame 25 = .ok (.iload_n 1, 1) := by decide +kernel
theorem dX3_beginsFrame_26 : decode cX3_beginsFrame 26 = .ok (.iconst 1, 1) := by decide +kernel
theorem dX3_beginsFrame_27 : decode cX3_beginsFrame 27 = .ok (.isub, 1) := by decide +kernel
theorem dX3_beginsFrame_28 : decode cX3_beginsFrame 28 = .ok (.iaload, 1) := by decide +kernel
theorem dX3_beginsFrame_29 : decode cX3_beginsFrame 29 = .ok (.iconst 1, 1) := by decide +kernel
theorem dX3_beginsFrame_30 : decode cX3_beginsFrame 30 = .ok (.iadd, 1) := by decide +kernel
theorem dX3_beginsFrame_31 : decode cX3_beginsFrame 31 = .ok (.iconst 5, 1) := by decide +kernel
theorem dX3_beginsFrame_32 : decode cX3_beginsFrame 32 = .ok (.irem, 1) := by decide +kernel
theorem dX3_beginsFrame_33 : decode cX3_beginsFrame 33 = .ok (.if_icmp .eq 7, 3) := by decide +kernel
theorem dX3_beginsFrame_36 : decode cX3_beginsFrame 36 = .ok (.iconst 1, 1) := by decide +kernel
theorem dX3_beginsFrame_37 : decode cX3_beginsFrame 37 = .ok (.goto 4, 3) := by decide +kernel
theorem dX3_beginsFrame_40 : decode cX3_beginsFrame 40 = .ok (.iconst 0, 1) := by decide +kernel
theorem dX3_beginsFrame_41 : decode cX3_beginsFrame 41 = .ok (.ireturn, 1) := by decide +kernel
set_option maxRecDepth 20000 in
theorem ggX3_gatherFrames_X3_beginsFrame : GoodIn wsX3_gatherFrames wsX3_beginsFrame := goodIn_r _ [9, 10, 11, 12, 13, 14, 15, 16, 17, 18, 19] (by decide +kernel) (by decide +kernel)
set_option maxRecDepth 20000 in
theorem gX3_gatherFrames_X3_beginsFrame : GoodIn wsX3_gatherFrames (wsV RX3 77 RX3 yX3_beginsFrame wsX3_beginsFrame) := goodIn_app (goodIn_of _ (by decide +kernel)) ggX3_gatherFrames_X3_beginsFrame
theorem dX3_gatherFrames_0 : decode cX3_gatherFrames 0 = .ok (.aload_n 0, 1) := by decide +kernel
theorem dX3_gatherFrames_1 : decode cX3_gatherFrames 1 = .ok (.iconst 0, 1) := by decide +kernel
theorem dX3_gatherFrames_2 : decode cX3_gatherFrames 2 = .ok (.putfield 34, 3) := by decide +kernel
theorem dX3_gatherFrames_5 : decode cX3_gatherFrames 5 = .ok (.iconst 0, 1) := by decide +kernel
theorem dX3_gatherFrames_6 : decode cX3_gatherFrames 6 = .ok (.istore_n 2, 1) := by decide +kernel
theorem dX3_gatherFrames_7 : decode cX3_gatherFrames 7 = .ok (.iconst 0, 1) := by decide +kernel
theorem dX3_gatherFrames_8 : decode cX3_gatherFrames 8 = .ok (.istore_n 3, 1) := by decide +kernel
theorem dX3_gatherFrames_9 : decode cX3_gatherFrames 9 = .ok (.iload_n 3, 1) := by decide +kernel
theorem dX3_gatherFrames_10 : decode cX3_gatherFrames 10 = .ok (.iload_n 1, 1) := by decide +kernel
theorem dX3_gatherFrames_11 : decode cX3_gatherFrames 11 = .ok (.if_icmp .ge 67, 3) := by decide +kernel
theorem dX3_gatherFrames_14 : decode cX3_gatherFrames 14 = .ok (.aload_n 0, 1) := by decide +kernel
theorem dX3_gatherFrames_15 : decode cX3_gatherFrames 15 = .ok (.iload_n 3, 1) := by decide +kernel
theorem dX3_gatherFrames_16 : decode cX3_gatherFrames 16 = .ok (.invokevirtual 77, 3) := by decide +kernel
theorem dX3_gatherFrames_19 : decode cX3_gatherFrames 19 = .ok (.ifCond .eq 25, 3) := by decide +kernel
theorem dX3_gatherFrames_22 : decode cX3_gatherFrames 22 = .ok (.iload_n 3, 1) := by decide +kernel
theorem dX3_gatherFrames_23 : decode cX3_gatherFrames 23 = .ok (.istore_n 2, 1) := by decide +kernel
theorem dX3_gatherFrames_24 : decode cX3_gatherFrames 24 = .ok (.aload_n 0, 1) := by decide +kernel
theorem dX3_gatherFrames_25 : decode cX3_gatherFrames 25 = .ok (.getfield 21, 3) := by decide +kernel
theorem dX3_gatherFrames_28 : decode cX3_gatherFrames 28 = .ok (.aload_n 0, 1) := by decide +kernel
theorem dX3_gatherFrames_29 : decode cX3_gatherFrames 29 = .ok (.getfield 34, 3) := by decide +kernel
theorem dX3_gatherFrames_32 : decode cX3_gatherFrames 32 = .ok (.iload_n 2, 1) := by decide +kernel
theorem dX3_gatherFrames_33 : decode cX3_gatherFrames 33 = .ok (.iastore, 1) := by decide +kernel
theorem dX3_gatherFrames_34 : decode cX3_gatherFrames 34 = .ok (.aload_n 0, 1) := by decide +kernel
theorem dX3_gatherFrames_35 : decode cX3_gatherFrames 35 = .ok (.dup, 1) := by decide +kernel
theorem dX3_gatherFrames_36 : decode cX3_gatherFrames 36 = .ok (.getfield 34, 3) := by decide +kernel
theorem dX3_gatherFrames_39 : decode cX3_gatherFrames 39 = .ok (.iconst 1, 1) := by decide +kernel
theorem dX3_gatherFrames_40 : decode cX3_gatherFrames 40 = .ok (.iadd, 1) := by decide +kernel
theorem dX3_gatherFrames_41 : decode cX3_gatherFrames 41 = .ok (.putfield 34, 3) := by decide +kernel
theorem dX3_gatherFrames_44 : decode cX3_gatherFrames 44 = .ok (.aload_n 0, 1) := by decide +kernel
theorem dX3_gatherFrames_45 : decode cX3_gatherFrames 45 = .ok (.getfield 18, 3) := by decide +kernel
theorem dX3_gatherFrames_48 : decode cX3_gatherFrames 48 = .ok (.iload_n 3, 1) := by decide +kernel
theorem dX3_gatherFrames_49 : decode cX3_gatherFrames 49 = .ok (.aload_n 0, 1) := by decide +kernel
theorem dX3_gatherFrames_50 : decode cX3_gatherFrames 50 = .ok (.getfield 34, 3) := by decide +kernel
theorem dX3_gatherFrames_53 : decode cX3_gatherFrames 53 = .ok (.iconst 1, 1) := by decide +kernel
theorem dX3_gatherFrames_54 : decode cX3_gatherFrames 54 = .ok (.isub, 1) := by decide +kernel
theorem dX3_gatherFrames_55 : decode cX3_gatherFrames 55 = .ok (.iastore, 1) := by decide +kernel
theorem dX3_gatherFrames_56 : decode cX3_gatherFrames 56 = .ok (.aload_n 0, 1) := by decide +kernel
theorem dX3_gatherFrames_57 : decode cX3_gatherFrames 57 = .ok (.getfield 24, 3) := by decide +kernel
theorem dX3_gatherFrames_60 : decode cX3_gatherFrames 60 = .ok (.aload_n 0, 1) := by decide +kernel
theorem dX3_gatherFrames_61 : decode cX3_gatherFrames 61 = .ok (.getfield 34, 3) := by decide +kernel
theorem dX3_gatherFrames_64 : decode cX3_gatherFrames 64 = .ok (.iconst 1, 1) := by decide +kernel
theorem dX3_gatherFrames_65 : decode cX3_gatherFrames 65 = .ok (.isub, 1) := by decide +kernel
theorem dX3_gatherFrames_66 : decode cX3_gatherFrames 66 = .ok (.iload_n 3, 1) := by decide +kernel
theorem dX3_gatherFrames_67 : decode cX3_gatherFrames 67 = .ok (.iload_n 2, 1) := by decide +kernel
theorem dX3_gatherFrames_68 : decode cX3_gatherFrames 68 = .ok (.isub, 1) := by decide +kernel
theorem dX3_gatherFrames_69 : decode cX3_gatherFrames 69 = .ok (.iconst 1, 1) := by decide +kernel
theorem dX3_gatherFrames_70 : decode cX3_gatherFrames 70 = .ok (.iadd, 1) := by decide +kernel
theorem dX3_gatherFrames_71 : decode cX3_gatherFrames 71 = .ok (.iastore, 1) := by decide +kernel
theorem dX3_gatherFrames_72 : decode cX3_gatherFrames 72 = .ok (.iinc 3 1, 3) := by decide +kernel
theorem dX3_gatherFrames_75 : decode cX3_gatherFrames 75 = .ok (.goto (-66), 3) := by decide +kernel
theorem dX3_gatherFrames_78 : decode cX3_gatherFrames 78 = .ok (.return_, 1) := by decide +kernel
set_option maxRecDepth 20000 in
theorem ggX3_commonLook_X4_at : GoodIn wsX3_commonLook wsX4_at := goodIn_r _ [5, 6, 7, 12, 13] (by decide +kernel) (by decide +kernel)
set_option maxRecDepth 20000 in
theorem gX3_commonLook_X4_at : GoodIn wsX3_commonLook (wsV RX3 63 RX4 yX4_at wsX4_at) := goodIn_app (goodIn_of _ (by decide +kernel)) ggX3_commonLook_X4_at
set_option maxRecDepth 20000 in
theorem ggX3_commonLook_X3_timesOf : GoodIn wsX3_commonLook wsX3_timesOf := goodIn_r _ [11, 1, 2, 3, 4, 5, 6, 7, 12, 13] (by decide +kernel) (by decide +kernel)
set_option maxRecDepth 20000 in
theorem gX3_commonLook_X3_timesOf : GoodIn wsX3_commonLook (va_wsS RX3 81 yX3_timesOf wsX3_timesOf) := goodIn_app (goodIn_of _ (by decide +kernel)) ggX3_commonLook_X3_timesOf
theorem dX3_commonLook_0 : decode cX3_commonLook 0 = .ok (.iconst (-1), 1) := by decide +kernel
theorem dX3_commonLook_1 : decode cX3_commonLook 1 = .ok (.istore_n 3, 1) := by decide +kernel
theorem dX3_commonLook_2 : decode cX3_commonLook 2 = .ok (.iconst 0, 1) := by decide +kernel
theorem dX3_commonLook_3 : decode cX3_commonLook 3 = .ok (.istore 4, 2) := by decide +kernel
theorem dX3_commonLook_5 : decode cX3_commonLook 5 = .ok (.iload_n 1, 1) := by decide +kernel
theorem dX3_commonLook_6 : decode cX3_commonLook 6 = .ok (.istore 5, 2) := by decide +kernel
theorem dX3_commonLook_8 : decode cX3_commonLook 8 = .ok (.iload 5, 2) := by decide +kernel
theorem dX3_commonLook_10 : decode cX3_commonLook 10 = .ok (.iload_n 1, 1) := by decide +kernel
theorem dX3_commonLook_11 : decode cX3_commonLook 11 = .ok (.iload_n 2, 1) := by decide +kernel
theorem dX3_commonLook_12 : decode cX3_commonLook 12 = .ok (.iadd, 1) := by decide +kernel
theorem dX3_commonLook_13 : decode cX3_commonLook 13 = .ok (.if_icmp .ge 54, 3) := by decide +kernel
theorem dX3_commonLook_16 : decode cX3_commonLook 16 = .ok (.aload_n 0, 1) := by decide +kernel
theorem dX3_commonLook_17 : decode cX3_commonLook 17 = .ok (.iload 5, 2) := by decide +kernel
theorem dX3_commonLook_19 : decode cX3_commonLook 19 = .ok (.invokevirtual 63, 3) := by decide +kernel
theorem dX3_commonLook_22 : decode cX3_commonLook 22 = .ok (.istore 6, 2) := by decide +kernel
theorem dX3_commonLook_24 : decode cX3_commonLook 24 = .ok (.iload 6, 2) := by decide +kernel
theorem dX3_commonLook_26 : decode cX3_commonLook 26 = .ok (.aload_n 0, 1) := by decide +kernel
theorem dX3_commonLook_27 : decode cX3_commonLook 27 = .ok (.iload_n 1, 1) := by decide +kernel
theorem dX3_commonLook_28 : decode cX3_commonLook 28 = .ok (.iload_n 2, 1) := by decide +kernel
theorem dX3_commonLook_29 : decode cX3_commonLook 29 = .ok (.invokestatic 81, 3) := by decide +kernel
theorem dX3_commonLook_32 : decode cX3_commonLook 32 = .ok (.istore 7, 2) := by decide +kernel
theorem dX3_commonLook_34 : decode cX3_commonLook 34 = .ok (.iload 7, 2) := by decide +kernel
theorem dX3_commonLook_36 : decode cX3_commonLook 36 = .ok (.iload 4, 2) := by decide +kernel
theorem dX3_commonLook_38 : decode cX3_commonLook 38 = .ok (.if_icmp .gt 16, 3) := by decide +kernel
theorem dX3_commonLook_41 : decode cX3_commonLook 41 = .ok (.iload 7, 2) := by decide +kernel
theorem dX3_commonLook_43 : decode cX3_commonLook 43 = .ok (.iload 4, 2) := by decide +kernel
theorem dX3_commonLook_45 : decode cX3_commonLook 45 = .ok (.if_icmp .ne 16, 3) := by decide +kernel
theorem dX3_commonLook_48 : decode cX3_commonLook 48 = .ok (.iload 6, 2) := by decide +kernel
theorem dX3_commonLook_50 : decode cX3_commonLook 50 = .ok (.iload_n 3, 1) := by decide +kernel
theorem dX3_commonLook_51 : decode cX3_commonLook 51 = .ok (.if_icmp .ge 10, 3) := by decide +kernel
theorem dX3_commonLook_54 : decode cX3_commonLook 54 = .ok (.iload 6, 2) := by decide +kernel
theorem dX3_commonLook_56 : decode cX3_commonLook 56 = .ok (.istore_n 3, 1) := by decide +kernel
theorem dX3_commonLook_57 : decode cX3_commonLook 57 = .ok (.iload 7, 2) := by decide +kernel
theorem dX3_commonLook_59 : decode cX3_commonLook 59 = .ok (.istore 4, 2) := by decide +kernel
theorem dX3_commonLook_61 : decode cX3_commonLook 61 = .ok (.iinc 5 1, 3) := by decide +kernel
theorem dX3_commonLook_64 : decode cX3_commonLook 64 = .ok (.goto (-56), 3) := by decide +kernel
theorem dX3_commonLook_67 : decode cX3_commonLook 67 = .ok (.iload_n 3, 1) := by decide +kernel
theorem dX3_commonLook_68 : decode cX3_commonLook 68 = .ok (.ireturn, 1) := by decide +kernel
set_option maxRecDepth 20000 in
theorem ggX3_timesOf_X4_at : GoodIn wsX3_timesOf wsX4_at := goodIn_r _ [5, 6, 7, 8, 9] (by decide +kernel) (by decide +kernel)
set_option maxRecDepth 20000 in
theorem gX3_timesOf_X4_at : GoodIn wsX3_timesOf (wsV RX3 63 RX4 yX4_at wsX4_at) := goodIn_app (goodIn_of _ (by decide +kernel)) ggX3_timesOf_X4_at
theorem dX3_timesOf_0 : decode cX3_timesOf 0 = .ok (.iconst 0, 1) := by decide +kernel
theorem dX3_timesOf_1 : decode cX3_timesOf 1 = .ok (.istore 4, 2) := by decide +kernel
theorem dX3_timesOf_3 : decode cX3_timesOf 3 = .ok (.iload_n 2, 1) := by decide +kernel
theorem dX3_timesOf_4 : decode cX3_timesOf 4 = .ok (.istore 5, 2) := by decide +kernel
theorem dX3_timesOf_6 : decode cX3_timesOf 6 = .ok (.iload 5, 2) := by decide +kernel
theorem dX3_timesOf_8 : decode cX3_timesOf 8 = .ok (.iload_n 2, 1) := by decide +kernel
theorem dX3_timesOf_9 : decode cX3_timesOf 9 = .ok (.iload_n 3, 1) := by decide +kernel
theorem dX3_timesOf_10 : decode cX3_timesOf 10 = .ok (.iadd, 1) := by decide +kernel
theorem dX3_timesOf_11 : decode cX3_timesOf 11 = .ok (.if_icmp .ge 22, 3) := by decide +kernel
theorem dX3_timesOf_14 : decode cX3_timesOf 14 = .ok (.aload_n 1, 1) := by decide +kernel
theorem dX3_timesOf_15 : decode cX3_timesOf 15 = .ok (.iload 5, 2) := by decide +kernel
theorem dX3_timesOf_17 : decode cX3_timesOf 17 = .ok (.invokevirtual 63, 3) := by decide +kernel
theorem dX3_timesOf_20 : decode cX3_timesOf 20 = .ok (.iload_n 0, 1) := by decide +kernel
theorem dX3_timesOf_21 : decode cX3_timesOf 21 = .ok (.if_icmp .ne 6, 3) := by decide +kernel
theorem dX3_timesOf_24 : decode cX3_timesOf 24 = .ok (.iinc 4 1, 3) := by decide +kernel
theorem dX3_timesOf_27 : decode cX3_timesOf 27 = .ok (.iinc 5 1, 3) := by decide +kernel
theorem dX3_timesOf_30 : decode cX3_timesOf 30 = .ok (.goto (-24), 3) := by decide +kernel
theorem dX3_timesOf_33 : decode cX3_timesOf 33 = .ok (.iload 4, 2) := by decide +kernel
theorem dX3_timesOf_35 : decode cX3_timesOf 35 = .ok (.ireturn, 1) := by decide +kernel
end
section
theorem dX4_init_0 : decode cX4_init 0 = .ok (.aload_n 0, 1) := by decide +kernel
theorem dX4_init_1 : decode cX4_init 1 = .ok (.invokespecial 3, 3) := by decide +kernel
theorem dX4_init_4 : decode cX4_init 4 = .ok (.aload_n 0, 1) := by decide +kernel
theorem dX4_init_5 : decode cX4_init 5 = .ok (.iload_n 1, 1) := by decide +kernel
theorem dX4_init_6 : decode cX4_init 6 = .ok (.iconst 0, 1) := by decide +kernel
theorem dX4_init_7 : decode cX4_init 7 = .ok (.invokestatic 9, 3) := by decide +kernel
theorem dX4_init_10 : decode cX4_init 10 = .ok (.newarray .int, 2) := by decide +kernel
theorem dX4_init_12 : decode cX4_init 12 = .ok (.putfield 15, 3) := by decide +kernel
theorem dX4_init_15 : decode cX4_init 15 = .ok (.aload_n 0, 1) := by decide +kernel
theorem dX4_init_16 : decode cX4_init 16 = .ok (.iconst 0, 1) := by decide +kernel
theorem dX4_init_17 : decode cX4_init 17 = .ok (.putfield 21, 3) := by decide +kernel
theorem dX4_init_20 : decode cX4_init 20 = .ok (.return_, 1) := by decide +kernel
theorem dX4_many_0 : decode cX4_many 0 = .ok (.aload_n 0, 1) := by decide +kernel
theorem dX4_many_1 : decode cX4_many 1 = .ok (.getfield 21, 3) := by decide +kernel
theorem dX4_many_4 : decode cX4_many 4 = .ok (.ireturn, 1) := by decide +kernel
theorem dX4_has_0 : decode cX4_has 0 = .ok (.iload_n 1, 1) := by decide +kernel
theorem dX4_has_1 : decode cX4_has 1 = .ok (.ifCond .lt 15, 3) := by decide +kernel
theorem dX4_has_4 : decode cX4_has 4 = .ok (.iload_n 1, 1) := by decide +kernel
theorem dX4_has_5 : decode cX4_has 5 = .ok (.aload_n 0, 1) := by decide +kernel
theorem dX4_has_6 : decode cX4_has 6 = .ok (.getfield 21, 3) := by decide +kernel
theorem dX4_has_9 : decode cX4_has 9 = .ok (.if_icmp .ge 7, 3) := by decide +kernel
theorem dX4_has_12 : decode cX4_has 12 = .ok (.iconst 1, 1) := by decide +kernel
theorem dX4_has_13 : decode cX4_has 13 = .ok (.goto 4, 3) := by decide +kernel
theorem dX4_has_16 : decode cX4_has 16 = .ok (.iconst 0, 1) := by decide +kernel
theorem dX4_has_17 : decode cX4_has 17 = .ok (.ireturn, 1) := by decide +kernel
theorem dX4_at_0 : decode cX4_at 0 = .ok (.iload_n 1, 1) := by decide +kernel
theorem dX4_at_1 : decode cX4_at 1 = .ok (.ifCond .lt 20, 3) := by decide +kernel
theorem dX4_at_4 : decode cX4_at 4 = .ok (.iload_n 1, 1) := by decide +kernel
theorem dX4_at_5 : decode cX4_at 5 = .ok (.aload_n 0, 1) := by decide +kernel
theorem dX4_at_6 : decode cX4_at 6 = .ok (.getfield 21, 3) := by decide +kernel
theorem dX4_at_9 : decode cX4_at 9 = .ok (.if_icmp .ge 12, 3) := by decide +kernel
theorem dX4_at_12 : decode cX4_at 12 = .ok (.aload_n 0, 1) := by decide +kernel
theorem dX4_at_13 : decode cX4_at 13 = .ok (.getfield 15, 3) := by decide +kernel
theorem dX4_at_16 : decode cX4_at 16 = .ok (.iload_n 1, 1) := by decide +kernel
theorem dX4_at_17 : decode cX4_at 17 = .ok (.iaload, 1) := by decide +kernel
theorem dX4_at_18 : decode cX4_at 18 = .ok (.goto 4, 3) := by decide +kernel
theorem dX4_at_21 : decode cX4_at 21 = .ok (.iconst (-1), 1) := by decide +kernel
theorem dX4_at_22 : decode cX4_at 22 = .ok (.ireturn, 1) := by decide +kernel
theorem dX4_add_0 : decode cX4_add 0 = .ok (.aload_n 0, 1) := by decide +kernel
theorem dX4_add_1 : decode cX4_add 1 = .ok (.getfield 21, 3) := by decide +kernel
theorem dX4_add_4 : decode cX4_add 4 = .ok (.aload_n 0, 1) := by decide +kernel
theorem dX4_add_5 : decode cX4_add 5 = .ok (.getfield 15, 3) := by decide +kernel
theorem dX4_add_8 : decode cX4_add 8 = .ok (.arraylength, 1) := by decide +kernel
theorem dX4_add_9 : decode cX4_add 9 = .ok (.if_icmp .lt 5, 3) := by decide +kernel
theorem dX4_add_12 : decode cX4_add 12 = .ok (.iconst (-1), 1) := by decide +kernel
theorem dX4_add_13 : decode cX4_add 13 = .ok (.ireturn, 1) := by decide +kernel
theorem dX4_add_14 : decode cX4_add 14 = .ok (.aload_n 0, 1) := by decide +kernel
theorem dX4_add_15 : decode cX4_add 15 = .ok (.getfield 15, 3) := by decide +kernel
theorem dX4_add_18 : decode cX4_add 18 = .ok (.aload_n 0, 1) := by decide +kernel
theorem dX4_add_19 : decode cX4_add 19 = .ok (.getfield 21, 3) := by decide +kernel
theorem dX4_add_22 : decode cX4_add 22 = .ok (.iload_n 1, 1) := by decide +kernel
theorem dX4_add_23 : decode cX4_add 23 = .ok (.iastore, 1) := by decide +kernel
theorem dX4_add_24 : decode cX4_add 24 = .ok (.aload_n 0, 1) := by decide +kernel
theorem dX4_add_25 : decode cX4_add 25 = .ok (.dup, 1) := by decide +kernel
theorem dX4_add_26 : decode cX4_add 26 = .ok (.getfield 21, 3) := by decide +kernel
theorem dX4_add_29 : decode cX4_add 29 = .ok (.iconst 1, 1) := by decide +kernel
theorem dX4_add_30 : decode cX4_add 30 = .ok (.iadd, 1) := by decide +kernel
theorem dX4_add_31 : decode cX4_add 31 = .ok (.putfield 21, 3) := by decide +kernel
theorem dX4_add_34 : decode cX4_add 34 = .ok (.aload_n 0, 1) := by decide +kernel
theorem dX4_add_35 : decode cX4_add 35 = .ok (.getfield 21, 3) := by decide +kernel
theorem dX4_add_38 : decode cX4_add 38 = .ok (.iconst 1, 1) := by decide +kernel
theorem dX4_add_39 : decode cX4_add 39 = .ok (.isub, 1) := by decide +kernel
theorem dX4_add_40 : decode cX4_add 40 = .ok (.ireturn, 1) := by decide +kernel
set_option maxRecDepth 20000 in
theorem ggX4_put_X4_has : GoodIn wsX4_put wsX4_has := goodIn_r _ [6, 7, 8, 9] (by decide +kernel) (by decide +kernel)
set_option maxRecDepth 20000 in
theorem gX4_put_X4_has : GoodIn wsX4_put (wsV RX4 25 RX4 yX4_has wsX4_has) := goodIn_app (goodIn_of _ (by decide +kernel)) ggX4_put_X4_has
theorem dX4_put_0 : decode cX4_put 0 = .ok (.aload_n 0, 1) := by decide +kernel
theorem dX4_put_1 : decode cX4_put 1 = .ok (.iload_n 1, 1) := by decide +kernel
theorem dX4_put_2 : decode cX4_put 2 = .ok (.invokevirtual 25, 3) := by decide +kernel
theorem dX4_put_5 : decode cX4_put 5 = .ok (.ifCond .eq 10, 3) := by decide +kernel
theorem dX4_put_8 : decode cX4_put 8 = .ok (.aload_n 0, 1) := by decide +kernel
theorem dX4_put_9 : decode cX4_put 9 = .ok (.getfield 15, 3) := by decide +kernel
theorem dX4_put_12 : decode cX4_put 12 = .ok (.iload_n 1, 1) := by decide +kernel
theorem dX4_put_13 : decode cX4_put 13 = .ok (.iload_n 2, 1) := by decide +kernel
theorem dX4_put_14 : decode cX4_put 14 = .ok (.iastore, 1) := by decide +kernel
theorem dX4_put_15 : decode cX4_put 15 = .ok (.return_, 1) := by decide +kernel
theorem dX4_clear_0 : decode cX4_clear 0 = .ok (.aload_n 0, 1) := by decide +kernel
theorem dX4_clear_1 : decode cX4_clear 1 = .ok (.iconst 0, 1) := by decide +kernel
theorem dX4_clear_2 : decode cX4_clear 2 = .ok (.putfield 21, 3) := by decide +kernel
theorem dX4_clear_5 : decode cX4_clear 5 = .ok (.return_, 1) := by decide +kernel
set_option maxRecDepth 20000 in
theorem ggX4_remove_X4_has : GoodIn wsX4_remove wsX4_has := goodIn_r _ [7, 1, 8, 9] (by decide +kernel) (by decide +kernel)
set_option maxRecDepth 20000 in
theorem gX4_remove_X4_has : GoodIn wsX4_remove (wsV RX4 25 RX4 yX4_has wsX4_has) := goodIn_app (goodIn_of _ (by decide +kernel)) ggX4_remove_X4_has
theorem dX4_remove_0 : decode cX4_remove 0 = .ok (.aload_n 0, 1) := by decide +kernel
theorem dX4_remove_1 : decode cX4_remove 1 = .ok (.iload_n 1, 1) := by decide +kernel
theorem dX4_remove_2 : decode cX4_remove 2 = .ok (.invokevirtual 25, 3) := by decide +kernel
theorem dX4_remove_5 : decode cX4_remove 5 = .ok (.ifCond .eq 17, 3) := by decide +kernel
theorem dX4_remove_8 : decode cX4_remove 8 = .ok (.iload_n 2, 1) := by decide +kernel
theorem dX4_remove_9 : decode cX4_remove 9 = .ok (.ifCond .lt 13, 3) := by decide +kernel
theorem dX4_remove_12 : decode cX4_remove 12 = .ok (.iload_n 2, 1) := by decide +kernel
theorem dX4_remove_13 : decode cX4_remove 13 = .ok (.aload_n 0, 1) := by decide +kernel
theorem dX4_remove_14 : decode cX4_remove 14 = .ok (.getfield 21, 3) := by decide +kernel
theorem dX4_remove_17 : decode cX4_remove 17 = .ok (.iload_n 1, 1) := by decide +kernel
theorem dX4_remove_18 : decode cX4_remove 18 = .ok (.isub, 1) := by decide +kernel
theorem dX4_remove_19 : decode cX4_remove 19 = .ok (.if_icmp .le 4, 3) := by decide +kernel
theorem dX4_remove_22 : decode cX4_remove 22 = .ok (.return_, 1) := by decide +kernel
theorem dX4_remove_23 : decode cX4_remove 23 = .ok (.iload_n 1, 1) := by decide +kernel
theorem dX4_remove_24 : decode cX4_remove 24 = .ok (.iload_n 2, 1) := by decide +kernel
theorem dX4_remove_25 : decode cX4_remove 25 = .ok (.iadd, 1) := by decide +kernel
theorem dX4_remove_26 : decode cX4_remove 26 = .ok (.istore_n 3, 1) := by decide +kernel
theorem dX4_remove_27 : decode cX4_remove 27 = .ok (.iload_n 3, 1) := by decide +kernel
theorem dX4_remove_28 : decode cX4_remove 28 = .ok (.aload_n 0, 1) := by decide +kernel
theorem dX4_remove_29 : decode cX4_remove 29 = .ok (.getfield 21, 3) := by decide +kernel
theorem dX4_remove_32 : decode cX4_remove 32 = .ok (.if_icmp .ge 23, 3) := by decide +kernel
theorem dX4_remove_35 : decode cX4_remove 35 = .ok (.aload_n 0, 1) := by decide +kernel
theorem dX4_remove_36 : decode cX4_remove 36 = .ok (.getfield 15, 3) := by decide +kernel
theorem dX4_remove_39 : decode cX4_remove 39 = .ok (.iload_n 3, 1) := by decide +kernel
theorem dX4_remove_40 : decode cX4_remove 40 = .ok (.iload_n 2, 1) := by decide +kernel
theorem dX4_remove_41 : decode cX4_remove 41 = .ok (.isub, 1) := by decide +kernel
theorem dX4_remove_42 : decode cX4_remove 42 = .ok (.aload_n 0, 1) := by decide +kernel
theorem dX4_remove_43 : decode cX4_remove 43 = .ok (.getfield 15, 3) := by decide +kernel
theorem dX4_remove_46 : decode cX4_remove 46 = .ok (.iload_n 3, 1) := by decide +kernel
theorem dX4_remove_47 : decode cX4_remove 47 = .ok (.iaload, 1) := by decide +kernel
theorem dX4_remove_48 : decode cX4_remove 48 = .ok (.iastore, 1) := by decide +kernel
theorem dX4_remove_49 : decode cX4_remove 49 = .ok (.iinc 3 1, 3) := by decide +kernel
theorem dX4_remove_52 : decode cX4_remove 52 = .ok (.goto (-25), 3) := by decide +kernel
theorem dX4_remove_55 : decode cX4_remove 55 = .ok (.aload_n 0, 1) := by decide +kernel
theorem dX4_remove_56 : decode cX4_remove 56 = .ok (.dup, 1) := by decide +kernel
theorem dX4_remove_57 : decode cX4_remove 57 = .ok (.getfield 21, 3) := by decide +kernel
theorem dX4_remove_60 : decode cX4_remove 60 = .ok (.iload_n 2, 1) := by decide +kernel
theorem dX4_remove_61 : decode cX4_remove 61 = .ok (.isub, 1) := by decide +kernel
theorem dX4_remove_62 : decode cX4_remove 62 = .ok (.putfield 21, 3) := by decide +kernel
theorem dX4_remove_65 : decode cX4_remove 65 = .ok (.return_, 1) := by decide +kernel
set_option maxRecDepth 20000 in
theorem ggX5_init_X4_init : GoodIn wsX5_init wsX4_init := goodIn_r _ [17, 18, 2, 3, 19, 20, 21, 22, 9, 23, 24, 25, 26] (by decide +kernel) (by decide +kernel)
set_option maxRecDepth 20000 in
theorem gX5_init_X4_init : GoodIn wsX5_init (wsX4_init) := ggX5_init_X4_init
theorem dX5_init_0 : decode cX5_init 0 = .ok (.aload_n 0, 1) := by decide +kernel
theorem dX5_init_1 : decode cX5_init 1 = .ok (.invokespecial 3, 3) := by decide +kernel
theorem dX5_init_4 : decode cX5_init 4 = .ok (.aload_n 0, 1) := by decide +kernel
theorem dX5_init_5 : decode cX5_init 5 = .ok (.new 9, 3) := by decide +kernel
theorem dX5_init_8 : decode cX5_init 8 = .ok (.dup, 1) := by decide +kernel
theorem dX5_init_9 : decode cX5_init 9 = .ok (.bipush 60, 2) := by decide +kernel
theorem dX5_init_11 : decode cX5_init 11 = .ok (.invokespecial 11, 3) := by decide +kernel
theorem dX5_init_14 : decode cX5_init 14 = .ok (.putfield 14, 3) := by decide +kernel
theorem dX5_init_17 : decode cX5_init 17 = .ok (.aload_n 0, 1) := by decide +kernel
theorem dX5_init_18 : decode cX5_init 18 = .ok (.new 9, 3) := by decide +kernel
theorem dX5_init_21 : decode cX5_init 21 = .ok (.dup, 1) := by decide +kernel
theorem dX5_init_22 : decode cX5_init 22 = .ok (.bipush 60, 2) := by decide +kernel
theorem dX5_init_24 : decode cX5_init 24 = .ok (.invokespecial 11, 3) := by decide +kernel
theorem dX5_init_27 : decode cX5_init 27 = .ok (.putfield 20, 3) := by decide +kernel
theorem dX5_init_30 : decode cX5_init 30 = .ok (.aload_n 0, 1) := by decide +kernel
theorem dX5_init_31 : decode cX5_init 31 = .ok (.sipush 512, 3) := by decide +kernel
theorem dX5_init_34 : decode cX5_init 34 = .ok (.newarray .int, 2) := by decide +kernel
theorem dX5_init_36 : decode cX5_init 36 = .ok (.putfield 23, 3) := by decide +kernel
theorem dX5_init_39 : decode cX5_init 39 = .ok (.aload_n 0, 1) := by decide +kernel
theorem dX5_init_40 : decode cX5_init 40 = .ok (.sipush 512, 3) := by decide +kernel
theorem dX5_init_43 : decode cX5_init 43 = .ok (.newarray .int, 2) := by decide +kernel
theorem dX5_init_45 : decode cX5_init 45 = .ok (.putfield 27, 3) := by decide +kernel
theorem dX5_init_48 : decode cX5_init 48 = .ok (.aload_n 0, 1) := by decide +kernel
theorem dX5_init_49 : decode cX5_init 49 = .ok (.bipush 60, 2) := by decide +kernel
theorem dX5_init_51 : decode cX5_init 51 = .ok (.newarray .char, 2) := by decide +kernel
theorem dX5_init_53 : decode cX5_init 53 = .ok (.putfield 30, 3) := by decide +kernel
theorem dX5_init_56 : decode cX5_init 56 = .ok (.aload_n 0, 1) := by decide +kernel
theorem dX5_init_57 : decode cX5_init 57 = .ok (.iconst 0, 1) := by decide +kernel
theorem dX5_init_58 : decode cX5_init 58 = .ok (.putfield 34, 3) := by decide +kernel
theorem dX5_init_61 : decode cX5_init 61 = .ok (.return_, 1) := by decide +kernel
set_option maxRecDepth 20000 in
theorem ggX5_pullDown_X4_clear : GoodIn wsX5_pullDown wsX4_clear := goodIn_r _ [7, 8, 28, 29] (by decide +kernel) (by decide +kernel)
set_option maxRecDepth 20000 in
theorem gX5_pullDown_X4_clear : GoodIn wsX5_pullDown (wsV RX5 38 RX4 yX4_clear wsX4_clear) := goodIn_app (goodIn_of _ (by decide +kernel)) ggX5_pullDown_X4_clear
set_option maxRecDepth 20000 in
theorem ggX5_pullDown_X4_many : GoodIn wsX5_pullDown wsX4_many := goodIn_r _ [12, 8, 28, 29] (by decide +kernel) (by decide +kernel)
set_option maxRecDepth 20000 in
theorem gX5_pullDown_X4_many : GoodIn wsX5_pullDown (wsV RX5 41 RX4 yX4_many wsX4_many) := goodIn_app (goodIn_of _ (by decide +kernel)) ggX5_pullDown_X4_many
set_option maxRecDepth 20000 in
theorem ggX5_pullDown_X4_at : GoodIn wsX5_pullDown wsX4_at := goodIn_r _ [16, 8, 17, 28, 29] (by decide +kernel) (by decide +kernel)
set_option maxRecDepth 20000 in
theorem gX5_pullDown_X4_at : GoodIn wsX5_pullDown (wsV RX5 45 RX4 yX4_at wsX4_at) := goodIn_app (goodIn_of _ (by decide +kernel)) ggX5_pullDown_X4_at
set_option maxRecDepth 20000 in
theorem ggX5_pullDown_X4_add : GoodIn wsX5_pullDown wsX4_add := goodIn_r _ [21, 8, 17, 28, 29] (by decide +kernel) (by decide +kernel)
set_option maxRecDepth 20000 in
theorem gX5_pullDown_X4_add : GoodIn wsX5_pullDown (wsV RX5 49 RX4 yX4_add wsX4_add) := goodIn_app (goodIn_of _ (by decide +kernel)) ggX5_pullDown_X4_add
theorem dX5_pullDown_0 : decode cX5_pullDown 0 = .ok (.aload_n 0, 1) := by decide +kernel
theorem dX5_pullDown_1 : decode cX5_pullDown 1 = .ok (.getfield 14, 3) := by decide +kernel
theorem dX5_pullDown_4 : decode cX5_pullDown 4 = .ok (.invokevirtual 38, 3) := by decide +kernel
theorem dX5_pullDown_7 : decode cX5_pullDown 7 = .ok (.aload_n 0, 1) := by decide +kernel
theorem dX5_pullDown_8 : decode cX5_pullDown 8 = .ok (.iconst 0, 1) := by decide +kernel
theorem dX5_pullDown_9 : decode cX5_pullDown 9 = .ok (.putfield 34, 3) := by decide +kernel
theorem dX5_pullDown_12 : decode cX5_pullDown 12 = .ok (.iconst 0, 1) := by decide +kernel
theorem dX5_pullDown_13 : decode cX5_pullDown 13 = .ok (.istore_n 3, 1) := by decide +kernel
theorem dX5_pullDown_14 : decode cX5_pullDown 14 = .ok (.iload_n 3, 1) := by decide +kernel
theorem dX5_pullDown_15 : decode cX5_pullDown 15 = .ok (.aload_n 1, 1) := by decide +kernel
theorem dX5_pullDown_16 : decode cX5_pullDown 16 = .ok (.invokevirtual 41, 3) := by decide +kernel
theorem dX5_pullDown_19 : decode cX5_pullDown 19 = .ok (.if_icmp .ge 53, 3) := by decide +kernel
theorem dX5_pullDown_22 : decode cX5_pullDown 22 = .ok (.iload_n 3, 1) := by decide +kernel
theorem dX5_pullDown_23 : decode cX5_pullDown 23 = .ok (.iload_n 2, 1) := by decide +kernel
theorem dX5_pullDown_24 : decode cX5_pullDown 24 = .ok (.iadd, 1) := by decide +kernel
theorem dX5_pullDown_25 : decode cX5_pullDown 25 = .ok (.iconst 2, 1) := by decide +kernel
theorem dX5_pullDown_26 : decode cX5_pullDown 26 = .ok (.irem, 1) := by decide +kernel
theorem dX5_pullDown_27 : decode cX5_pullDown 27 = .ok (.ifCond .ne 7, 3) := by decide +kernel
theorem dX5_pullDown_30 : decode cX5_pullDown 30 = .ok (.iconst 2, 1) := by decide +kernel
theorem dX5_pullDown_31 : decode cX5_pullDown 31 = .ok (.goto 4, 3) := by decide +kernel
theorem dX5_pullDown_34 : decode cX5_pullDown 34 = .ok (.iconst 3, 1) := by decide +kernel
theorem dX5_pullDown_35 : decode cX5_pullDown 35 = .ok (.istore 4, 2) := by decide +kernel
theorem dX5_pullDown_37 : decode cX5_pullDown 37 = .ok (.iconst 0, 1) := by decide +kernel
theorem dX5_pullDown_38 : decode cX5_pullDown 38 = .ok (.istore 5, 2) := by decide +kernel
theorem dX5_pullDown_40 : decode cX5_pullDown 40 = .ok (.iload 5, 2) := by decide +kernel
theorem dX5_pullDown_42 : decode cX5_pullDown 42 = .ok (.iload 4, 2) := by decide +kernel
theorem dX5_pullDown_44 : decode cX5_pullDown 44 = .ok (.if_icmp .ge 22, 3) := by decide +kernel
theorem dX5_pullDown_47 : decode cX5_pullDown 47 = .ok (.aload_n 0, 1) := by decide +kernel
theorem dX5_pullDown_48 : decode cX5_pullDown 48 = .ok (.getfield 14, 3) := by decide +kernel
theorem dX5_pullDown_51 : decode cX5_pullDown 51 = .ok (.aload_n 1, 1) := by decide +kernel
theorem dX5_pullDown_52 : decode cX5_pullDown 52 = .ok (.iload_n 3, 1) := by decide +kernel
theorem dX5_pullDown_53 : decode cX5_pullDown 53 = .ok (.invokevirtual 45, 3) := by decide +kernel
theorem dX5_pullDown_56 : decode cX5_pullDown 56 = .ok (.invokevirtual 49, 3) := by decide +kernel
theorem dX5_pullDown_59 : decode cX5_pullDown 59 = .ok (.pop, 1) := by decide +kernel
theorem dX5_pullDown_60 : decode cX5_pullDown 60 = .ok (.iinc 5 1, 3) := by decide +kernel
theorem dX5_pullDown_63 : decode cX5_pullDown 63 = .ok (.goto (-23), 3) := by decide +kernel
theorem dX5_pullDown_66 : decode cX5_pullDown 66 = .ok (.iinc 3 1, 3) := by decide +kernel
theorem dX5_pullDown_69 : decode cX5_pullDown 69 = .ok (.goto (-55), 3) := by decide +kernel
theorem dX5_pullDown_72 : decode cX5_pullDown 72 = .ok (.return_, 1) := by decide +kernel
set_option maxRecDepth 20000 in
theorem ggX5_cutOut_X4_remove : GoodIn wsX5_cutOut wsX4_remove := goodIn_r _ [7, 8, 9, 10, 11, 12, 6, 13, 20, 21] (by decide +kernel) (by decide +kernel)
set_option maxRecDepth 20000 in
theorem gX5_cutOut_X4_remove : GoodIn wsX5_cutOut (wsV RX5 52 RX4 yX4_remove wsX4_remove) := goodIn_app (goodIn_of _ (by decide +kernel)) ggX5_cutOut_X4_remove
theorem dX5_cutOut_0 : decode cX5_cutOut 0 = .ok (.aload_n 0, 1) := by decide +kernel
theorem dX5_cutOut_1 : decode cX5_cutOut 1 = .ok (.getfield 14, 3) := by decide +kernel
theorem dX5_cutOut_4 : decode cX5_cutOut 4 = .ok (.iload_n 1, 1) := by decide +kernel
theorem dX5_cutOut_5 : decode cX5_cutOut 5 = .ok (.iload_n 2, 1) := by decide +kernel
theorem dX5_cutOut_6 : decode cX5_cutOut 6 = .ok (.invokevirtual 52, 3) := by decide +kernel
theorem dX5_cutOut_9 : decode cX5_cutOut 9 = .ok (.aload_n 0, 1) := by decide +kernel
theorem dX5_cutOut_10 : decode cX5_cutOut 10 = .ok (.iconst 0, 1) := by decide +kernel
theorem dX5_cutOut_11 : decode cX5_cutOut 11 = .ok (.putfield 34, 3) := by decide +kernel
theorem dX5_cutOut_14 : decode cX5_cutOut 14 = .ok (.return_, 1) := by decide +kernel
set_option maxRecDepth 20000 in
theorem ggX5_note_X4_at : GoodIn wsX5_note wsX4_at := goodIn_r _ [9, 10, 11, 26, 27] (by decide +kernel) (by decide +kernel)
set_option maxRecDepth 20000 in
theorem gX5_note_X4_at : GoodIn wsX5_note (wsV RX5 45 RX4 yX4_at wsX4_at) := goodIn_app (goodIn_of _ (by decide +kernel)) ggX5_note_X4_at
set_option maxRecDepth 20000 in
theorem ggX5_note_X4_put : GoodIn wsX5_note wsX4_put := goodIn_r _ [15, 11, 16, 17, 18, 8, 19, 10, 26, 27] (by decide +kernel) (by decide +kernel)
set_option maxRecDepth 20000 in
theorem gX5_note_X4_put : GoodIn wsX5_note (wsV RX5 56 RX4 yX4_put wsX4_put) := goodIn_app (goodIn_of _ (by decide +kernel)) ggX5_note_X4_put
theorem dX5_note_0 : decode cX5_note 0 = .ok (.aload_n 0, 1) := by decide +kernel
theorem dX5_note_1 : decode cX5_note 1 = .ok (.getfield 34, 3) := by decide +kernel
theorem dX5_note_4 : decode cX5_note 4 = .ok (.sipush 512, 3) := by decide +kernel
theorem dX5_note_7 : decode cX5_note 7 = .ok (.if_icmp .ge 40, 3) := by decide +kernel
theorem dX5_note_10 : decode cX5_note 10 = .ok (.aload_n 0, 1) := by decide +kernel
theorem dX5_note_11 : decode cX5_note 11 = .ok (.getfield 23, 3) := by decide +kernel
theorem dX5_note_14 : decode cX5_note 14 = .ok (.aload_n 0, 1) := by decide +kernel
theorem dX5_note_15 : decode cX5_note 15 = .ok (.getfield 34, 3) := by decide +kernel
theorem dX5_note_18 : decode cX5_note 18 = .ok (.iload_n 1, 1) := by decide +kernel
theorem dX5_note_19 : decode cX5_note 19 = .ok (.iastore, 1) := by decide +kernel
theorem dX5_note_20 : decode cX5_note 20 = .ok (.aload_n 0, 1) := by decide +kernel
theorem dX5_note_21 : decode cX5_note 21 = .ok (.getfield 27, 3) := by decide +kernel
theorem dX5_note_24 : decode cX5_note 24 = .ok (.aload_n 0, 1) := by decide +kernel
theorem dX5_note_25 : decode cX5_note 25 = .ok (.getfield 34, 3) := by decide +kernel
theorem dX5_note_28 : decode cX5_note 28 = .ok (.aload_n 0, 1) := by decide +kernel
theorem dX5_note_29 : decode cX5_note 29 = .ok (.getfield 14, 3) := by decide +kernel
theorem dX5_note_32 : decode cX5_note 32 = .ok (.iload_n 1, 1) := by decide +kernel
theorem dX5_note_33 : decode cX5_note 33 = .ok (.invokevirtual 45, 3) := by decide +kernel
theorem dX5_note_36 : decode cX5_note 36 = .ok (.iastore, 1) := by decide +kernel
theorem dX5_note_37 : decode cX5_note 37 = .ok (.aload_n 0, 1) := by decide +kernel
theorem dX5_note_38 : decode cX5_note 38 = .ok (.dup, 1) := by decide +kernel
theorem dX5_note_39 : decode cX5_note 39 = .ok (.getfield 34, 3) := by decide +kernel
theorem dX5_note_42 : decode cX5_note 42 = .ok (.iconst 1, 1) := by decide +kernel
theorem dX5_note_43 : decode cX5_note 43 = .ok (.iadd, 1) := by decide +kernel
theorem dX5_note_44 : decode cX5_note 44 = .ok (.putfield 34, 3) := by decide +kernel
theorem dX5_note_47 : decode cX5_note 47 = .ok (.aload_n 0, 1) := by decide +kernel
theorem dX5_note_48 : decode cX5_note 48 = .ok (.getfield 14, 3) := by decide +kernel
theorem dX5_note_51 : decode cX5_note 51 = .ok (.iload_n 1, 1) := by decide +kernel
theorem dX5_note_52 : decode cX5_note 52 = .ok (.iload_n 2, 1) := by decide +kernel
theorem dX5_note_53 : decode cX5_note 53 = .ok (.invokevirtual 56, 3) := by decide +kernel
theorem dX5_note_56 : decode cX5_note 56 = .ok (.return_, 1) := by decide +kernel
set_option maxRecDepth 20000 in
theorem ggX5_takeBack_X4_put : GoodIn wsX5_takeBack wsX4_put := goodIn_r _ [9, 10, 11, 12, 13, 8, 14, 15, 22, 23] (by decide +kernel) (by decide +kernel)
set_option maxRecDepth 20000 in
theorem gX5_takeBack_X4_put : GoodIn wsX5_takeBack (wsV RX5 56 RX4 yX4_put wsX4_put) := goodIn_app (goodIn_of _ (by decide +kernel)) ggX5_takeBack_X4_put
theorem dX5_takeBack_0 : decode cX5_takeBack 0 = .ok (.aload_n 0, 1) := by decide +kernel
theorem dX5_takeBack_1 : decode cX5_takeBack 1 = .ok (.getfield 34, 3) := by decide +kernel
theorem dX5_takeBack_4 : decode cX5_takeBack 4 = .ok (.ifCond .gt 5, 3) := by decide +kernel
theorem dX5_takeBack_7 : decode cX5_takeBack 7 = .ok (.iconst (-1), 1) := by decide +kernel
theorem dX5_takeBack_8 : decode cX5_takeBack 8 = .ok (.ireturn, 1) := by decide +kernel
theorem dX5_takeBack_9 : decode cX5_takeBack 9 = .ok (.aload_n 0, 1) := by decide +kernel
theorem dX5_takeBack_10 : decode cX5_takeBack 10 = .ok (.dup, 1) := by decide +kernel
theorem dX5_takeBack_11 : decode cX5_takeBack 11 = .ok (.getfield 34, 3) := by decide +kernel
theorem dX5_takeBack_14 : decode cX5_takeBack 14 = .ok (.iconst 1, 1) := by decide +kernel
theorem dX5_takeBack_15 : decode cX5_takeBack 15 = .ok (.isub, 1) := by decide +kernel
theorem dX5_takeBack_16 : decode cX5_takeBack 16 = .ok (.putfield 34, 3) := by decide +kernel
theorem dX5_takeBack_19 : decode cX5_takeBack 19 = .ok (.aload_n 0, 1) := by decide +kernel
theorem dX5_takeBack_20 : decode cX5_takeBack 20 = .ok (.getfield 23, 3) := by decide +kernel
theorem dX5_takeBack_23 : decode cX5_takeBack 23 = .ok (.aload_n 0, 1) := by decide +kernel
theorem dX5_takeBack_24 : decode cX5_takeBack 24 = .ok (.getfield 34, 3) := by decide +kernel
theorem dX5_takeBack_27 : decode cX5_takeBack 27 = .ok (.iaload, 1) := by decide +kernel
theorem dX5_takeBack_28 : decode cX5_takeBack 28 = .ok (.istore_n 1, 1) := by decide +kernel
theorem dX5_takeBack_29 : decode cX5_takeBack 29 = .ok (.aload_n 0, 1) := by decide +kernel
theorem dX5_takeBack_30 : decode cX5_takeBack 30 = .ok (.getfield 14, 3) := by decide +kernel
theorem dX5_takeBack_33 : decode cX5_takeBack 33 = .ok (.iload_n 1, 1) := by decide +kernel
theorem dX5_takeBack_34 : decode cX5_takeBack 34 = .ok (.aload_n 0, 1) := by decide +kernel
theorem dX5_takeBack_35 : decode cX5_takeBack 35 = .ok (.getfield 27, 3) := by decide +kernel
theorem dX5_takeBack_38 : decode cX5_takeBack 38 = .ok (.aload_n 0, 1) := by decide +kernel
theorem dX5_takeBack_39 : decode cX5_takeBack 39 = .ok (.getfield 34, 3) := by decide +kernel
theorem dX5_takeBack_42 : decode cX5_takeBack 42 = .ok (.iaload, 1) := by decide +kernel
theorem dX5_takeBack_43 : decode cX5_takeBack 43 = .ok (.invokevirtual 56, 3) := by decide +kernel
theorem dX5_takeBack_46 : decode cX5_takeBack 46 = .ok (.iload_n 1, 1) := by decide +kernel
theorem dX5_takeBack_47 : decode cX5_takeBack 47 = .ok (.ireturn, 1) := by decide +kernel
theorem dX5_isNoted_0 : decode cX5_isNoted 0 = .ok (.iconst 0, 1) := by decide +kernel
theorem dX5_isNoted_1 : decode cX5_isNoted 1 = .ok (.istore_n 2, 1) := by decide +kernel
theorem dX5_isNoted_2 : decode cX5_isNoted 2 = .ok (.iload_n 2, 1) := by decide +kernel
theorem dX5_isNoted_3 : decode cX5_isNoted 3 = .ok (.aload_n 0, 1) := by decide +kernel
theorem dX5_isNoted_4 : decode cX5_isNoted 4 = .ok (.getfield 34, 3) := by decide +kernel
theorem dX5_isNoted_7 : decode cX5_isNoted 7 = .ok (.if_icmp .ge 21, 3) := by decide +kernel
theorem dX5_isNoted_10 : decode cX5_isNoted 10 = .ok (.aload_n 0, 1) := by decide +kernel
theorem dX5_isNoted_11 : decode cX5_isNoted 11 = .ok (.getfield 23, 3) := by decide +kernel
theorem dX5_isNoted_14 : decode cX5_isNoted 14 = .ok (.iload_n 2, 1) := by decide +kernel
theorem dX5_isNoted_15 : decode cX5_isNoted 15 = .ok (.iaload, 1) := by decide +kernel
theorem dX5_isNoted_16 : decode cX5_isNoted 16 = .ok (.iload_n 1, 1) := by decide +kernel
theorem dX5_isNoted_17 : decode cX5_isNoted 17 = .ok (.if_icmp .ne 5, 3) := by decide +kernel
theorem dX5_isNoted_20 : decode cX5_isNoted 20 = .ok (.iconst 1, 1) := by decide +kernel
theorem dX5_isNoted_21 : decode cX5_isNoted 21 = .ok (.ireturn, 1) := by decide +kernel
theorem dX5_isNoted_22 : decode cX5_isNoted 22 = .ok (.iinc 2 1, 3) := by decide +kernel
theorem dX5_isNoted_25 : decode cX5_isNoted 25 = .ok (.goto (-23), 3) := by decide +kernel
theorem dX5_isNoted_28 : decode cX5_isNoted 28 = .ok (.iconst 0, 1) := by decide +kernel
theorem dX5_isNoted_29 : decode cX5_isNoted 29 = .ok (.ireturn, 1) := by decide +kernel
set_option maxRecDepth 20000 in
theorem ggX5_nameLooks_X4_many : GoodIn wsX5_nameLooks wsX4_many := goodIn_r _ [7, 8, 25, 26] (by decide +kernel) (by decide +kernel)
set_option maxRecDepth 20000 in
theorem gX5_nameLooks_X4_many : GoodIn wsX5_nameLooks (wsV RX5 41 RX4 yX4_many wsX4_many) := goodIn_app (goodIn_of _ (by decide +kernel)) ggX5_nameLooks_X4_many
set_option maxRecDepth 20000 in
theorem ggX5_nameLooks_X5_firstLike : GoodIn wsX5_nameLooks wsX5_firstLike := goodIn_r _ [13, 1, 14, 15, 16, 6, 17, 8, 18, 19, 20, 21, 22, 23, 24, 25, 26] (by decide +kernel) (by decide +kernel)
set_option maxRecDepth 20000 in
theorem gX5_nameLooks_X5_firstLike : GoodIn wsX5_nameLooks (wsV RX5 59 RX5 yX5_firstLike wsX5_firstLike) := goodIn_app (goodIn_of _ (by decide +kernel)) ggX5_nameLooks_X5_firstLike
theorem dX5_nameLooks_0 : decode cX5_nameLooks 0 = .ok (.iconst 0, 1) := by decide +kernel
theorem dX5_nameLooks_1 : decode cX5_nameLooks 1 = .ok (.istore_n 1, 1) := by decide +kernel
theorem dX5_nameLooks_2 : decode cX5_nameLooks 2 = .ok (.iconst 0, 1) := by decide +kernel
theorem dX5_nameLooks_3 : decode cX5_nameLooks 3 = .ok (.istore_n 2, 1) := by decide +kernel
theorem dX5_nameLooks_4 : decode cX5_nameLooks 4 = .ok (.iload_n 2, 1) := by decide +kernel
theorem dX5_nameLooks_5 : decode cX5_nameLooks 5 = .ok (.aload_n 0, 1) := by decide +kernel
theorem dX5_nameLooks_6 : decode cX5_nameLooks 6 = .ok (.getfield 14, 3) := by decide +kernel
theorem dX5_nameLooks_9 : decode cX5_nameLooks 9 = .ok (.invokevirtual 41, 3) := by decide +kernel
theorem dX5_nameLooks_12 : decode cX5_nameLooks 12 = .ok (.if_icmp .ge 60, 3) := by decide +kernel
theorem dX5_nameLooks_15 : decode cX5_nameLooks 15 = .ok (.aload_n 0, 1) := by decide +kernel
theorem dX5_nameLooks_16 : decode cX5_nameLooks 16 = .ok (.iload_n 2, 1) := by decide +kernel
theorem dX5_nameLooks_17 : decode cX5_nameLooks 17 = .ok (.invokevirtual 59, 3) := by decide +kernel
theorem dX5_nameLooks_20 : decode cX5_nameLooks 20 = .ok (.istore_n 3, 1) := by decide +kernel
theorem dX5_nameLooks_21 : decode cX5_nameLooks 21 = .ok (.iload_n 3, 1) := by decide +kernel
theorem dX5_nameLooks_22 : decode cX5_nameLooks 22 = .ok (.iload_n 2, 1) := by decide +kernel
theorem dX5_nameLooks_23 : decode cX5_nameLooks 23 = .ok (.if_icmp .ge 18, 3) := by decide +kernel
theorem dX5_nameLooks_26 : decode cX5_nameLooks 26 = .ok (.aload_n 0, 1) := by decide +kernel
theorem dX5_nameLooks_27 : decode cX5_nameLooks 27 = .ok (.getfield 30, 3) := by decide +kernel
theorem dX5_nameLooks_30 : decode cX5_nameLooks 30 = .ok (.iload_n 2, 1) := by decide +kernel
theorem dX5_nameLooks_31 : decode cX5_nameLooks 31 = .ok (.aload_n 0, 1) := by decide +kernel
theorem dX5_nameLooks_32 : decode cX5_nameLooks 32 = .ok (.getfield 30, 3) := by decide +kernel
theorem dX5_nameLooks_35 : decode cX5_nameLooks 35 = .ok (.iload_n 3, 1) := by decide +kernel
theorem dX5_nameLooks_36 : decode cX5_nameLooks 36 = .ok (.caload, 1) := by decide +kernel
theorem dX5_nameLooks_37 : decode cX5_nameLooks 37 = .ok (.castore, 1) := by decide +kernel
theorem dX5_nameLooks_38 : decode cX5_nameLooks 38 = .ok (.goto 28, 3) := by decide +kernel
theorem dX5_nameLooks_41 : decode cX5_nameLooks 41 = .ok (.aload_n 0, 1) := by decide +kernel
theorem dX5_nameLooks_42 : decode cX5_nameLooks 42 = .ok (.getfield 30, 3) := by decide +kernel
theorem dX5_nameLooks_45 : decode cX5_nameLooks 45 = .ok (.iload_n 2, 1) := by decide +kernel
theorem dX5_nameLooks_46 : decode cX5_nameLooks 46 = .ok (.iload_n 1, 1) := by decide +kernel
theorem dX5_nameLooks_47 : decode cX5_nameLooks 47 = .ok (.bipush 26, 2) := by decide +kernel
theorem dX5_nameLooks_49 : decode cX5_nameLooks 49 = .ok (.if_icmp .ge 11, 3) := by decide +kernel
theorem dX5_nameLooks_52 : decode cX5_nameLooks 52 = .ok (.bipush 97, 2) := by decide +kernel
theorem dX5_nameLooks_54 : decode cX5_nameLooks 54 = .ok (.iload_n 1, 1) := by decide +kernel
theorem dX5_nameLooks_55 : decode cX5_nameLooks 55 = .ok (.iadd, 1) := by decide +kernel
theorem dX5_nameLooks_56 : decode cX5_nameLooks 56 = .ok (.i2c, 1) := by decide +kernel
theorem dX5_nameLooks_57 : decode cX5_nameLooks 57 = .ok (.goto 5, 3) := by decide +kernel
theorem dX5_nameLooks_60 : decode cX5_nameLooks 60 = .ok (.bipush 63, 2) := by decide +kernel
theorem dX5_nameLooks_62 : decode cX5_nameLooks 62 = .ok (.castore, 1) := by decide +kernel
theorem dX5_nameLooks_63 : decode cX5_nameLooks 63 = .ok (.iinc 1 1, 3) := by decide +kernel
theorem dX5_nameLooks_66 : decode cX5_nameLooks 66 = .ok (.iinc 2 1, 3) := by decide +kernel
theorem dX5_nameLooks_69 : decode cX5_nameLooks 69 = .ok (.goto (-65), 3) := by decide +kernel
theorem dX5_nameLooks_72 : decode cX5_nameLooks 72 = .ok (.aload_n 0, 1) := by decide +kernel
theorem dX5_nameLooks_73 : decode cX5_nameLooks 73 = .ok (.getfield 14, 3) := by decide +kernel
theorem dX5_nameLooks_76 : decode cX5_nameLooks 76 = .ok (.invokevirtual 41, 3) := by decide +kernel
theorem dX5_nameLooks_79 : decode cX5_nameLooks 79 = .ok (.ireturn, 1) := by decide +kernel
set_option maxRecDepth 20000 in
theorem ggX5_firstLike_X4_at : GoodIn wsX5_firstLike wsX4_at := goodIn_r _ [6, 7, 8, 15, 16] (by decide +kernel) (by decide +kernel)
set_option maxRecDepth 20000 in
theorem gX5_firstLike_X4_at : GoodIn wsX5_firstLike (wsV RX5 45 RX4 yX4_at wsX4_at) := goodIn_app (goodIn_of _ (by decide +kernel)) ggX5_firstLike_X4_at
theorem dX5_firstLike_0 : decode cX5_firstLike 0 = .ok (.iconst 0, 1) := by decide +kernel
theorem dX5_firstLike_1 : decode cX5_firstLike 1 = .ok (.istore_n 2, 1) := by decide +kernel
theorem dX5_firstLike_2 : decode cX5_firstLike 2 = .ok (.iload_n 2, 1) := by decide +kernel
theorem dX5_firstLike_3 : decode cX5_firstLike 3 = .ok (.iload_n 1, 1) := by decide +kernel
theorem dX5_firstLike_4 : decode cX5_firstLike 4 = .ok (.if_icmp .ge 28, 3) := by decide +kernel
theorem dX5_firstLike_7 : decode cX5_firstLike 7 = .ok (.aload_n 0, 1) := by decide +kernel
theorem dX5_firstLike_8 : decode cX5_firstLike 8 = .ok (.getfield 14, 3) := by decide +kernel
theorem dX5_firstLike_11 : decode cX5_firstLike 11 = .ok (.iload_n 2, 1) := by decide +kernel
theorem dX5_firstLike_12 : decode cX5_firstLike 12 = .ok (.invokevirtual 45, 3) := by decide +kernel
theorem dX5_firstLike_15 : decode cX5_firstLike 15 = .ok (.aload_n 0, 1) := by decide +kernel
theorem dX5_firstLike_16 : decode cX5_firstLike 16 = .ok (.getfield 14, 3) := by decide +kernel
theorem dX5_firstLike_19 : decode cX5_firstLike 19 = .ok (.iload_n 1, 1) := by decide +kernel
theorem dX5_firstLike_20 : decode cX5_firstLike 20 = .ok (.invokevirtual 45, 3) := by decide +kernel
theorem dX5_firstLike_23 : decode cX5_firstLike 23 = .ok (.if_icmp .eq 9, 3) := by decide +kernel
theorem dX5_firstLike_26 : decode cX5_firstLike 26 = .ok (.iinc 2 1, 3) := by decide +kernel
theorem dX5_firstLike_29 : decode cX5_firstLike 29 = .ok (.goto (-27), 3) := by decide +kernel
theorem dX5_firstLike_32 : decode cX5_firstLike 32 = .ok (.iload_n 2, 1) := by decide +kernel
theorem dX5_firstLike_33 : decode cX5_firstLike 33 = .ok (.ireturn, 1) := by decide +kernel
end
section
set_option maxRecDepth 20000 in
theorem ggX6_init_X4_init : GoodIn wsX6_init wsX4_init := goodIn_r _ [28, 29, 2, 3, 30, 31, 32, 33, 34, 35, 36, 81, 82] (by decide +kernel) (by decide +kernel)
set_option maxRecDepth 20000 in
theorem gX6_init_X4_init : GoodIn wsX6_init (wsX4_init) := ggX6_init_X4_init
set_option maxRecDepth 20000 in
theorem ggX6_init_X5_init : GoodIn wsX6_init wsX5_init := goodIn_r _ [39, 40, 2, 3, 41, 5, 6, 42, 43, 34, 44, 45, 46, 47, 48, 49, 27, 28, 29, 30, 31, 32, 33, 35, 36, 81, 82, 90, 91, 92, 93, 94, 95] (by decide +kernel) (by decide +kernel)
set_option maxRecDepth 20000 in
theorem gX6_init_X5_init : GoodIn wsX6_init (wsX5_init) := ggX6_init_X5_init
set_option maxRecDepth 20000 in
theorem ggX6_init_X3_init : GoodIn wsX6_init wsX3_init := goodIn_r _ [52, 53, 2, 3, 34, 54, 55, 56, 57, 58, 59, 60, 61, 62, 96, 97, 98, 99, 100, 101, 102, 103, 104] (by decide +kernel) (by decide +kernel)
set_option maxRecDepth 20000 in
theorem gX6_init_X3_init : GoodIn wsX6_init (wsX3_init) := ggX6_init_X3_init
set_option maxRecDepth 20000 in
theorem ggX6_init_X2_init : GoodIn wsX6_init wsX2_init := goodIn_r _ [65, 66, 2, 3, 67, 68, 5, 6, 34, 69, 46, 70, 71, 72, 27, 28, 29, 30, 31, 32, 33, 35, 36, 105, 106, 107, 108, 81, 82] (by decide +kernel) (by decide +kernel)
set_option maxRecDepth 20000 in
theorem gX6_init_X2_init : GoodIn wsX6_init (wsX2_init) := ggX6_init_X2_init
set_option maxRecDepth 20000 in
theorem ggX6_init_X0_init : GoodIn wsX6_init wsX0_init := goodIn_r _ [75, 76, 2, 3, 77, 5, 6, 78, 79, 80, 27, 28, 29, 30, 31, 32, 33, 34, 35, 36, 81, 82, 109, 110] (by decide +kernel) (by decide +kernel)
set_option maxRecDepth 20000 in
theorem gX6_init_X0_init : GoodIn wsX6_init (wsX0_init) := ggX6_init_X0_init
theorem dX6_init_0 : decode cX6_init 0 = .ok (.aload_n 0, 1) := by decide +kernel
theorem dX6_init_1 : decode cX6_init 1 = .ok (.invokespecial 1, 3) := by decide +kernel
theorem dX6_init_4 : decode cX6_init 4 = .ok (.aload_n 0, 1) := by decide +kernel
theorem dX6_init_5 : decode cX6_init 5 = .ok (.new 7, 3) := by decide +kernel
theorem dX6_init_8 : decode cX6_init 8 = .ok (.dup, 1) := by decide +kernel
theorem dX6_init_9 : decode cX6_init 9 = .ok (.bipush 24, 2) := by decide +kernel
theorem dX6_init_11 : decode cX6_init 11 = .ok (.invokespecial 11, 3) := by decide +kernel
theorem dX6_init_14 : decode cX6_init 14 = .ok (.putfield 14, 3) := by decide +kernel
theorem dX6_init_17 : decode cX6_init 17 = .ok (.aload_n 0, 1) := by decide +kernel
theorem dX6_init_18 : decode cX6_init 18 = .ok (.new 18, 3) := by decide +kernel
theorem dX6_init_21 : decode cX6_init 21 = .ok (.dup, 1) := by decide +kernel
theorem dX6_init_22 : decode cX6_init 22 = .ok (.invokespecial 20, 3) := by decide +kernel
theorem dX6_init_25 : decode cX6_init 25 = .ok (.putfield 21, 3) := by decide +kernel
theorem dX6_init_28 : decode cX6_init 28 = .ok (.aload_n 0, 1) := by decide +kernel
theorem dX6_init_29 : decode cX6_init 29 = .ok (.new 25, 3) := by decide +kernel
theorem dX6_init_32 : decode cX6_init 32 = .ok (.dup, 1) := by decide +kernel
theorem dX6_init_33 : decode cX6_init 33 = .ok (.invokespecial 27, 3) := by decide +kernel
theorem dX6_init_36 : decode cX6_init 36 = .ok (.putfield 28, 3) := by decide +kernel
theorem dX6_init_39 : decode cX6_init 39 = .ok (.aload_n 0, 1) := by decide +kernel
theorem dX6_init_40 : decode cX6_init 40 = .ok (.new 32, 3) := by decide +kernel
theorem dX6_init_43 : decode cX6_init 43 = .ok (.dup, 1) := by decide +kernel
theorem dX6_init_44 : decode cX6_init 44 = .ok (.invokespecial 34, 3) := by decide +kernel
theorem dX6_init_47 : decode cX6_init 47 = .ok (.putfield 35, 3) := by decide +kernel
theorem dX6_init_50 : decode cX6_init 50 = .ok (.aload_n 0, 1) := by decide +kernel
theorem dX6_init_51 : decode cX6_init 51 = .ok (.new 39, 3) := by decide +kernel
theorem dX6_init_54 : decode cX6_init 54 = .ok (.dup, 1) := by decide +kernel
theorem dX6_init_55 : decode cX6_init 55 = .ok (.invokespecial 41, 3) := by decide +kernel
theorem dX6_init_58 : decode cX6_init 58 = .ok (.putfield 42, 3) := by decide +kernel
theorem dX6_init_61 : decode cX6_init 61 = .ok (.aload_n 0, 1) := by decide +kernel
theorem dX6_init_62 : decode cX6_init 62 = .ok (.bipush 6, 2) := by decide +kernel
theorem dX6_init_64 : decode cX6_init 64 = .ok (.putfield 46, 3) := by decide +kernel
theorem dX6_init_67 : decode cX6_init 67 = .ok (.aload_n 0, 1) := by decide +kernel
theorem dX6_init_68 : decode cX6_init 68 = .ok (.iconst 0, 1) := by decide +kernel
theorem dX6_init_69 : decode cX6_init 69 = .ok (.putfield 50, 3) := by decide +kernel
theorem dX6_init_72 : decode cX6_init 72 = .ok (.return_, 1) := by decide +kernel
set_option maxRecDepth 20000 in
theorem ggX6_frame_X6_requireLook : GoodIn wsX6_frame wsX6_requireLook := goodIn_ca (goodIn_r _ [7, 8, 9] (by decide +kernel) (by decide +kernel)) (goodIn_sub (fun _ h => List.mem_cons_of_mem _ (List.mem_append_right _ h)) (by decide +kernel))
set_option maxRecDepth 20000 in
theorem gX6_frame_X6_requireLook : GoodIn wsX6_frame (va_wsS RX6 53 yX6_requireLook wsX6_requireLook) := goodIn_app (goodIn_of _ (by decide +kernel)) ggX6_frame_X6_requireLook
set_option maxRecDepth 20000 in
theorem ggX6_frame_X4_add : GoodIn wsX6_frame wsX4_add := goodIn_r _ [14, 15, 16, 24, 25] (by decide +kernel) (by decide +kernel)
set_option maxRecDepth 20000 in
theorem gX6_frame_X4_add : GoodIn wsX6_frame (wsV RX6 56 RX4 yX4_add wsX4_add) := goodIn_app (goodIn_of _ (by decide +kernel)) ggX6_frame_X4_add
theorem dX6_frame_0 : decode cX6_frame 0 = .ok (.iload_n 1, 1) := by decide +kernel
theorem dX6_frame_1 : decode cX6_frame 1 = .ok (.invokestatic 53, 3) := by decide +kernel
theorem dX6_frame_4 : decode cX6_frame 4 = .ok (.aload_n 0, 1) := by decide +kernel
theorem dX6_frame_5 : decode cX6_frame 5 = .ok (.getfield 14, 3) := by decide +kernel
theorem dX6_frame_8 : decode cX6_frame 8 = .ok (.iload_n 1, 1) := by decide +kernel
theorem dX6_frame_9 : decode cX6_frame 9 = .ok (.invokevirtual 56, 3) := by decide +kernel
theorem dX6_frame_12 : decode cX6_frame 12 = .ok (.istore_n 2, 1) := by decide +kernel
theorem dX6_frame_13 : decode cX6_frame 13 = .ok (.iload_n 2, 1) := by decide +kernel
theorem dX6_frame_14 : decode cX6_frame 14 = .ok (.iconst (-1), 1) := by decide +kernel
theorem dX6_frame_15 : decode cX6_frame 15 = .ok (.if_icmp .ne 13, 3) := by decide +kernel
theorem dX6_frame_18 : decode cX6_frame 18 = .ok (.new 60, 3) := by decide +kernel
theorem dX6_frame_21 : decode cX6_frame 21 = .ok (.dup, 1) := by decide +kernel
theorem dX6_frame_22 : decode cX6_frame 22 = .ok (.ldc 62, 2) := by decide +kernel
theorem dX6_frame_24 : decode cX6_frame 24 = .ok (.invokespecial 64, 3) := by decide +kernel
theorem dX6_frame_27 : decode cX6_frame 27 = .ok (.athrow, 1) := by decide +kernel
theorem dX6_frame_28 : decode cX6_frame 28 = .ok (.iload_n 2, 1) := by decide +kernel
theorem dX6_frame_29 : decode cX6_frame 29 = .ok (.ireturn, 1) := by decide +kernel
set_option maxRecDepth 20000 in
theorem ggX6_pull_X5_pullDown : GoodIn wsX6_pull wsX5_pullDown := goodIn_r _ [10, 11, 12, 13, 14, 15, 16, 17, 18, 19, 20, 21, 22, 23, 24, 25, 26, 27, 28, 29, 30, 31, 46, 47, 48, 49, 50, 51, 52, 53] (by decide +kernel) (by decide +kernel)
set_option maxRecDepth 20000 in
theorem gX6_pull_X5_pullDown : GoodIn wsX6_pull (wsV RX6 72 RX5 yX5_pullDown wsX5_pullDown) := goodIn_app (goodIn_of _ (by decide +kernel)) ggX6_pull_X5_pullDown
set_option maxRecDepth 20000 in
theorem ggX6_pull_X3_forget : GoodIn wsX6_pull wsX3_forget := goodIn_r _ [36, 37, 54, 55, 56, 57, 58, 59, 60, 61, 62] (by decide +kernel) (by decide +kernel)
set_option maxRecDepth 20000 in
theorem gX6_pull_X3_forget : GoodIn wsX6_pull (wsV RX6 76 RX3 yX3_forget wsX3_forget) := goodIn_app (goodIn_of _ (by decide +kernel)) ggX6_pull_X3_forget
set_option maxRecDepth 20000 in
theorem ggX6_pull_X4_many : GoodIn wsX6_pull wsX4_many := goodIn_r _ [22, 18, 52, 53] (by decide +kernel) (by decide +kernel)
set_option maxRecDepth 20000 in
theorem gX6_pull_X4_many : GoodIn wsX6_pull (wsV RX6 82 RX4 yX4_many wsX4_many) := goodIn_app (goodIn_of _ (by decide +kernel)) ggX6_pull_X4_many
theorem dX6_pull_0 : decode cX6_pull 0 = .ok (.iload_n 1, 1) := by decide +kernel
theorem dX6_pull_1 : decode cX6_pull 1 = .ok (.ifCond .eq 18, 3) := by decide +kernel
theorem dX6_pull_4 : decode cX6_pull 4 = .ok (.iload_n 1, 1) := by decide +kernel
theorem dX6_pull_5 : decode cX6_pull 5 = .ok (.iconst 1, 1) := by decide +kernel
theorem dX6_pull_6 : decode cX6_pull 6 = .ok (.if_icmp .eq 13, 3) := by decide +kernel
theorem dX6_pull_9 : decode cX6_pull 9 = .ok (.new 67, 3) := by decide +kernel
theorem dX6_pull_12 : decode cX6_pull 12 = .ok (.dup, 1) := by decide +kernel
theorem dX6_pull_13 : decode cX6_pull 13 = .ok (.ldc 69, 2) := by decide +kernel
theorem dX6_pull_15 : decode cX6_pull 15 = .ok (.invokespecial 71, 3) := by decide +kernel
theorem dX6_pull_18 : decode cX6_pull 18 = .ok (.athrow, 1) := by decide +kernel
theorem dX6_pull_19 : decode cX6_pull 19 = .ok (.aload_n 0, 1) := by decide +kernel
theorem dX6_pull_20 : decode cX6_pull 20 = .ok (.getfield 21, 3) := by decide +kernel
theorem dX6_pull_23 : decode cX6_pull 23 = .ok (.aload_n 0, 1) := by decide +kernel
theorem dX6_pull_24 : decode cX6_pull 24 = .ok (.getfield 14, 3) := by decide +kernel
theorem dX6_pull_27 : decode cX6_pull 27 = .ok (.iload_n 1, 1) := by decide +kernel
theorem dX6_pull_28 : decode cX6_pull 28 = .ok (.invokevirtual 72, 3) := by decide +kernel
theorem dX6_pull_31 : decode cX6_pull 31 = .ok (.aload_n 0, 1) := by decide +kernel
theorem dX6_pull_32 : decode cX6_pull 32 = .ok (.getfield 28, 3) := by decide +kernel
theorem dX6_pull_35 : decode cX6_pull 35 = .ok (.invokevirtual 76, 3) := by decide +kernel
theorem dX6_pull_38 : decode cX6_pull 38 = .ok (.aload_n 0, 1) := by decide +kernel
theorem dX6_pull_39 : decode cX6_pull 39 = .ok (.getfield 21, 3) := by decide +kernel
theorem dX6_pull_42 : decode cX6_pull 42 = .ok (.getfield 79, 3) := by decide +kernel
theorem dX6_pull_45 : decode cX6_pull 45 = .ok (.invokevirtual 82, 3) := by decide +kernel
theorem dX6_pull_48 : decode cX6_pull 48 = .ok (.ireturn, 1) := by decide +kernel
set_option maxRecDepth 20000 in
theorem ggX6_cut_X6_requireField : GoodIn wsX6_cut wsX6_requireField := goodIn_ca (goodIn_r _ [9, 10, 11, 3, 12, 13, 14, 15, 16, 17, 41, 42, 43, 44, 45, 46, 47, 48, 49, 50, 51, 52, 53, 54, 55] (by decide +kernel) (by decide +kernel)) (goodIn_sub (fun _ h => List.mem_cons_of_mem _ (List.mem_append_right _ h)) (by decide +kernel))
set_option maxRecDepth 20000 in
theorem gX6_cut_X6_requireField : GoodIn wsX6_cut (wsV RX6 86 RX6 yX6_requireField wsX6_requireField) := goodIn_app (goodIn_of _ (by decide +kernel)) ggX6_cut_X6_requireField
set_option maxRecDepth 20000 in
theorem ggX6_cut_X4_many : GoodIn wsX6_cut wsX4_many := goodIn_r _ [21, 17, 54, 55] (by decide +kernel) (by decide +kernel)
set_option maxRecDepth 20000 in
theorem gX6_cut_X4_many : GoodIn wsX6_cut (wsV RX6 82 RX4 yX4_many wsX4_many) := goodIn_app (goodIn_of _ (by decide +kernel)) ggX6_cut_X4_many
set_option maxRecDepth 20000 in
theorem ggX6_cut_X5_cutOut : GoodIn wsX6_cut wsX5_cutOut := goodIn_r _ [26, 27, 28, 29, 30, 31, 15, 32, 17, 33, 34, 13, 14, 16, 48, 49, 50, 51, 52, 53, 54, 55] (by decide +kernel) (by decide +kernel)
set_option maxRecDepth 20000 in
theorem gX6_cut_X5_cutOut : GoodIn wsX6_cut (wsV RX6 91 RX5 yX5_cutOut wsX5_cutOut) := goodIn_app (goodIn_of _ (by decide +kernel)) ggX6_cut_X5_cutOut
set_option maxRecDepth 20000 in
theorem ggX6_cut_X3_forget : GoodIn wsX6_cut wsX3_forget := goodIn_r _ [39, 40, 56, 57, 58, 59, 60, 61, 62, 63, 64] (by decide +kernel) (by decide +kernel)
set_option maxRecDepth 20000 in
theorem gX6_cut_X3_forget : GoodIn wsX6_cut (wsV RX6 76 RX3 yX3_forget wsX3_forget) := goodIn_app (goodIn_of _ (by decide +kernel)) ggX6_cut_X3_forget
theorem dX6_cut_0 : decode cX6_cut 0 = .ok (.aload_n 0, 1) := by decide +kernel
theorem dX6_cut_1 : decode cX6_cut 1 = .ok (.iload_n 1, 1) := by decide +kernel
theorem dX6_cut_2 : decode cX6_cut 2 = .ok (.invokevirtual 86, 3) := by decide +kernel
theorem dX6_cut_5 : decode cX6_cut 5 = .ok (.iload_n 2, 1) := by decide +kernel
theorem dX6_cut_6 : decode cX6_cut 6 = .ok (.iconst 1, 1) := by decide +kernel
theorem dX6_cut_7 : decode cX6_cut 7 = .ok (.if_icmp .lt 19, 3) := by decide +kernel
theorem dX6_cut_10 : decode cX6_cut 10 = .ok (.iload_n 2, 1) := by decide +kernel
theorem dX6_cut_11 : decode cX6_cut 11 = .ok (.aload_n 0, 1) := by decide +kernel
theorem dX6_cut_12 : decode cX6_cut 12 = .ok (.getfield 21, 3) := by decide +kernel
theorem dX6_cut_15 : decode cX6_cut 15 = .ok (.getfield 79, 3) := by decide +kernel
theorem dX6_cut_18 : decode cX6_cut 18 = .ok (.invokevirtual 82, 3) := by decide +kernel
theorem dX6_cut_21 : decode cX6_cut 21 = .ok (.iload_n 1, 1) := by decide +kernel
theorem dX6_cut_22 : decode cX6_cut 22 = .ok (.isub, 1) := by decide +kernel
theorem dX6_cut_23 : decode cX6_cut 23 = .ok (.if_icmp .le 13, 3) := by decide +kernel
theorem dX6_cut_26 : decode cX6_cut 26 = .ok (.new 67, 3) := by decide +kernel
theorem dX6_cut_29 : decode cX6_cut 29 = .ok (.dup, 1) := by decide +kernel
theorem dX6_cut_30 : decode cX6_cut 30 = .ok (.ldc 89, 2) := by decide +kernel
theorem dX6_cut_32 : decode cX6_cut 32 = .ok (.invokespecial 71, 3) := by decide +kernel
theorem dX6_cut_35 : decode cX6_cut 35 = .ok (.athrow, 1) := by decide +kernel
theorem dX6_cut_36 : decode cX6_cut 36 = .ok (.aload_n 0, 1) := by decide +kernel
theorem dX6_cut_37 : decode cX6_cut 37 = .ok (.getfield 21, 3) := by decide +kernel
theorem dX6_cut_40 : decode cX6_cut 40 = .ok (.iload_n 1, 1) := by decide +kernel
theorem dX6_cut_41 : decode cX6_cut 41 = .ok (.iload_n 2, 1) := by decide +kernel
theorem dX6_cut_42 : decode cX6_cut 42 = .ok (.invokevirtual 91, 3) := by decide +kernel
theorem dX6_cut_45 : decode cX6_cut 45 = .ok (.aload_n 0, 1) := by decide +kernel
theorem dX6_cut_46 : decode cX6_cut 46 = .ok (.getfield 28, 3) := by decide +kernel
theorem dX6_cut_49 : decode cX6_cut 49 = .ok (.invokevirtual 76, 3) := by decide +kernel
theorem dX6_cut_52 : decode cX6_cut 52 = .ok (.aload_n 0, 1) := by decide +kernel
theorem dX6_cut_53 : decode cX6_cut 53 = .ok (.getfield 21, 3) := by decide +kernel
theorem dX6_cut_56 : decode cX6_cut 56 = .ok (.getfield 79, 3) := by decide +kernel
theorem dX6_cut_59 : decode cX6_cut 59 = .ok (.invokevirtual 82, 3) := by decide +kernel
theorem dX6_cut_62 : decode cX6_cut 62 = .ok (.ireturn, 1) := by decide +kernel
set_option maxRecDepth 20000 in
theorem ggX6_spoil_X6_requireField : GoodIn wsX6_spoil wsX6_requireField := goodIn_ca (goodIn_r _ [7, 8, 9, 1, 10, 11, 12, 13, 14, 15, 47, 48, 49, 50, 51, 52, 53, 54, 55, 56, 57, 58, 59, 60, 61] (by decide +kernel) (by decide +kernel)) (goodIn_sub (fun _ h => List.mem_cons_of_mem _ (List.mem_append_left _ (List.mem_append_right _ h))) (by decide +kernel))
set_option maxRecDepth 20000 in
theorem gX6_spoil_X6_requireField : GoodIn wsX6_spoil (wsV RX6 86 RX6 yX6_requireField wsX6_requireField) := goodIn_app (goodIn_of _ (by decide +kernel)) ggX6_spoil_X6_requireField
set_option maxRecDepth 20000 in
theorem ggX6_spoil_X6_requireLook : GoodIn wsX6_spoil wsX6_requireLook := goodIn_ca (goodIn_r _ [18, 19, 20] (by decide +kernel) (by decide +kernel)) (goodIn_sub (fun _ h => List.mem_cons_of_mem _ (List.mem_append_right _ h)) (by decide +kernel))
set_option maxRecDepth 20000 in
theorem gX6_spoil_X6_requireLook : GoodIn wsX6_spoil (va_wsS RX6 53 yX6_requireLook wsX6_requireLook) := goodIn_app (goodIn_of _ (by decide +kernel)) ggX6_spoil_X6_requireLook
set_option maxRecDepth 20000 in
theorem ggX6_spoil_X4_at : GoodIn wsX6_spoil wsX4_at := goodIn_r _ [24, 15, 25, 60, 61] (by decide +kernel) (by decide +kernel)
set_option maxRecDepth 20000 in
theorem gX6_spoil_X4_at : GoodIn wsX6_spoil (wsV RX6 95 RX4 yX4_at wsX4_at) := goodIn_app (goodIn_of _ (by decide +kernel)) ggX6_spoil_X4_at
set_option maxRecDepth 20000 in
theorem ggX6_spoil_X5_note : GoodIn wsX6_spoil wsX5_note := goodIn_r _ [30, 31, 32, 33, 34, 35, 22, 23, 13, 24, 15, 25, 36, 37, 38, 39, 40, 11, 12, 14, 54, 55, 56, 57, 58, 59, 60, 61] (by decide +kernel) (by decide +kernel)
set_option maxRecDepth 20000 in
theorem gX6_spoil_X5_note : GoodIn wsX6_spoil (wsV RX6 98 RX5 yX5_note wsX5_note) := goodIn_app (goodIn_of _ (by decide +kernel)) ggX6_spoil_X5_note
set_option maxRecDepth 20000 in
theorem ggX6_spoil_X3_forget : GoodIn wsX6_spoil wsX3_forget := goodIn_r _ [45, 46, 62, 63, 64, 65, 66, 67, 68, 69, 70] (by decide +kernel) (by decide +kernel)
set_option maxRecDepth 20000 in
theorem gX6_spoil_X3_forget : GoodIn wsX6_spoil (wsV RX6 76 RX3 yX3_forget wsX3_forget) := goodIn_app (goodIn_of _ (by decide +kernel)) ggX6_spoil_X3_forget
theorem dX6_spoil_0 : decode cX6_spoil 0 = .ok (.aload_n 0, 1) := by decide +kernel
theorem dX6_spoil_1 : decode cX6_spoil 1 = .ok (.iload_n 1, 1) := by decide +kernel
theorem dX6_spoil_2 : decode cX6_spoil 2 = .ok (.invokevirtual 86, 3) := by decide +kernel
theorem dX6_spoil_5 : decode cX6_spoil 5 = .ok (.iload_n 2, 1) := by decide +kernel
theorem dX6_spoil_6 : decode cX6_spoil 6 = .ok (.invokestatic 53, 3) := by decide +kernel
theorem dX6_spoil_9 : decode cX6_spoil 9 = .ok (.aload_n 0, 1) := by decide +kernel
theorem dX6_spoil_10 : decode cX6_spoil 10 = .ok (.getfield 21, 3) := by decide +kernel
theorem dX6_spoil_13 : decode cX6_spoil 13 = .ok (.getfield 79, 3) := by decide +kernel
theorem dX6_spoil_16 : decode cX6_spoil 16 = .ok (.iload_n 1, 1) := by decide +kernel
theorem dX6_spoil_17 : decode cX6_spoil 17 = .ok (.invokevirtual 95, 3) := by decide +kernel
theorem dX6_spoil_20 : decode cX6_spoil 20 = .ok (.istore_n 3, 1) := by decide +kernel
theorem dX6_spoil_21 : decode cX6_spoil 21 = .ok (.aload_n 0, 1) := by decide +kernel
theorem dX6_spoil_22 : decode cX6_spoil 22 = .ok (.getfield 21, 3) := by decide +kernel
theorem dX6_spoil_25 : decode cX6_spoil 25 = .ok (.iload_n 1, 1) := by decide +kernel
theorem dX6_spoil_26 : decode cX6_spoil 26 = .ok (.iload_n 2, 1) := by decide +kernel
theorem dX6_spoil_27 : decode cX6_spoil 27 = .ok (.invokevirtual 98, 3) := by decide +kernel
theorem dX6_spoil_30 : decode cX6_spoil 30 = .ok (.aload_n 0, 1) := by decide +kernel
theorem dX6_spoil_31 : decode cX6_spoil 31 = .ok (.getfield 28, 3) := by decide +kernel
theorem dX6_spoil_34 : decode cX6_spoil 34 = .ok (.invokevirtual 76, 3) := by decide +kernel
theorem dX6_spoil_37 : decode cX6_spoil 37 = .ok (.iload_n 3, 1) := by decide +kernel
theorem dX6_spoil_38 : decode cX6_spoil 38 = .ok (.ireturn, 1) := by decide +kernel
set_option maxRecDepth 20000 in
theorem ggX6_heal_X5_takeBack : GoodIn wsX6_heal wsX5_takeBack := goodIn_r _ [7, 8, 9, 10, 11, 12, 13, 14, 15, 16, 17, 18, 19, 20, 21, 22, 36, 37, 38, 39, 40, 41, 42, 43] (by decide +kernel) (by decide +kernel)
set_option maxRecDepth 20000 in
theorem gX6_heal_X5_takeBack : GoodIn wsX6_heal (wsV RX6 101 RX5 yX5_takeBack wsX5_takeBack) := goodIn_app (goodIn_of _ (by decide +kernel)) ggX6_heal_X5_takeBack
set_option maxRecDepth 20000 in
theorem ggX6_heal_X3_forget : GoodIn wsX6_heal wsX3_forget := goodIn_r _ [27, 28, 44, 45, 46, 47, 48, 49, 50, 51, 52] (by decide +kernel) (by decide +kernel)
set_option maxRecDepth 20000 in
theorem gX6_heal_X3_forget : GoodIn wsX6_heal (wsV RX6 76 RX3 yX3_forget wsX3_forget) := goodIn_app (goodIn_of _ (by decide +kernel)) ggX6_heal_X3_forget
theorem dX6_heal_0 : decode cX6_heal 0 = .ok (.aload_n 0, 1) := by decide +kernel
theorem dX6_heal_1 : decode cX6_heal 1 = .ok (.getfield 21, 3) := by decide +kernel
theorem dX6_heal_4 : decode cX6_heal 4 = .ok (.invokevirtual 101, 3) := by decide +kernel
theorem dX6_heal_7 : decode cX6_heal 7 = .ok (.istore_n 1, 1) := by decide +kernel
theorem dX6_heal_8 : decode cX6_heal 8 = .ok (.iload_n 1, 1) := by decide +kernel
theorem dX6_heal_9 : decode cX6_heal 9 = .ok (.iconst (-1), 1) := by decide +kernel
theorem dX6_heal_10 : decode cX6_heal 10 = .ok (.if_icmp .eq 10, 3) := by decide +kernel
theorem dX6_heal_13 : decode cX6_heal 13 = .ok (.aload_n 0, 1) := by decide +kernel
theorem dX6_heal_14 : decode cX6_heal 14 = .ok (.getfield 28, 3) := by decide +kernel
theorem dX6_heal_17 : decode cX6_heal 17 = .ok (.invokevirtual 76, 3) := by decide +kernel
theorem dX6_heal_20 : decode cX6_heal 20 = .ok (.iload_n 1, 1) := by decide +kernel
theorem dX6_heal_21 : decode cX6_heal 21 = .ok (.ireturn, 1) := by decide +kernel
set_option maxRecDepth 20000 in
theorem ggX6_change_X3_forget : GoodIn wsX6_change wsX3_forget := goodIn_r _ [9, 10, 18, 19, 20, 21, 22, 23, 24, 25, 26] (by decide +kernel) (by decide +kernel)
set_option maxRecDepth 20000 in
theorem gX6_change_X3_forget : GoodIn wsX6_change (wsV RX6 76 RX3 yX3_forget wsX3_forget) := goodIn_app (goodIn_of _ (by decide +kernel)) ggX6_change_X3_forget
theorem dX6_change_0 : decode cX6_change 0 = .ok (.iload_n 1, 1) := by decide +kernel
theorem dX6_change_1 : decode cX6_change 1 = .ok (.iconst 1, 1) := by decide +kernel
theorem dX6_change_2 : decode cX6_change 2 = .ok (.if_icmp .lt 9, 3) := by decide +kernel
theorem dX6_change_5 : decode cX6_change 5 = .ok (.iload_n 1, 1) := by decide +kernel
theorem dX6_change_6 : decode cX6_change 6 = .ok (.bipush 20, 2) := by decide +kernel
theorem dX6_change_8 : decode cX6_change 8 = .ok (.if_icmp .le 13, 3) := by decide +kernel
theorem dX6_change_11 : decode cX6_change 11 = .ok (.new 67, 3) := by decide +kernel
theorem dX6_change_14 : decode cX6_change 14 = .ok (.dup, 1) := by decide +kernel
theorem dX6_change_15 : decode cX6_change 15 = .ok (.ldc 104, 2) := by decide +kernel
theorem dX6_change_17 : decode cX6_change 17 = .ok (.invokespecial 71, 3) := by decide +kernel
theorem dX6_change_20 : decode cX6_change 20 = .ok (.athrow, 1) := by decide +kernel
theorem dX6_change_21 : decode cX6_change 21 = .ok (.aload_n 0, 1) := by decide +kernel
theorem dX6_change_22 : decode cX6_change 22 = .ok (.getfield 46, 3) := by decide +kernel
theorem dX6_change_25 : decode cX6_change 25 = .ok (.istore_n 2, 1) := by decide +kernel
theorem dX6_change_26 : decode cX6_change 26 = .ok (.aload_n 0, 1) := by decide +kernel
theorem dX6_change_27 : decode cX6_change 27 = .ok (.iload_n 1, 1) := by decide +kernel
theorem dX6_change_28 : decode cX6_change 28 = .ok (.putfield 46, 3) := by decide +kernel
theorem dX6_change_31 : decode cX6_change 31 = .ok (.aload_n 0, 1) := by decide +kernel
theorem dX6_change_32 : decode cX6_change 32 = .ok (.getfield 28, 3) := by decide +kernel
theorem dX6_change_35 : decode cX6_change 35 = .ok (.invokevirtual 76, 3) := by decide +kernel
theorem dX6_change_38 : decode cX6_change 38 = .ok (.iload_n 2, 1) := by decide +kernel
theorem dX6_change_39 : decode cX6_change 39 = .ok (.ireturn, 1) := by decide +kernel
set_option maxRecDepth 20000 in
theorem ggX6_print_X2_begin : GoodIn wsX6_print wsX2_begin := goodIn_r _ [8, 9, 17, 18, 19, 20] (by decide +kernel) (by decide +kernel)
set_option maxRecDepth 20000 in
theorem gX6_print_X2_begin : GoodIn wsX6_print (wsV RX6 106 RX2 yX2_begin wsX2_begin) := goodIn_app (goodIn_of _ (by decide +kernel)) ggX6_print_X2_begin
theorem dX6_print_0 : decode cX6_print 0 = .ok (.aload_n 0, 1) := by decide +kernel
theorem dX6_print_1 : decode cX6_print 1 = .ok (.getfield 35, 3) := by decide +kernel
theorem dX6_print_4 : decode cX6_print 4 = .ok (.invokevirtual 106, 3) := by decide +kernel
theorem dX6_print_7 : decode cX6_print 7 = .ok (.istore_n 1, 1) := by decide +kernel
theorem dX6_print_8 : decode cX6_print 8 = .ok (.iload_n 1, 1) := by decide +kernel
theorem dX6_print_9 : decode cX6_print 9 = .ok (.iconst (-1), 1) := by decide +kernel
theorem dX6_print_10 : decode cX6_print 10 = .ok (.if_icmp .ne 13, 3) := by decide +kernel
theorem dX6_print_13 : decode cX6_print 13 = .ok (.new 60, 3) := by decide +kernel
theorem dX6_print_16 : decode cX6_print 16 = .ok (.dup, 1) := by decide +kernel
theorem dX6_print_17 : decode cX6_print 17 = .ok (.ldc 109, 2) := by decide +kernel
theorem dX6_print_19 : decode cX6_print 19 = .ok (.invokespecial 64, 3) := by decide +kernel
theorem dX6_print_22 : decode cX6_print 22 = .ok (.athrow, 1) := by decide +kernel
theorem dX6_print_23 : decode cX6_print 23 = .ok (.iload_n 1, 1) := by decide +kernel
theorem dX6_print_24 : decode cX6_print 24 = .ok (.ireturn, 1) := by decide +kernel
set_option maxRecDepth 20000 in
theorem ggX6_look_X6_requirePrint : GoodIn wsX6_look wsX6_requirePrint := goodIn_ca (goodIn_r _ [8, 9, 10, 3, 11, 12, 13, 14, 15, 16, 34, 35, 36, 37, 38, 39, 40, 41, 42, 43, 44] (by decide +kernel) (by decide +kernel)) (goodIn_sub (fun _ h => List.mem_cons_of_mem _ (List.mem_append_left _ (List.mem_append_right _ h))) (by decide +kernel))
set_option maxRecDepth 20000 in
theorem gX6_look_X6_requirePrint : GoodIn wsX6_look (wsV RX6 111 RX6 yX6_requirePrint wsX6_requirePrint) := goodIn_app (goodIn_of _ (by decide +kernel)) ggX6_look_X6_requirePrint
set_option maxRecDepth 20000 in
theorem ggX6_look_X6_requireLook : GoodIn wsX6_look wsX6_requireLook := goodIn_ca (goodIn_r _ [19, 20, 21] (by decide +kernel) (by decide +kernel)) (goodIn_sub (fun _ h => List.mem_cons_of_mem _ (List.mem_append_right _ h)) (by decide +kernel))
set_option maxRecDepth 20000 in
theorem gX6_look_X6_requireLook : GoodIn wsX6_look (va_wsS RX6 53 yX6_requireLook wsX6_requireLook) := goodIn_app (goodIn_of _ (by decide +kernel)) ggX6_look_X6_requireLook
set_option maxRecDepth 20000 in
theorem ggX6_look_X2_row : GoodIn wsX6_look wsX2_row := goodIn_r _ [25, 26, 41, 42, 43, 44] (by decide +kernel) (by decide +kernel)
set_option maxRecDepth 20000 in
theorem gX6_look_X2_row : GoodIn wsX6_look (wsV RX6 114 RX2 yX2_row wsX2_row) := goodIn_app (goodIn_of _ (by decide +kernel)) ggX6_look_X2_row
set_option maxRecDepth 20000 in
theorem ggX6_look_X4_add : GoodIn wsX6_look wsX4_add := goodIn_r _ [31, 32, 33, 45, 46] (by decide +kernel) (by decide +kernel)
set_option maxRecDepth 20000 in
theorem gX6_look_X4_add : GoodIn wsX6_look (wsV RX6 56 RX4 yX4_add wsX4_add) := goodIn_app (goodIn_of _ (by decide +kernel)) ggX6_look_X4_add
theorem dX6_look_0 : decode cX6_look 0 = .ok (.aload_n 0, 1) := by decide +kernel
theorem dX6_look_1 : decode cX6_look 1 = .ok (.iload_n 1, 1) := by decide +kernel
theorem dX6_look_2 : decode cX6_look 2 = .ok (.invokevirtual 111, 3) := by decide +kernel
theorem dX6_look_5 : decode cX6_look 5 = .ok (.iload_n 2, 1) := by decide +kernel
theorem dX6_look_6 : decode cX6_look 6 = .ok (.invokestatic 53, 3) := by decide +kernel
theorem dX6_look_9 : decode cX6_look 9 = .ok (.aload_n 0, 1) := by decide +kernel
theorem dX6_look_10 : decode cX6_look 10 = .ok (.getfield 35, 3) := by decide +kernel
theorem dX6_look_13 : decode cX6_look 13 = .ok (.iload_n 1, 1) := by decide +kernel
theorem dX6_look_14 : decode cX6_look 14 = .ok (.invokevirtual 114, 3) := by decide +kernel
theorem dX6_look_17 : decode cX6_look 17 = .ok (.iload_n 2, 1) := by decide +kernel
theorem dX6_look_18 : decode cX6_look 18 = .ok (.invokevirtual 56, 3) := by decide +kernel
theorem dX6_look_21 : decode cX6_look 21 = .ok (.istore_n 3, 1) := by decide +kernel
theorem dX6_look_22 : decode cX6_look 22 = .ok (.iload_n 3, 1) := by decide +kernel
theorem dX6_look_23 : decode cX6_look 23 = .ok (.iconst (-1), 1) := by decide +kernel
theorem dX6_look_24 : decode cX6_look 24 = .ok (.if_icmp .ne 13, 3) := by decide +kernel
theorem dX6_look_27 : decode cX6_look 27 = .ok (.new 60, 3) := by decide +kernel
theorem dX6_look_30 : decode cX6_look 30 = .ok (.dup, 1) := by decide +kernel
theorem dX6_look_31 : decode cX6_look 31 = .ok (.ldc 118, 2) := by decide +kernel
theorem dX6_look_33 : decode cX6_look 33 = .ok (.invokespecial 64, 3) := by decide +kernel
theorem dX6_look_36 : decode cX6_look 36 = .ok (.athrow, 1) := by decide +kernel
theorem dX6_look_37 : decode cX6_look 37 = .ok (.iload_n 3, 1) := by decide +kernel
theorem dX6_look_38 : decode cX6_look 38 = .ok (.iconst 1, 1) := by decide +kernel
theorem dX6_look_39 : decode cX6_look 39 = .ok (.iadd, 1) := by decide +kernel
theorem dX6_look_40 : decode cX6_look 40 = .ok (.ireturn, 1) := by decide +kernel
theorem dX6_rate_0 : decode cX6_rate 0 = .ok (.iload_n 1, 1) := by decide +kernel
theorem dX6_rate_1 : decode cX6_rate 1 = .ok (.iconst 1, 1) := by decide +kernel
theorem dX6_rate_2 : decode cX6_rate 2 = .ok (.if_icmp .lt 9, 3) := by decide +kernel
theorem dX6_rate_5 : decode cX6_rate 5 = .ok (.iload_n 1, 1) := by decide +kernel
theorem dX6_rate_6 : decode cX6_rate 6 = .ok (.bipush 50, 2) := by decide +kernel
theorem dX6_rate_8 : decode cX6_rate 8 = .ok (.if_icmp .le 13, 3) := by decide +kernel
theorem dX6_rate_11 : decode cX6_rate 11 = .ok (.new 67, 3) := by decide +kernel
theorem dX6_rate_14 : decode cX6_rate 14 = .ok (.dup, 1) := by decide +kernel
theorem dX6_rate_15 : decode cX6_rate 15 = .ok (.ldc 120, 2) := by decide +kernel
theorem dX6_rate_17 : decode cX6_rate 17 = .ok (.invokespecial 71, 3) := by decide +kernel
theorem dX6_rate_20 : decode cX6_rate 20 = .ok (.athrow, 1) := by decide +kernel
theorem dX6_rate_21 : decode cX6_rate 21 = .ok (.aload_n 0, 1) := by decide +kernel
theorem dX6_rate_22 : decode cX6_rate 22 = .ok (.getfield 42, 3) := by decide +kernel
theorem dX6_rate_25 : decode cX6_rate 25 = .ok (.getfield 122, 3) := by decide +kernel
theorem dX6_rate_28 : decode cX6_rate 28 = .ok (.istore_n 2, 1) := by decide +kernel
theorem dX6_rate_29 : decode cX6_rate 29 = .ok (.aload_n 0, 1) := by decide +kernel
theorem dX6_rate_30 : decode cX6_rate 30 = .ok (.getfield 42, 3) := by decide +kernel
theorem dX6_rate_33 : decode cX6_rate 33 = .ok (.iload_n 1, 1) := by decide +kernel
theorem dX6_rate_34 : decode cX6_rate 34 = .ok (.putfield 122, 3) := by decide +kernel
theorem dX6_rate_37 : decode cX6_rate 37 = .ok (.iload_n 2, 1) := by decide +kernel
theorem dX6_rate_38 : decode cX6_rate 38 = .ok (.ireturn, 1) := by decide +kernel
set_option maxRecDepth 20000 in
theorem ggX6_size_X4_add : GoodIn wsX6_size wsX4_add := goodIn_r _ [10, 11, 12, 22, 23] (by decide +kernel) (by decide +kernel)
set_option maxRecDepth 20000 in
theorem gX6_size_X4_add : GoodIn wsX6_size (wsV RX6 56 RX4 yX4_add wsX4_add) := goodIn_app (goodIn_of _ (by decide +kernel)) ggX6_size_X4_add
theorem dX6_size_0 : decode cX6_size 0 = .ok (.iload_n 1, 1) := by decide +kernel
theorem dX6_size_1 : decode cX6_size 1 = .ok (.ifCond .lt 9, 3) := by decide +kernel
theorem dX6_size_4 : decode cX6_size 4 = .ok (.iload_n 1, 1) := by decide +kernel
theorem dX6_size_5 : decode cX6_size 5 = .ok (.bipush 99, 2) := by decide +kernel
theorem dX6_size_7 : decode cX6_size 7 = .ok (.if_icmp .le 13, 3) := by decide +kernel
theorem dX6_size_10 : decode cX6_size 10 = .ok (.new 67, 3) := by decide +kernel
theorem dX6_size_13 : decode cX6_size 13 = .ok (.dup, 1) := by decide +kernel
theorem dX6_size_14 : decode cX6_size 14 = .ok (.ldc 125, 2) := by decide +kernel
theorem dX6_size_16 : decode cX6_size 16 = .ok (.invokespecial 71, 3) := by decide +kernel
theorem dX6_size_19 : decode cX6_size 19 = .ok (.athrow, 1) := by decide +kernel
theorem dX6_size_20 : decode cX6_size 20 = .ok (.aload_n 0, 1) := by decide +kernel
theorem dX6_size_21 : decode cX6_size 21 = .ok (.getfield 42, 3) := by decide +kernel
theorem dX6_size_24 : decode cX6_size 24 = .ok (.getfield 127, 3) := by decide +kernel
theorem dX6_size_27 : decode cX6_size 27 = .ok (.iload_n 1, 1) := by decide +kernel
theorem dX6_size_28 : decode cX6_size 28 = .ok (.invokevirtual 56, 3) := by decide +kernel
theorem dX6_size_31 : decode cX6_size 31 = .ok (.istore_n 2, 1) := by decide +kernel
theorem dX6_size_32 : decode cX6_size 32 = .ok (.iload_n 2, 1) := by decide +kernel
theorem dX6_size_33 : decode cX6_size 33 = .ok (.iconst (-1), 1) := by decide +kernel
theorem dX6_size_34 : decode cX6_size 34 = .ok (.if_icmp .ne 13, 3) := by decide +kernel
theorem dX6_size_37 : decode cX6_size 37 = .ok (.new 60, 3) := by decide +kernel
theorem dX6_size_40 : decode cX6_size 40 = .ok (.dup, 1) := by decide +kernel
theorem dX6_size_41 : decode cX6_size 41 = .ok (.ldc 130, 2) := by decide +kernel
theorem dX6_size_43 : decode cX6_size 43 = .ok (.invokespecial 64, 3) := by decide +kernel
theorem dX6_size_46 : decode cX6_size 46 = .ok (.athrow, 1) := by decide +kernel
theorem dX6_size_47 : decode cX6_size 47 = .ok (.iload_n 2, 1) := by decide +kernel
theorem dX6_size_48 : decode cX6_size 48 = .ok (.ireturn, 1) := by decide +kernel
set_option maxRecDepth 20000 in
theorem ggX6_ofField_X6_requireField : GoodIn wsX6_ofField wsX6_requireField := goodIn_ca (goodIn_r _ [10, 11, 12, 4, 13, 14, 15, 16, 17, 18, 83, 84, 85, 86, 87, 88, 89, 90, 91, 92, 93, 94, 95, 105, 106] (by decide +kernel) (by decide +kernel)) (goodIn_sub (fun _ h => List.mem_cons_of_mem _ (List.mem_append_right _ h)) (by decide +kernel))
set_option maxRecDepth 20000 in
theorem gX6_ofField_X6_requireField : GoodIn wsX6_ofField (wsV RX6 86 RX6 yX6_requireField wsX6_requireField) := goodIn_app (goodIn_of _ (by decide +kernel)) ggX6_ofField_X6_requireField
set_option maxRecDepth 20000 in
theorem ggX6_ofField_X3_find : GoodIn wsX6_ofField wsX3_find := goodIn_r _ [23, 24, 25, 26, 27, 28, 29, 30, 31, 32, 22, 33, 34, 35, 36, 37, 16, 38, 18, 39, 40, 41, 42, 43, 44, 45, 46, 47, 48, 49, 50, 51, 52, 53, 54, 55, 56, 57, 58, 59, 60, 61, 62, 63, 64, 65, 66, 67, 68, 69, 70, 71, 72, 73, 74, 96, 97, 98, 99, 100, 101, 102, 103, 104, 105, 106] (by decide +kernel) (by decide +kernel)
set_option maxRecDepth 20000 in
theorem gX6_ofField_X3_find : GoodIn wsX6_ofField (wsV RX6 132 RX3 yX3_find wsX3_find) := goodIn_app (goodIn_of _ (by decide +kernel)) ggX6_ofField_X3_find
set_option maxRecDepth 20000 in
theorem ggX6_ofField_X4_at : GoodIn wsX6_ofField wsX4_at := goodIn_r _ [42, 18, 43, 105, 106] (by decide +kernel) (by decide +kernel)
set_option maxRecDepth 20000 in
theorem gX6_ofField_X4_at : GoodIn wsX6_ofField (wsV RX6 95 RX4 yX4_at wsX4_at) := goodIn_app (goodIn_of _ (by decide +kernel)) ggX6_ofField_X4_at
set_option maxRecDepth 20000 in
theorem ggX6_ofField_X5_isNoted : GoodIn wsX6_ofField wsX5_isNoted := goodIn_r _ [80, 81, 82, 90, 91, 92, 93, 94, 95] (by decide +kernel) (by decide +kernel)
set_option maxRecDepth 20000 in
theorem gX6_ofField_X5_isNoted : GoodIn wsX6_ofField (wsV RX6 142 RX5 yX5_isNoted wsX5_isNoted) := goodIn_app (goodIn_of _ (by decide +kernel)) ggX6_ofField_X5_isNoted
end
section
theorem dX6_ofField_0 : decode cX6_ofField 0 = .ok (.aload_n 0, 1) := by decide +kernel
theorem dX6_ofField_1 : decode cX6_ofField 1 = .ok (.iload_n 1, 1) := by decide +kernel
theorem dX6_ofField_2 : decode cX6_ofField 2 = .ok (.invokevirtual 86, 3) := by decide +kernel
theorem dX6_ofField_5 : decode cX6_ofField 5 = .ok (.aload_n 0, 1) := by decide +kernel
theorem dX6_ofField_6 : decode cX6_ofField 6 = .ok (.getfield 28, 3) := by decide +kernel
theorem dX6_ofField_9 : decode cX6_ofField 9 = .ok (.aload_n 0, 1) := by decide +kernel
theorem dX6_ofField_10 : decode cX6_ofField 10 = .ok (.getfield 21, 3) := by decide +kernel
theorem dX6_ofField_13 : decode cX6_ofField 13 = .ok (.getfield 79, 3) := by decide +kernel
theorem dX6_ofField_16 : decode cX6_ofField 16 = .ok (.aload_n 0, 1) := by decide +kernel
theorem dX6_ofField_17 : decode cX6_ofField 17 = .ok (.getfield 46, 3) := by decide +kernel
theorem dX6_ofField_20 : decode cX6_ofField 20 = .ok (.invokevirtual 132, 3) := by decide +kernel
theorem dX6_ofField_23 : decode cX6_ofField 23 = .ok (.iload_n 2, 1) := by decide +kernel
theorem dX6_ofField_24 : decode cX6_ofField 24 = .ok (.tableswitch 81 0 3 #[32, 44, 54, 64], 32) := by decide +kernel
theorem dX6_ofField_56 : decode cX6_ofField 56 = .ok (.aload_n 0, 1) := by decide +kernel
theorem dX6_ofField_57 : decode cX6_ofField 57 = .ok (.getfield 21, 3) := by decide +kernel
theorem dX6_ofField_60 : decode cX6_ofField 60 = .ok (.getfield 79, 3) := by decide +kernel
theorem dX6_ofField_63 : decode cX6_ofField 63 = .ok (.iload_n 1, 1) := by decide +kernel
theorem dX6_ofField_64 : decode cX6_ofField 64 = .ok (.invokevirtual 95, 3) := by decide +kernel
theorem dX6_ofField_67 : decode cX6_ofField 67 = .ok (.ireturn, 1) := by decide +kernel
theorem dX6_ofField_68 : decode cX6_ofField 68 = .ok (.aload_n 0, 1) := by decide +kernel
theorem dX6_ofField_69 : decode cX6_ofField 69 = .ok (.getfield 28, 3) := by decide +kernel
theorem dX6_ofField_72 : decode cX6_ofField 72 = .ok (.getfield 135, 3) := by decide +kernel
theorem dX6_ofField_75 : decode cX6_ofField 75 = .ok (.iload_n 1, 1) := by decide +kernel
theorem dX6_ofField_76 : decode cX6_ofField 76 = .ok (.iaload, 1) := by decide +kernel
theorem dX6_ofField_77 : decode cX6_ofField 77 = .ok (.ireturn, 1) := by decide +kernel
theorem dX6_ofField_78 : decode cX6_ofField 78 = .ok (.aload_n 0, 1) := by decide +kernel
theorem dX6_ofField_79 : decode cX6_ofField 79 = .ok (.getfield 28, 3) := by decide +kernel
theorem dX6_ofField_82 : decode cX6_ofField 82 = .ok (.getfield 139, 3) := by decide +kernel
theorem dX6_ofField_85 : decode cX6_ofField 85 = .ok (.iload_n 1, 1) := by decide +kernel
theorem dX6_ofField_86 : decode cX6_ofField 86 = .ok (.iaload, 1) := by decide +kernel
theorem dX6_ofField_87 : decode cX6_ofField 87 = .ok (.ireturn, 1) := by decide +kernel
theorem dX6_ofField_88 : decode cX6_ofField 88 = .ok (.aload_n 0, 1) := by decide +kernel
theorem dX6_ofField_89 : decode cX6_ofField 89 = .ok (.getfield 21, 3) := by decide +kernel
theorem dX6_ofField_92 : decode cX6_ofField 92 = .ok (.iload_n 1, 1) := by decide +kernel
theorem dX6_ofField_93 : decode cX6_ofField 93 = .ok (.invokevirtual 142, 3) := by decide +kernel
theorem dX6_ofField_96 : decode cX6_ofField 96 = .ok (.ifCond .eq 7, 3) := by decide +kernel
theorem dX6_ofField_99 : decode cX6_ofField 99 = .ok (.iconst 1, 1) := by decide +kernel
theorem dX6_ofField_100 : decode cX6_ofField 100 = .ok (.goto 4, 3) := by decide +kernel
theorem dX6_ofField_103 : decode cX6_ofField 103 = .ok (.iconst 0, 1) := by decide +kernel
theorem dX6_ofField_104 : decode cX6_ofField 104 = .ok (.ireturn, 1) := by decide +kernel
theorem dX6_ofField_105 : decode cX6_ofField 105 = .ok (.new 67, 3) := by decide +kernel
theorem dX6_ofField_108 : decode cX6_ofField 108 = .ok (.dup, 1) := by decide +kernel
theorem dX6_ofField_109 : decode cX6_ofField 109 = .ok (.ldc 146, 2) := by decide +kernel
theorem dX6_ofField_111 : decode cX6_ofField 111 = .ok (.invokespecial 71, 3) := by decide +kernel
theorem dX6_ofField_114 : decode cX6_ofField 114 = .ok (.athrow, 1) := by decide +kernel
set_option maxRecDepth 20000 in
theorem ggX6_found_X3_find : GoodIn wsX6_found wsX3_find := goodIn_r _ [12, 13, 14, 15, 16, 17, 18, 19, 20, 21, 11, 22, 23, 24, 25, 26, 27, 28, 29, 30, 31, 32, 33, 34, 35, 36, 37, 38, 39, 40, 41, 42, 43, 44, 45, 46, 47, 48, 49, 50, 51, 52, 53, 54, 55, 56, 57, 58, 59, 60, 61, 62, 63, 64, 65, 79, 80, 81, 82, 83, 84, 85, 86, 87, 88, 89] (by decide +kernel) (by decide +kernel)
set_option maxRecDepth 20000 in
theorem gX6_found_X3_find : GoodIn wsX6_found (wsV RX6 132 RX3 yX3_find wsX3_find) := goodIn_app (goodIn_of _ (by decide +kernel)) ggX6_found_X3_find
theorem dX6_found_0 : decode cX6_found 0 = .ok (.aload_n 0, 1) := by decide +kernel
theorem dX6_found_1 : decode cX6_found 1 = .ok (.getfield 28, 3) := by decide +kernel
theorem dX6_found_4 : decode cX6_found 4 = .ok (.aload_n 0, 1) := by decide +kernel
theorem dX6_found_5 : decode cX6_found 5 = .ok (.getfield 21, 3) := by decide +kernel
theorem dX6_found_8 : decode cX6_found 8 = .ok (.getfield 79, 3) := by decide +kernel
theorem dX6_found_11 : decode cX6_found 11 = .ok (.aload_n 0, 1) := by decide +kernel
theorem dX6_found_12 : decode cX6_found 12 = .ok (.getfield 46, 3) := by decide +kernel
theorem dX6_found_15 : decode cX6_found 15 = .ok (.invokevirtual 132, 3) := by decide +kernel
theorem dX6_found_18 : decode cX6_found 18 = .ok (.iload_n 1, 1) := by decide +kernel
theorem dX6_found_19 : decode cX6_found 19 = .ok (.ifCond .lt 14, 3) := by decide +kernel
theorem dX6_found_22 : decode cX6_found 22 = .ok (.iload_n 1, 1) := by decide +kernel
theorem dX6_found_23 : decode cX6_found 23 = .ok (.aload_n 0, 1) := by decide +kernel
theorem dX6_found_24 : decode cX6_found 24 = .ok (.getfield 28, 3) := by decide +kernel
theorem dX6_found_27 : decode cX6_found 27 = .ok (.getfield 148, 3) := by decide +kernel
theorem dX6_found_30 : decode cX6_found 30 = .ok (.if_icmp .lt 13, 3) := by decide +kernel
theorem dX6_found_33 : decode cX6_found 33 = .ok (.new 151, 3) := by decide +kernel
theorem dX6_found_36 : decode cX6_found 36 = .ok (.dup, 1) := by decide +kernel
theorem dX6_found_37 : decode cX6_found 37 = .ok (.ldc 153, 2) := by decide +kernel
theorem dX6_found_39 : decode cX6_found 39 = .ok (.invokespecial 155, 3) := by decide +kernel
theorem dX6_found_42 : decode cX6_found 42 = .ok (.athrow, 1) := by decide +kernel
theorem dX6_found_43 : decode cX6_found 43 = .ok (.iload_n 2, 1) := by decide +kernel
theorem dX6_found_44 : decode cX6_found 44 = .ok (.tableswitch 58 0 2 #[28, 38, 48], 28) := by decide +kernel
theorem dX6_found_72 : decode cX6_found 72 = .ok (.aload_n 0, 1) := by decide +kernel
theorem dX6_found_73 : decode cX6_found 73 = .ok (.getfield 28, 3) := by decide +kernel
theorem dX6_found_76 : decode cX6_found 76 = .ok (.getfield 156, 3) := by decide +kernel
theorem dX6_found_79 : decode cX6_found 79 = .ok (.iload_n 1, 1) := by decide +kernel
theorem dX6_found_80 : decode cX6_found 80 = .ok (.iaload, 1) := by decide +kernel
theorem dX6_found_81 : decode cX6_found 81 = .ok (.ireturn, 1) := by decide +kernel
theorem dX6_found_82 : decode cX6_found 82 = .ok (.aload_n 0, 1) := by decide +kernel
theorem dX6_found_83 : decode cX6_found 83 = .ok (.getfield 28, 3) := by decide +kernel
theorem dX6_found_86 : decode cX6_found 86 = .ok (.getfield 159, 3) := by decide +kernel
theorem dX6_found_89 : decode cX6_found 89 = .ok (.iload_n 1, 1) := by decide +kernel
theorem dX6_found_90 : decode cX6_found 90 = .ok (.iaload, 1) := by decide +kernel
theorem dX6_found_91 : decode cX6_found 91 = .ok (.ireturn, 1) := by decide +kernel
theorem dX6_found_92 : decode cX6_found 92 = .ok (.aload_n 0, 1) := by decide +kernel
theorem dX6_found_93 : decode cX6_found 93 = .ok (.getfield 28, 3) := by decide +kernel
theorem dX6_found_96 : decode cX6_found 96 = .ok (.getfield 162, 3) := by decide +kernel
theorem dX6_found_99 : decode cX6_found 99 = .ok (.iload_n 1, 1) := by decide +kernel
theorem dX6_found_100 : decode cX6_found 100 = .ok (.iaload, 1) := by decide +kernel
theorem dX6_found_101 : decode cX6_found 101 = .ok (.ireturn, 1) := by decide +kernel
theorem dX6_found_102 : decode cX6_found 102 = .ok (.new 67, 3) := by decide +kernel
theorem dX6_found_105 : decode cX6_found 105 = .ok (.dup, 1) := by decide +kernel
theorem dX6_found_106 : decode cX6_found 106 = .ok (.ldc 165, 2) := by decide +kernel
theorem dX6_found_108 : decode cX6_found 108 = .ok (.invokespecial 71, 3) := by decide +kernel
theorem dX6_found_111 : decode cX6_found 111 = .ok (.athrow, 1) := by decide +kernel
set_option maxRecDepth 20000 in
theorem ggX6_apart_X6_requirePrint : GoodIn wsX6_apart wsX6_requirePrint := goodIn_ca (goodIn_r _ [6, 7, 8, 1, 9, 10, 11, 12, 13, 14, 50, 51, 52, 53, 54, 55, 56, 57, 58, 59, 60] (by decide +kernel) (by decide +kernel)) (goodIn_sub (fun _ h => List.mem_cons_of_mem _ (List.mem_append_right _ h)) (by decide +kernel))
set_option maxRecDepth 20000 in
theorem gX6_apart_X6_requirePrint : GoodIn wsX6_apart (wsV RX6 111 RX6 yX6_requirePrint wsX6_requirePrint) := goodIn_app (goodIn_of _ (by decide +kernel)) ggX6_apart_X6_requirePrint
set_option maxRecDepth 20000 in
theorem ggX6_apart_X2_distance : GoodIn wsX6_apart wsX2_distance := goodIn_r _ [18, 19, 20, 21, 22, 23, 24, 25, 26, 27, 28, 29, 12, 30, 31, 32, 33, 34, 35, 36, 37, 38, 39, 40, 41, 42, 43, 44, 45, 46, 47, 48, 49, 57, 58, 59, 60, 61, 62] (by decide +kernel) (by decide +kernel)
set_option maxRecDepth 20000 in
theorem gX6_apart_X2_distance : GoodIn wsX6_apart (wsV RX6 169 RX2 yX2_distance wsX2_distance) := goodIn_app (goodIn_of _ (by decide +kernel)) ggX6_apart_X2_distance
theorem dX6_apart_0 : decode cX6_apart 0 = .ok (.aload_n 0, 1) := by decide +kernel
theorem dX6_apart_1 : decode cX6_apart 1 = .ok (.iload_n 1, 1) := by decide +kernel
theorem dX6_apart_2 : decode cX6_apart 2 = .ok (.invokevirtual 111, 3) := by decide +kernel
theorem dX6_apart_5 : decode cX6_apart 5 = .ok (.aload_n 0, 1) := by decide +kernel
theorem dX6_apart_6 : decode cX6_apart 6 = .ok (.iload_n 2, 1) := by decide +kernel
theorem dX6_apart_7 : decode cX6_apart 7 = .ok (.invokevirtual 111, 3) := by decide +kernel
theorem dX6_apart_10 : decode cX6_apart 10 = .ok (.aload_n 0, 1) := by decide +kernel
theorem dX6_apart_11 : decode cX6_apart 11 = .ok (.getfield 35, 3) := by decide +kernel
theorem dX6_apart_14 : decode cX6_apart 14 = .ok (.iload_n 1, 1) := by decide +kernel
theorem dX6_apart_15 : decode cX6_apart 15 = .ok (.iload_n 2, 1) := by decide +kernel
theorem dX6_apart_16 : decode cX6_apart 16 = .ok (.invokevirtual 169, 3) := by decide +kernel
theorem dX6_apart_19 : decode cX6_apart 19 = .ok (.ireturn, 1) := by decide +kernel
set_option maxRecDepth 20000 in
theorem ggX6_house_X4_many : GoodIn wsX6_house wsX4_many := goodIn_r _ [14, 15, 126, 127] (by decide +kernel) (by decide +kernel)
set_option maxRecDepth 20000 in
theorem gX6_house_X4_many : GoodIn wsX6_house (wsV RX6 82 RX4 yX4_many wsX4_many) := goodIn_app (goodIn_of _ (by decide +kernel)) ggX6_house_X4_many
set_option maxRecDepth 20000 in
theorem ggX6_house_X3_find : GoodIn wsX6_house wsX3_find := goodIn_r _ [20, 21, 22, 23, 24, 25, 26, 27, 28, 29, 19, 30, 31, 32, 11, 12, 13, 14, 15, 33, 34, 35, 36, 37, 38, 39, 40, 41, 42, 43, 44, 45, 46, 47, 48, 49, 50, 51, 52, 53, 54, 55, 56, 57, 58, 59, 60, 61, 62, 63, 64, 65, 66, 67, 68, 111, 112, 113, 114, 115, 116, 117, 118, 119, 126, 127] (by decide +kernel) (by decide +kernel)
set_option maxRecDepth 20000 in
theorem gX6_house_X3_find : GoodIn wsX6_house (wsV RX6 132 RX3 yX3_find wsX3_find) := goodIn_app (goodIn_of _ (by decide +kernel)) ggX6_house_X3_find
set_option maxRecDepth 20000 in
theorem ggX6_house_X0_leastDelay : GoodIn wsX6_house wsX0_leastDelay := goodIn_r _ [73, 74, 75, 76, 77, 78, 79, 80, 11, 12, 13, 14, 15, 81, 34, 35, 36, 37, 124, 125, 126, 127] (by decide +kernel) (by decide +kernel)
set_option maxRecDepth 20000 in
theorem gX6_house_X0_leastDelay : GoodIn wsX6_house (wsV RX6 192 RX0 yX0_leastDelay wsX0_leastDelay) := goodIn_app (goodIn_of _ (by decide +kernel)) ggX6_house_X0_leastDelay
set_option maxRecDepth 20000 in
theorem ggX6_house_X0_peak : GoodIn wsX6_house wsX0_peak := goodIn_r _ [85, 74, 76, 77, 78, 79, 86, 70, 71, 72, 73, 75, 80, 11, 12, 13, 14, 15, 81, 34, 35, 36, 37, 87, 88, 89, 90, 91, 92, 93, 94, 95, 96, 97, 124, 125, 126, 127] (by decide +kernel) (by decide +kernel)
set_option maxRecDepth 20000 in
theorem gX6_house_X0_peak : GoodIn wsX6_house (wsV RX6 195 RX0 yX0_peak wsX0_peak) := goodIn_app (goodIn_of _ (by decide +kernel)) ggX6_house_X0_peak
theorem dX6_house_0 : decode cX6_house 0 = .ok (.iload_n 1, 1) := by decide +kernel
theorem dX6_house_1 : decode cX6_house 1 = .ok (.tableswitch 195 0 11 #[63, 71, 82, 90, 95, 121, 147, 155, 163, 174, 182, 190], 63) := by decide +kernel
theorem dX6_house_64 : decode cX6_house 64 = .ok (.aload_n 0, 1) := by decide +kernel
theorem dX6_house_65 : decode cX6_house 65 = .ok (.getfield 14, 3) := by decide +kernel
theorem dX6_house_68 : decode cX6_house 68 = .ok (.invokevirtual 82, 3) := by decide +kernel
theorem dX6_house_71 : decode cX6_house 71 = .ok (.ireturn, 1) := by decide +kernel
theorem dX6_house_72 : decode cX6_house 72 = .ok (.aload_n 0, 1) := by decide +kernel
theorem dX6_house_73 : decode cX6_house 73 = .ok (.getfield 21, 3) := by decide +kernel
theorem dX6_house_76 : decode cX6_house 76 = .ok (.getfield 79, 3) := by decide +kernel
theorem dX6_house_79 : decode cX6_house 79 = .ok (.invokevirtual 82, 3) := by decide +kernel
theorem dX6_house_82 : decode cX6_house 82 = .ok (.ireturn, 1) := by decide +kernel
theorem dX6_house_83 : decode cX6_house 83 = .ok (.aload_n 0, 1) := by decide +kernel
theorem dX6_house_84 : decode cX6_house 84 = .ok (.getfield 21, 3) := by decide +kernel
theorem dX6_house_87 : decode cX6_house 87 = .ok (.getfield 184, 3) := by decide +kernel
theorem dX6_house_90 : decode cX6_house 90 = .ok (.ireturn, 1) := by decide +kernel
theorem dX6_house_91 : decode cX6_house 91 = .ok (.aload_n 0, 1) := by decide +kernel
theorem dX6_house_92 : decode cX6_house 92 = .ok (.getfield 46, 3) := by decide +kernel
theorem dX6_house_95 : decode cX6_house 95 = .ok (.ireturn, 1) := by decide +kernel
theorem dX6_house_96 : decode cX6_house 96 = .ok (.aload_n 0, 1) := by decide +kernel
theorem dX6_house_97 : decode cX6_house 97 = .ok (.getfield 28, 3) := by decide +kernel
theorem dX6_house_100 : decode cX6_house 100 = .ok (.aload_n 0, 1) := by decide +kernel
theorem dX6_house_101 : decode cX6_house 101 = .ok (.getfield 21, 3) := by decide +kernel
theorem dX6_house_104 : decode cX6_house 104 = .ok (.getfield 79, 3) := by decide +kernel
theorem dX6_house_107 : decode cX6_house 107 = .ok (.aload_n 0, 1) := by decide +kernel
theorem dX6_house_108 : decode cX6_house 108 = .ok (.getfield 46, 3) := by decide +kernel
theorem dX6_house_111 : decode cX6_house 111 = .ok (.invokevirtual 132, 3) := by decide +kernel
theorem dX6_house_114 : decode cX6_house 114 = .ok (.aload_n 0, 1) := by decide +kernel
theorem dX6_house_115 : decode cX6_house 115 = .ok (.getfield 28, 3) := by decide +kernel
theorem dX6_house_118 : decode cX6_house 118 = .ok (.getfield 187, 3) := by decide +kernel
theorem dX6_house_121 : decode cX6_house 121 = .ok (.ireturn, 1) := by decide +kernel
theorem dX6_house_122 : decode cX6_house 122 = .ok (.aload_n 0, 1) := by decide +kernel
theorem dX6_house_123 : decode cX6_house 123 = .ok (.getfield 28, 3) := by decide +kernel
theorem dX6_house_126 : decode cX6_house 126 = .ok (.aload_n 0, 1) := by decide +kernel
theorem dX6_house_127 : decode cX6_house 127 = .ok (.getfield 21, 3) := by decide +kernel
theorem dX6_house_130 : decode cX6_house 130 = .ok (.getfield 79, 3) := by decide +kernel
theorem dX6_house_133 : decode cX6_house 133 = .ok (.aload_n 0, 1) := by decide +kernel
theorem dX6_house_134 : decode cX6_house 134 = .ok (.getfield 46, 3) := by decide +kernel
theorem dX6_house_137 : decode cX6_house 137 = .ok (.invokevirtual 132, 3) := by decide +kernel
theorem dX6_house_140 : decode cX6_house 140 = .ok (.aload_n 0, 1) := by decide +kernel
theorem dX6_house_141 : decode cX6_house 141 = .ok (.getfield 28, 3) := by decide +kernel
theorem dX6_house_144 : decode cX6_house 144 = .ok (.getfield 148, 3) := by decide +kernel
theorem dX6_house_147 : decode cX6_house 147 = .ok (.ireturn, 1) := by decide +kernel
theorem dX6_house_148 : decode cX6_house 148 = .ok (.aload_n 0, 1) := by decide +kernel
theorem dX6_house_149 : decode cX6_house 149 = .ok (.getfield 35, 3) := by decide +kernel
theorem dX6_house_152 : decode cX6_house 152 = .ok (.getfield 190, 3) := by decide +kernel
theorem dX6_house_155 : decode cX6_house 155 = .ok (.ireturn, 1) := by decide +kernel
theorem dX6_house_156 : decode cX6_house 156 = .ok (.aload_n 0, 1) := by decide +kernel
theorem dX6_house_157 : decode cX6_house 157 = .ok (.getfield 42, 3) := by decide +kernel
theorem dX6_house_160 : decode cX6_house 160 = .ok (.getfield 122, 3) := by decide +kernel
theorem dX6_house_163 : decode cX6_house 163 = .ok (.ireturn, 1) := by decide +kernel
theorem dX6_house_164 : decode cX6_house 164 = .ok (.aload_n 0, 1) := by decide +kernel
theorem dX6_house_165 : decode cX6_house 165 = .ok (.getfield 42, 3) := by decide +kernel
theorem dX6_house_168 : decode cX6_house 168 = .ok (.getfield 127, 3) := by decide +kernel
theorem dX6_house_171 : decode cX6_house 171 = .ok (.invokevirtual 82, 3) := by decide +kernel
theorem dX6_house_174 : decode cX6_house 174 = .ok (.ireturn, 1) := by decide +kernel
theorem dX6_house_175 : decode cX6_house 175 = .ok (.aload_n 0, 1) := by decide +kernel
theorem dX6_house_176 : decode cX6_house 176 = .ok (.getfield 42, 3) := by decide +kernel
theorem dX6_house_179 : decode cX6_house 179 = .ok (.invokevirtual 192, 3) := by decide +kernel
theorem dX6_house_182 : decode cX6_house 182 = .ok (.ireturn, 1) := by decide +kernel
theorem dX6_house_183 : decode cX6_house 183 = .ok (.aload_n 0, 1) := by decide +kernel
theorem dX6_house_184 : decode cX6_house 184 = .ok (.getfield 42, 3) := by decide +kernel
theorem dX6_house_187 : decode cX6_house 187 = .ok (.invokevirtual 195, 3) := by decide +kernel
theorem dX6_house_190 : decode cX6_house 190 = .ok (.ireturn, 1) := by decide +kernel
theorem dX6_house_191 : decode cX6_house 191 = .ok (.aload_n 0, 1) := by decide +kernel
theorem dX6_house_192 : decode cX6_house 192 = .ok (.getfield 50, 3) := by decide +kernel
theorem dX6_house_195 : decode cX6_house 195 = .ok (.ireturn, 1) := by decide +kernel
theorem dX6_house_196 : decode cX6_house 196 = .ok (.new 67, 3) := by decide +kernel
theorem dX6_house_199 : decode cX6_house 199 = .ok (.dup, 1) := by decide +kernel
theorem dX6_house_200 : decode cX6_house 200 = .ok (.ldc 198, 2) := by decide +kernel
theorem dX6_house_202 : decode cX6_house 202 = .ok (.invokespecial 71, 3) := by decide +kernel
theorem dX6_house_205 : decode cX6_house 205 = .ok (.athrow, 1) := by decide +kernel
set_option maxRecDepth 20000 in
theorem ggX6_label_X1_labelOf : GoodIn wsX6_label wsX1_labelOf := goodIn_r _ [7] (by decide +kernel) (by decide +kernel)
set_option maxRecDepth 20000 in
theorem gX6_label_X1_labelOf : GoodIn wsX6_label (va_wsS RX6 207 yX1_labelOf wsX1_labelOf) := goodIn_app (goodIn_of _ (by decide +kernel)) ggX6_label_X1_labelOf
theorem dX6_label_0 : decode cX6_label 0 = .ok (.iload_n 1, 1) := by decide +kernel
theorem dX6_label_1 : decode cX6_label 1 = .ok (.ifCond .lt 9, 3) := by decide +kernel
theorem dX6_label_4 : decode cX6_label 4 = .ok (.iload_n 1, 1) := by decide +kernel
theorem dX6_label_5 : decode cX6_label 5 = .ok (.ldc 204, 2) := by decide +kernel
theorem dX6_label_7 : decode cX6_label 7 = .ok (.if_icmp .lt 13, 3) := by decide +kernel
theorem dX6_label_10 : decode cX6_label 10 = .ok (.new 67, 3) := by decide +kernel
theorem dX6_label_13 : decode cX6_label 13 = .ok (.dup, 1) := by decide +kernel
theorem dX6_label_14 : decode cX6_label 14 = .ok (.ldc 205, 2) := by decide +kernel
theorem dX6_label_16 : decode cX6_label 16 = .ok (.invokespecial 71, 3) := by decide +kernel
theorem dX6_label_19 : decode cX6_label 19 = .ok (.athrow, 1) := by decide +kernel
theorem dX6_label_20 : decode cX6_label 20 = .ok (.iload_n 1, 1) := by decide +kernel
theorem dX6_label_21 : decode cX6_label 21 = .ok (.invokestatic 207, 3) := by decide +kernel
theorem dX6_label_24 : decode cX6_label 24 = .ok (.ireturn, 1) := by decide +kernel
set_option maxRecDepth 20000 in
theorem ggX6_picture_X1_pictureOf : GoodIn wsX6_picture wsX1_pictureOf := goodIn_r _ [4, 5, 6, 3, 7] (by decide +kernel) (by decide +kernel)
set_option maxRecDepth 20000 in
theorem gX6_picture_X1_pictureOf : GoodIn wsX6_picture (va_wsS RX6 212 yX1_pictureOf wsX1_pictureOf) := goodIn_app (goodIn_of _ (by decide +kernel)) ggX6_picture_X1_pictureOf
theorem dX6_picture_0 : decode cX6_picture 0 = .ok (.iload_n 1, 1) := by decide +kernel
theorem dX6_picture_1 : decode cX6_picture 1 = .ok (.invokestatic 212, 3) := by decide +kernel
theorem dX6_picture_4 : decode cX6_picture 4 = .ok (.ireturn, 1) := by decide +kernel
set_option maxRecDepth 20000 in
theorem ggX6_dry_X0_firstDry : GoodIn wsX6_dry wsX0_firstDry := goodIn_r _ [8, 9, 10, 11, 12, 7, 13, 14, 15, 16, 17, 18, 19, 20, 21, 22, 23, 24, 25, 26, 27, 28, 29, 30, 31, 32, 33, 41, 42, 43, 44] (by decide +kernel) (by decide +kernel)
set_option maxRecDepth 20000 in
theorem gX6_dry_X0_firstDry : GoodIn wsX6_dry (wsV RX6 217 RX0 yX0_firstDry wsX0_firstDry) := goodIn_app (goodIn_of _ (by decide +kernel)) ggX6_dry_X0_firstDry
theorem dX6_dry_0 : decode cX6_dry 0 = .ok (.iload_n 1, 1) := by decide +kernel
theorem dX6_dry_1 : decode cX6_dry 1 = .ok (.ifCond .lt 10, 3) := by decide +kernel
theorem dX6_dry_4 : decode cX6_dry 4 = .ok (.iload_n 1, 1) := by decide +kernel
theorem dX6_dry_5 : decode cX6_dry 5 = .ok (.sipush 2000, 3) := by decide +kernel
theorem dX6_dry_8 : decode cX6_dry 8 = .ok (.if_icmp .le 13, 3) := by decide +kernel
theorem dX6_dry_11 : decode cX6_dry 11 = .ok (.new 67, 3) := by decide +kernel
theorem dX6_dry_14 : decode cX6_dry 14 = .ok (.dup, 1) := by decide +kernel
theorem dX6_dry_15 : decode cX6_dry 15 = .ok (.ldc 215, 2) := by decide +kernel
theorem dX6_dry_17 : decode cX6_dry 17 = .ok (.invokespecial 71, 3) := by decide +kernel
theorem dX6_dry_20 : decode cX6_dry 20 = .ok (.athrow, 1) := by decide +kernel
theorem dX6_dry_21 : decode cX6_dry 21 = .ok (.aload_n 0, 1) := by decide +kernel
theorem dX6_dry_22 : decode cX6_dry 22 = .ok (.getfield 42, 3) := by decide +kernel
theorem dX6_dry_25 : decode cX6_dry 25 = .ok (.iload_n 1, 1) := by decide +kernel
theorem dX6_dry_26 : decode cX6_dry 26 = .ok (.invokevirtual 217, 3) := by decide +kernel
theorem dX6_dry_29 : decode cX6_dry 29 = .ok (.ireturn, 1) := by decide +kernel
set_option maxRecDepth 20000 in
theorem ggX6_isSound_X6_printsAreSound : GoodIn wsX6_isSound wsX6_printsAreSound := goodIn_r _ [5, 6, 7, 8, 9, 4, 10, 11, 12, 13, 14, 15, 16, 17, 18, 19, 20, 21, 22, 23, 24, 25, 26, 27, 28, 29, 30, 31, 32, 33, 34, 35, 36, 37, 38, 39, 40, 41, 42, 43, 44, 45, 46, 151, 152, 153, 154, 155, 156, 157, 158, 159, 160, 161, 162, 163] (by decide +kernel) (by decide +kernel)
set_option maxRecDepth 20000 in
theorem gX6_isSound_X6_printsAreSound : GoodIn wsX6_isSound (wsV RX6 227 RX6 yX6_printsAreSound wsX6_printsAreSound) := goodIn_app (goodIn_of _ (by decide +kernel)) ggX6_isSound_X6_printsAreSound
set_option maxRecDepth 20000 in
theorem ggX6_isSound_X6_bufferIsSound : GoodIn wsX6_isSound wsX6_bufferIsSound := goodIn_r _ [50, 51, 52, 53, 54, 55, 56, 57, 58, 59, 60, 30, 61, 62, 19, 20, 21, 22, 23, 63, 37, 38, 39, 40, 64, 65, 66, 67, 68, 69, 70, 71, 72, 73, 74, 75, 76, 29, 31, 151, 152, 153, 154, 155, 156, 157, 164, 165, 162, 163] (by decide +kernel) (by decide +kernel)
set_option maxRecDepth 20000 in
theorem gX6_isSound_X6_bufferIsSound : GoodIn wsX6_isSound (wsV RX6 231 RX6 yX6_bufferIsSound wsX6_bufferIsSound) := goodIn_app (goodIn_of _ (by decide +kernel)) ggX6_isSound_X6_bufferIsSound
set_option maxRecDepth 20000 in
theorem ggX6_isSound_X6_framesAreSound : GoodIn wsX6_isSound wsX6_framesAreSound := goodIn_r _ [80, 81, 82, 83, 84, 85, 86, 87, 88, 89, 90, 91, 92, 93, 94, 95, 96, 97, 98, 99, 100, 19, 20, 21, 22, 23, 101, 37, 38, 39, 40, 102, 103, 104, 105, 106, 107, 108, 109, 110, 111, 112, 113, 114, 115, 116, 117, 118, 119, 120, 121, 122, 123, 124, 125, 126, 127, 128, 129, 130, 131, 132, 133, 151, 152, 153, 154, 155, 156, 157, 166, 167, 168, 169, 170, 171, 172, 173, 174, 175, 176, 177, 178, 179, 180, 162, 163] (by decide +kernel) (by decide +kernel)
set_option maxRecDepth 20000 in
theorem gX6_isSound_X6_framesAreSound : GoodIn wsX6_isSound (wsV RX6 234 RX6 yX6_framesAreSound wsX6_framesAreSound) := goodIn_app (goodIn_of _ (by decide +kernel)) ggX6_isSound_X6_framesAreSound
set_option maxRecDepth 20000 in
theorem ggX6_isSound_X6_labelsAreSound : GoodIn wsX6_isSound wsX6_labelsAreSound := goodIn_r _ [136, 137, 138, 139, 140, 141, 142, 143, 144, 145, 146, 147, 148, 149, 150] (by decide +kernel) (by decide +kernel)
set_option maxRecDepth 20000 in
theorem gX6_isSound_X6_labelsAreSound : GoodIn wsX6_isSound (va_wsS RX6 237 yX6_labelsAreSound wsX6_labelsAreSound) := goodIn_app (goodIn_of _ (by decide +kernel)) ggX6_isSound_X6_labelsAreSound
end
section
theorem dX6_isSound_0 : decode cX6_isSound 0 = .ok (.aload_n 0, 1) := by decide +kernel
theorem dX6_isSound_1 : decode cX6_isSound 1 = .ok (.invokevirtual 227, 3) := by decide +kernel
theorem dX6_isSound_4 : decode cX6_isSound 4 = .ok (.ifCond .eq 27, 3) := by decide +kernel
theorem dX6_isSound_7 : decode cX6_isSound 7 = .ok (.aload_n 0, 1) := by decide +kernel
theorem dX6_isSound_8 : decode cX6_isSound 8 = .ok (.invokevirtual 231, 3) := by decide +kernel
theorem dX6_isSound_11 : decode cX6_isSound 11 = .ok (.ifCond .eq 20, 3) := by decide +kernel
theorem dX6_isSound_14 : decode cX6_isSound 14 = .ok (.aload_n 0, 1) := by decide +kernel
theorem dX6_isSound_15 : decode cX6_isSound 15 = .ok (.invokevirtual 234, 3) := by decide +kernel
theorem dX6_isSound_18 : decode cX6_isSound 18 = .ok (.ifCond .eq 13, 3) := by decide +kernel
theorem dX6_isSound_21 : decode cX6_isSound 21 = .ok (.invokestatic 237, 3) := by decide +kernel
theorem dX6_isSound_24 : decode cX6_isSound 24 = .ok (.ifCond .eq 7, 3) := by decide +kernel
theorem dX6_isSound_27 : decode cX6_isSound 27 = .ok (.iconst 1, 1) := by decide +kernel
theorem dX6_isSound_28 : decode cX6_isSound 28 = .ok (.goto 4, 3) := by decide +kernel
theorem dX6_isSound_31 : decode cX6_isSound 31 = .ok (.iconst 0, 1) := by decide +kernel
theorem dX6_isSound_32 : decode cX6_isSound 32 = .ok (.ireturn, 1) := by decide +kernel
set_option maxRecDepth 20000 in
theorem ggX6_digest_X6_house : GoodIn wsX6_digest wsX6_house := goodIn_ca (goodIn_r _ [8, 9, 10, 11, 3, 12, 13, 14, 15, 16, 17, 18, 19, 20, 21, 22, 23, 24, 25, 26, 27, 28, 29, 30, 31, 32, 33, 34, 35, 36, 37, 38, 39, 40, 41, 42, 43, 44, 45, 46, 47, 48, 49, 50, 51, 52, 53, 54, 55, 56, 57, 58, 59, 60, 61, 62, 63, 64, 65, 66, 67, 68, 69, 70, 71, 72, 73, 74, 75, 76, 77, 78, 79, 80, 81, 82, 83, 84, 85, 86, 87, 88, 89, 90, 91, 92, 93, 94, 95, 96, 97, 98, 99, 100, 101, 102, 103, 104, 237, 238, 239, 240, 241, 242, 243, 244, 245, 246, 247, 248, 249, 250, 251, 252, 253, 254, 255, 256, 257, 258, 259, 260, 261, 262, 263, 264, 265, 266] (by decide +kernel) (by decide +kernel)) (goodIn_sub (fun _ h => List.mem_cons_of_mem _ (List.mem_append_left _ (List.mem_append_right _ h))) (by decide +kernel))
set_option maxRecDepth 20000 in
theorem gX6_digest_X6_house : GoodIn wsX6_digest (wsV RX6 244 RX6 yX6_house wsX6_house) := goodIn_app (goodIn_of _ (by decide +kernel)) ggX6_digest_X6_house
set_option maxRecDepth 20000 in
theorem ggX6_digest_X6_withFields : GoodIn wsX6_digest wsX6_withFields := goodIn_ca (goodIn_ca (goodIn_r _ [108, 3, 2, 17, 18, 19, 20, 21, 22, 109, 110, 111, 7, 112, 9, 10, 13, 12, 113, 114, 115, 116, 117, 118, 119, 120, 121, 122, 23, 24, 25, 26, 27, 28, 29, 30, 31, 32, 33, 34, 35, 36, 37, 38, 39, 40, 41, 42, 43, 44, 45, 46, 47, 48, 49, 50, 51, 52, 53, 54, 55, 56, 57, 58, 59, 60, 61, 62, 63, 64, 65, 66, 67, 68, 69, 70, 71, 72, 73, 74, 75, 123, 124, 125, 126, 127, 128, 129, 130, 237, 238, 239, 240, 241, 242, 243, 244, 245, 246, 247, 248, 249, 265, 266, 250, 251, 252, 253, 254, 255, 256, 257, 258] (by decide +kernel) (by decide +kernel)) (goodIn_sub (fun _ h => List.mem_cons_of_mem _ (List.mem_append_left _ (List.mem_append_right _ h))) (by decide +kernel))) (goodIn_sub (fun _ h => List.mem_cons_of_mem _ (List.mem_append_right _ h)) (by decide +kernel))
set_option maxRecDepth 20000 in
theorem gX6_digest_X6_withFields : GoodIn wsX6_digest (wsV RX6 247 RX6 yX6_withFields wsX6_withFields) := goodIn_app (goodIn_of _ (by decide +kernel)) ggX6_digest_X6_withFields
set_option maxRecDepth 20000 in
theorem ggX6_digest_X6_withFoundFrames : GoodIn wsX6_digest wsX6_withFoundFrames := goodIn_ca (goodIn_ca (goodIn_r _ [134, 13, 2, 135, 136, 137, 7, 138, 117, 118, 9, 10, 3, 12, 23, 24, 25, 26, 27, 28, 29, 30, 31, 32, 33, 34, 35, 36, 37, 38, 39, 18, 19, 20, 21, 22, 40, 41, 42, 43, 44, 45, 46, 47, 48, 49, 50, 51, 52, 53, 54, 55, 56, 57, 58, 59, 60, 61, 62, 63, 64, 65, 66, 67, 68, 69, 70, 71, 72, 73, 74, 75, 237, 238, 239, 240, 241, 242, 243, 250, 251, 252, 253, 254, 255, 256, 257, 258, 244, 245, 246, 247, 248, 249, 265, 266] (by decide +kernel) (by decide +kernel)) (goodIn_sub (fun _ h => List.mem_cons_of_mem _ (List.mem_append_right _ h)) (by decide +kernel))) (goodIn_sub (fun _ h => List.mem_cons_of_mem _ (List.mem_append_left _ (List.mem_append_right _ h))) (by decide +kernel))
set_option maxRecDepth 20000 in
theorem gX6_digest_X6_withFoundFrames : GoodIn wsX6_digest (wsV RX6 251 RX6 yX6_withFoundFrames wsX6_withFoundFrames) := goodIn_app (goodIn_of _ (by decide +kernel)) ggX6_digest_X6_withFoundFrames
set_option maxRecDepth 20000 in
theorem ggX6_digest_X6_withPrints : GoodIn wsX6_digest wsX6_withPrints := goodIn_r _ [142, 14, 2, 143, 144, 145, 146, 147, 148, 149, 150, 18, 19, 20, 21, 22, 151, 152, 153, 154, 155, 103, 85, 104, 156, 120, 121, 122, 157, 41, 42, 43, 44, 158, 159, 160, 161, 162, 163, 164, 165, 166, 167, 168, 169, 170, 171, 172, 173, 237, 238, 239, 240, 241, 242, 243, 259, 260, 261, 262, 265, 266] (by decide +kernel) (by decide +kernel)
set_option maxRecDepth 20000 in
theorem gX6_digest_X6_withPrints : GoodIn wsX6_digest (wsV RX6 254 RX6 yX6_withPrints wsX6_withPrints) := goodIn_app (goodIn_of _ (by decide +kernel)) ggX6_digest_X6_withPrints
set_option maxRecDepth 20000 in
theorem ggX6_digest_X4_many : GoodIn wsX6_digest wsX4_many := goodIn_r _ [21, 22, 265, 266] (by decide +kernel) (by decide +kernel)
set_option maxRecDepth 20000 in
theorem gX6_digest_X4_many : GoodIn wsX6_digest (wsV RX6 82 RX4 yX4_many wsX4_many) := goodIn_app (goodIn_of _ (by decide +kernel)) ggX6_digest_X4_many
set_option maxRecDepth 20000 in
theorem ggX6_digest_X6_label : GoodIn wsX6_digest wsX6_label := goodIn_ca (goodIn_r _ [177, 9, 10, 178, 179, 180, 181, 182] (by decide +kernel) (by decide +kernel)) (goodIn_sub (fun _ h => List.mem_cons_of_mem _ (List.mem_append_left _ (List.mem_append_right _ h))) (by decide +kernel))
set_option maxRecDepth 20000 in
theorem gX6_digest_X6_label : GoodIn wsX6_digest (wsV RX6 257 RX6 yX6_label wsX6_label) := goodIn_app (goodIn_of _ (by decide +kernel)) ggX6_digest_X6_label
set_option maxRecDepth 20000 in
theorem ggX6_digest_X6_dry : GoodIn wsX6_digest wsX6_dry := goodIn_ca (goodIn_r _ [186, 9, 10, 15, 187, 188, 189, 79, 190, 81, 94, 95, 96, 97, 87, 18, 19, 20, 21, 22, 88, 41, 42, 43, 44, 98, 99, 100, 101, 82, 102, 103, 85, 104, 237, 238, 239, 240, 241, 242, 243, 263, 264, 265, 266] (by decide +kernel) (by decide +kernel)) (goodIn_sub (fun _ h => List.mem_cons_of_mem _ (List.mem_append_left _ (List.mem_append_right _ h))) (by decide +kernel))
set_option maxRecDepth 20000 in
theorem gX6_digest_X6_dry : GoodIn wsX6_digest (wsV RX6 260 RX6 yX6_dry wsX6_dry) := goodIn_app (goodIn_of _ (by decide +kernel)) ggX6_digest_X6_dry
set_option maxRecDepth 20000 in
theorem ggX6_digest_X5_nameLooks : GoodIn wsX6_digest wsX5_nameLooks := goodIn_r _ [194, 195, 196, 197, 18, 19, 20, 21, 22, 198, 199, 200, 127, 201, 202, 41, 42, 43, 44, 244, 245, 246, 247, 248, 249, 265, 266] (by decide +kernel) (by decide +kernel)
set_option maxRecDepth 20000 in
theorem gX6_digest_X5_nameLooks : GoodIn wsX6_digest (wsV RX6 201 RX5 yX5_nameLooks wsX5_nameLooks) := goodIn_app (goodIn_of _ (by decide +kernel)) ggX6_digest_X5_nameLooks
set_option maxRecDepth 20000 in
theorem ggX6_digest_X6_isSound : GoodIn wsX6_digest wsX6_isSound := goodIn_r _ [206, 207, 208, 209, 7, 210, 14, 211, 212, 213, 214, 143, 144, 145, 146, 147, 148, 149, 150, 18, 19, 20, 21, 22, 151, 152, 153, 154, 155, 103, 85, 104, 156, 120, 121, 122, 157, 41, 42, 43, 44, 158, 159, 160, 161, 162, 163, 215, 216, 217, 218, 15, 76, 77, 78, 79, 80, 81, 82, 83, 84, 86, 87, 88, 187, 188, 189, 190, 94, 95, 96, 97, 98, 99, 100, 101, 102, 219, 220, 221, 222, 13, 3, 12, 23, 24, 25, 26, 27, 28, 29, 30, 31, 32, 33, 34, 35, 36, 37, 38, 39, 40, 45, 46, 47, 48, 49, 50, 51, 52, 53, 54, 55, 56, 57, 58, 59, 60, 61, 62, 63, 64, 65, 66, 67, 68, 69, 70, 71, 72, 73, 74, 75, 17, 223, 224, 225, 226, 227, 228, 181, 229, 230, 180, 182, 231, 232, 233, 234, 235, 236, 237, 238, 239, 240, 241, 242, 243, 259, 260, 261, 262, 265, 266, 263, 264, 244, 245, 246, 247, 248, 249, 250, 251, 252, 253, 254, 255, 256, 257, 258] (by decide +kernel) (by decide +kernel)
set_option maxRecDepth 20000 in
theorem gX6_digest_X6_isSound : GoodIn wsX6_digest (wsV RX6 263 RX6 yX6_isSound wsX6_isSound) := goodIn_app (goodIn_of _ (by decide +kernel)) ggX6_digest_X6_isSound
theorem dX6_digest_0 : decode cX6_digest 0 = .ok (.ldc2_w 240, 3) := by decide +kernel
theorem dX6_digest_3 : decode cX6_digest 3 = .ok (.lstore_n 1, 1) := by decide +kernel
theorem dX6_digest_4 : decode cX6_digest 4 = .ok (.iconst 0, 1) := by decide +kernel
theorem dX6_digest_5 : decode cX6_digest 5 = .ok (.istore_n 3, 1) := by decide +kernel
theorem dX6_digest_6 : decode cX6_digest 6 = .ok (.iload_n 3, 1) := by decide +kernel
theorem dX6_digest_7 : decode cX6_digest 7 = .ok (.bipush 12, 2) := by decide +kernel
theorem dX6_digest_9 : decode cX6_digest 9 = .ok (.if_icmp .ge 22, 3) := by decide +kernel
theorem dX6_digest_12 : decode cX6_digest 12 = .ok (.lload_n 1, 1) := by decide +kernel
theorem dX6_digest_13 : decode cX6_digest 13 = .ok (.ldc2_w 242, 3) := by decide +kernel
theorem dX6_digest_16 : decode cX6_digest 16 = .ok (.lmul, 1) := by decide +kernel
theorem dX6_digest_17 : decode cX6_digest 17 = .ok (.aload_n 0, 1) := by decide +kernel
theorem dX6_digest_18 : decode cX6_digest 18 = .ok (.iload_n 3, 1) := by decide +kernel
theorem dX6_digest_19 : decode cX6_digest 19 = .ok (.invokevirtual 244, 3) := by decide +kernel
theorem dX6_digest_22 : decode cX6_digest 22 = .ok (.i2l, 1) := by decide +kernel
theorem dX6_digest_23 : decode cX6_digest 23 = .ok (.ladd, 1) := by decide +kernel
theorem dX6_digest_24 : decode cX6_digest 24 = .ok (.lstore_n 1, 1) := by decide +kernel
theorem dX6_digest_25 : decode cX6_digest 25 = .ok (.iinc 3 1, 3) := by decide +kernel
theorem dX6_digest_28 : decode cX6_digest 28 = .ok (.goto (-22), 3) := by decide +kernel
theorem dX6_digest_31 : decode cX6_digest 31 = .ok (.aload_n 0, 1) := by decide +kernel
theorem dX6_digest_32 : decode cX6_digest 32 = .ok (.lload_n 1, 1) := by decide +kernel
theorem dX6_digest_33 : decode cX6_digest 33 = .ok (.invokevirtual 247, 3) := by decide +kernel
theorem dX6_digest_36 : decode cX6_digest 36 = .ok (.lstore_n 1, 1) := by decide +kernel
theorem dX6_digest_37 : decode cX6_digest 37 = .ok (.aload_n 0, 1) := by decide +kernel
theorem dX6_digest_38 : decode cX6_digest 38 = .ok (.lload_n 1, 1) := by decide +kernel
theorem dX6_digest_39 : decode cX6_digest 39 = .ok (.invokevirtual 251, 3) := by decide +kernel
theorem dX6_digest_42 : decode cX6_digest 42 = .ok (.lstore_n 1, 1) := by decide +kernel
theorem dX6_digest_43 : decode cX6_digest 43 = .ok (.aload_n 0, 1) := by decide +kernel
theorem dX6_digest_44 : decode cX6_digest 44 = .ok (.lload_n 1, 1) := by decide +kernel
theorem dX6_digest_45 : decode cX6_digest 45 = .ok (.invokevirtual 254, 3) := by decide +kernel
theorem dX6_digest_48 : decode cX6_digest 48 = .ok (.lstore_n 1, 1) := by decide +kernel
theorem dX6_digest_49 : decode cX6_digest 49 = .ok (.lload_n 1, 1) := by decide +kernel
theorem dX6_digest_50 : decode cX6_digest 50 = .ok (.ldc2_w 242, 3) := by decide +kernel
theorem dX6_digest_53 : decode cX6_digest 53 = .ok (.lmul, 1) := by decide +kernel
theorem dX6_digest_54 : decode cX6_digest 54 = .ok (.aload_n 0, 1) := by decide +kernel
theorem dX6_digest_55 : decode cX6_digest 55 = .ok (.sipush 1800, 3) := by decide +kernel
theorem dX6_digest_58 : decode cX6_digest 58 = .ok (.sipush 977, 3) := by decide +kernel
theorem dX6_digest_61 : decode cX6_digest 61 = .ok (.aload_n 0, 1) := by decide +kernel
theorem dX6_digest_62 : decode cX6_digest 62 = .ok (.getfield 21, 3) := by decide +kernel
theorem dX6_digest_65 : decode cX6_digest 65 = .ok (.getfield 79, 3) := by decide +kernel
theorem dX6_digest_68 : decode cX6_digest 68 = .ok (.invokevirtual 82, 3) := by decide +kernel
theorem dX6_digest_71 : decode cX6_digest 71 = .ok (.imul, 1) := by decide +kernel
theorem dX6_digest_72 : decode cX6_digest 72 = .ok (.iadd, 1) := by decide +kernel
theorem dX6_digest_73 : decode cX6_digest 73 = .ok (.invokevirtual 257, 3) := by decide +kernel
theorem dX6_digest_76 : decode cX6_digest 76 = .ok (.i2l, 1) := by decide +kernel
theorem dX6_digest_77 : decode cX6_digest 77 = .ok (.ladd, 1) := by decide +kernel
theorem dX6_digest_78 : decode cX6_digest 78 = .ok (.lstore_n 1, 1) := by decide +kernel
theorem dX6_digest_79 : decode cX6_digest 79 = .ok (.lload_n 1, 1) := by decide +kernel
theorem dX6_digest_80 : decode cX6_digest 80 = .ok (.ldc2_w 242, 3) := by decide +kernel
theorem dX6_digest_83 : decode cX6_digest 83 = .ok (.lmul, 1) := by decide +kernel
theorem dX6_digest_84 : decode cX6_digest 84 = .ok (.aload_n 0, 1) := by decide +kernel
theorem dX6_digest_85 : decode cX6_digest 85 = .ok (.iconst 3, 1) := by decide +kernel
theorem dX6_digest_86 : decode cX6_digest 86 = .ok (.invokevirtual 260, 3) := by decide +kernel
theorem dX6_digest_89 : decode cX6_digest 89 = .ok (.i2l, 1) := by decide +kernel
theorem dX6_digest_90 : decode cX6_digest 90 = .ok (.ladd, 1) := by decide +kernel
theorem dX6_digest_91 : decode cX6_digest 91 = .ok (.lstore_n 1, 1) := by decide +kernel
theorem dX6_digest_92 : decode cX6_digest 92 = .ok (.lload_n 1, 1) := by decide +kernel
theorem dX6_digest_93 : decode cX6_digest 93 = .ok (.ldc2_w 242, 3) := by decide +kernel
theorem dX6_digest_96 : decode cX6_digest 96 = .ok (.lmul, 1) := by decide +kernel
theorem dX6_digest_97 : decode cX6_digest 97 = .ok (.aload_n 0, 1) := by decide +kernel
theorem dX6_digest_98 : decode cX6_digest 98 = .ok (.getfield 21, 3) := by decide +kernel
theorem dX6_digest_101 : decode cX6_digest 101 = .ok (.invokevirtual 201, 3) := by decide +kernel
theorem dX6_digest_104 : decode cX6_digest 104 = .ok (.i2l, 1) := by decide +kernel
theorem dX6_digest_105 : decode cX6_digest 105 = .ok (.ladd, 1) := by decide +kernel
theorem dX6_digest_106 : decode cX6_digest 106 = .ok (.lstore_n 1, 1) := by decide +kernel
theorem dX6_digest_107 : decode cX6_digest 107 = .ok (.lload_n 1, 1) := by decide +kernel
theorem dX6_digest_108 : decode cX6_digest 108 = .ok (.ldc2_w 242, 3) := by decide +kernel
theorem dX6_digest_111 : decode cX6_digest 111 = .ok (.lmul, 1) := by decide +kernel
theorem dX6_digest_112 : decode cX6_digest 112 = .ok (.aload_n 0, 1) := by decide +kernel
theorem dX6_digest_113 : decode cX6_digest 113 = .ok (.invokevirtual 263, 3) := by decide +kernel
theorem dX6_digest_116 : decode cX6_digest 116 = .ok (.ifCond .eq 7, 3) := by decide +kernel
theorem dX6_digest_119 : decode cX6_digest 119 = .ok (.iconst 1, 1) := by decide +kernel
theorem dX6_digest_120 : decode cX6_digest 120 = .ok (.goto 4, 3) := by decide +kernel
theorem dX6_digest_123 : decode cX6_digest 123 = .ok (.iconst 0, 1) := by decide +kernel
theorem dX6_digest_124 : decode cX6_digest 124 = .ok (.i2l, 1) := by decide +kernel
theorem dX6_digest_125 : decode cX6_digest 125 = .ok (.ladd, 1) := by decide +kernel
theorem dX6_digest_126 : decode cX6_digest 126 = .ok (.lreturn, 1) := by decide +kernel
theorem dX6_requireLook_0 : decode cX6_requireLook 0 = .ok (.iload_n 0, 1) := by decide +kernel
theorem dX6_requireLook_1 : decode cX6_requireLook 1 = .ok (.ifCond .lt 9, 3) := by decide +kernel
theorem dX6_requireLook_4 : decode cX6_requireLook 4 = .ok (.iload_n 0, 1) := by decide +kernel
theorem dX6_requireLook_5 : decode cX6_requireLook 5 = .ok (.bipush 100, 2) := by decide +kernel
theorem dX6_requireLook_7 : decode cX6_requireLook 7 = .ok (.if_icmp .lt 14, 3) := by decide +kernel
theorem dX6_requireLook_10 : decode cX6_requireLook 10 = .ok (.new 67, 3) := by decide +kernel
theorem dX6_requireLook_13 : decode cX6_requireLook 13 = .ok (.dup, 1) := by decide +kernel
theorem dX6_requireLook_14 : decode cX6_requireLook 14 = .ok (.ldc_w 266, 3) := by decide +kernel
theorem dX6_requireLook_17 : decode cX6_requireLook 17 = .ok (.invokespecial 71, 3) := by decide +kernel
theorem dX6_requireLook_20 : decode cX6_requireLook 20 = .ok (.athrow, 1) := by decide +kernel
theorem dX6_requireLook_21 : decode cX6_requireLook 21 = .ok (.return_, 1) := by decide +kernel
set_option maxRecDepth 20000 in
theorem ggX6_requireField_X4_has : GoodIn wsX6_requireField wsX4_has := goodIn_r _ [8, 9, 23, 24] (by decide +kernel) (by decide +kernel)
set_option maxRecDepth 20000 in
theorem gX6_requireField_X4_has : GoodIn wsX6_requireField (wsV RX6 268 RX4 yX4_has wsX4_has) := goodIn_app (goodIn_of _ (by decide +kernel)) ggX6_requireField_X4_has
theorem dX6_requireField_0 : decode cX6_requireField 0 = .ok (.aload_n 0, 1) := by decide +kernel
theorem dX6_requireField_1 : decode cX6_requireField 1 = .ok (.getfield 21, 3) := by decide +kernel
theorem dX6_requireField_4 : decode cX6_requireField 4 = .ok (.getfield 79, 3) := by decide +kernel
theorem dX6_requireField_7 : decode cX6_requireField 7 = .ok (.iload_n 1, 1) := by decide +kernel
theorem dX6_requireField_8 : decode cX6_requireField 8 = .ok (.invokevirtual 268, 3) := by decide +kernel
theorem dX6_requireField_11 : decode cX6_requireField 11 = .ok (.ifCond .ne 14, 3) := by decide +kernel
theorem dX6_requireField_14 : decode cX6_requireField 14 = .ok (.new 151, 3) := by decide +kernel
theorem dX6_requireField_17 : decode cX6_requireField 17 = .ok (.dup, 1) := by decide +kernel
theorem dX6_requireField_18 : decode cX6_requireField 18 = .ok (.ldc_w 271, 3) := by decide +kernel
theorem dX6_requireField_21 : decode cX6_requireField 21 = .ok (.invokespecial 155, 3) := by decide +kernel
theorem dX6_requireField_24 : decode cX6_requireField 24 = .ok (.athrow, 1) := by decide +kernel
theorem dX6_requireField_25 : decode cX6_requireField 25 = .ok (.return_, 1) := by decide +kernel
set_option maxRecDepth 20000 in
theorem ggX6_requirePrint_X2_has : GoodIn wsX6_requirePrint wsX2_has := goodIn_r _ [8, 9, 17, 18, 19, 20] (by decide +kernel) (by decide +kernel)
set_option maxRecDepth 20000 in
theorem gX6_requirePrint_X2_has : GoodIn wsX6_requirePrint (wsV RX6 273 RX2 yX2_has wsX2_has) := goodIn_app (goodIn_of _ (by decide +kernel)) ggX6_requirePrint_X2_has
theorem dX6_requirePrint_0 : decode cX6_requirePrint 0 = .ok (.aload_n 0, 1) := by decide +kernel
theorem dX6_requirePrint_1 : decode cX6_requirePrint 1 = .ok (.getfield 35, 3) := by decide +kernel
theorem dX6_requirePrint_4 : decode cX6_requirePrint 4 = .ok (.iload_n 1, 1) := by decide +kernel
theorem dX6_requirePrint_5 : decode cX6_requirePrint 5 = .ok (.invokevirtual 273, 3) := by decide +kernel
theorem dX6_requirePrint_8 : decode cX6_requirePrint 8 = .ok (.ifCond .ne 14, 3) := by decide +kernel
theorem dX6_requirePrint_11 : decode cX6_requirePrint 11 = .ok (.new 151, 3) := by decide +kernel
theorem dX6_requirePrint_14 : decode cX6_requirePrint 14 = .ok (.dup, 1) := by decide +kernel
theorem dX6_requirePrint_15 : decode cX6_requirePrint 15 = .ok (.ldc_w 274, 3) := by decide +kernel
theorem dX6_requirePrint_18 : decode cX6_requirePrint 18 = .ok (.invokespecial 155, 3) := by decide +kernel
theorem dX6_requirePrint_21 : decode cX6_requirePrint 21 = .ok (.athrow, 1) := by decide +kernel
theorem dX6_requirePrint_22 : decode cX6_requirePrint 22 = .ok (.return_, 1) := by decide +kernel
set_option maxRecDepth 20000 in
theorem ggX6_printsAreSound_X6_pairIsSound : GoodIn wsX6_printsAreSound wsX6_pairIsSound := goodIn_r _ [6, 1, 7, 8, 9, 10, 11, 12, 13, 14, 15, 16, 17, 18, 19, 20, 21, 22, 23, 24, 25, 26, 27, 28, 29, 30, 31, 32, 33, 34, 35, 36, 37, 38, 39, 40, 41, 42, 43, 44, 45, 46, 47, 48, 49, 50, 51, 52, 53, 54, 55] (by decide +kernel) (by decide +kernel)
set_option maxRecDepth 20000 in
theorem gX6_printsAreSound_X6_pairIsSound : GoodIn wsX6_printsAreSound (wsV RX6 287 RX6 yX6_pairIsSound wsX6_pairIsSound) := goodIn_app (goodIn_of _ (by decide +kernel)) ggX6_printsAreSound_X6_pairIsSound
theorem dX6_printsAreSound_0 : decode cX6_printsAreSound 0 = .ok (.iconst 0, 1) := by decide +kernel
theorem dX6_printsAreSound_1 : decode cX6_printsAreSound 1 = .ok (.istore_n 1, 1) := by decide +kernel
theorem dX6_printsAreSound_2 : decode cX6_printsAreSound 2 = .ok (.iload_n 1, 1) := by decide +kernel
theorem dX6_printsAreSound_3 : decode cX6_printsAreSound 3 = .ok (.aload_n 0, 1) := by decide +kernel
theorem dX6_printsAreSound_4 : decode cX6_printsAreSound 4 = .ok (.getfield 35, 3) := by decide +kernel
theorem dX6_printsAreSound_7 : decode cX6_printsAreSound 7 = .ok (.getfield 190, 3) := by decide +kernel
theorem dX6_printsAreSound_10 : decode cX6_printsAreSound 10 = .ok (.if_icmp .ge 39, 3) := by decide +kernel
theorem dX6_printsAreSound_13 : decode cX6_printsAreSound 13 = .ok (.iconst 0, 1) := by decide +kernel
theorem dX6_printsAreSound_14 : decode cX6_printsAreSound 14 = .ok (.istore_n 2, 1) := by decide +kernel
theorem dX6_printsAreSound_15 : decode cX6_printsAreSound 15 = .ok (.iload_n 2, 1) := by decide +kernel
theorem dX6_printsAreSound_16 : decode cX6_printsAreSound 16 = .ok (.aload_n 0, 1) := by decide +kernel
theorem dX6_printsAreSound_17 : decode cX6_printsAreSound 17 = .ok (.getfield 35, 3) := by decide +kernel
theorem dX6_printsAreSound_20 : decode cX6_printsAreSound 20 = .ok (.getfield 190, 3) := by decide +kernel
theorem dX6_printsAreSound_23 : decode cX6_printsAreSound 23 = .ok (.if_icmp .ge 20, 3) := by decide +kernel
theorem dX6_printsAreSound_26 : decode cX6_printsAreSound 26 = .ok (.aload_n 0, 1) := by decide +kernel
theorem dX6_printsAreSound_27 : decode cX6_printsAreSound 27 = .ok (.iload_n 1, 1) := by decide +kernel
theorem dX6_printsAreSound_28 : decode cX6_printsAreSound 28 = .ok (.iload_n 2, 1) := by decide +kernel
theorem dX6_printsAreSound_29 : decode cX6_printsAreSound 29 = .ok (.invokevirtual 287, 3) := by decide +kernel
theorem dX6_printsAreSound_32 : decode cX6_printsAreSound 32 = .ok (.ifCond .ne 5, 3) := by decide +kernel
theorem dX6_printsAreSound_35 : decode cX6_printsAreSound 35 = .ok (.iconst 0, 1) := by decide +kernel
theorem dX6_printsAreSound_36 : decode cX6_printsAreSound 36 = .ok (.ireturn, 1) := by decide +kernel
theorem dX6_printsAreSound_37 : decode cX6_printsAreSound 37 = .ok (.iinc 2 1, 3) := by decide +kernel
theorem dX6_printsAreSound_40 : decode cX6_printsAreSound 40 = .ok (.goto (-25), 3) := by decide +kernel
theorem dX6_printsAreSound_43 : decode cX6_printsAreSound 43 = .ok (.iinc 1 1, 3) := by decide +kernel
theorem dX6_printsAreSound_46 : decode cX6_printsAreSound 46 = .ok (.goto (-44), 3) := by decide +kernel
theorem dX6_printsAreSound_49 : decode cX6_printsAreSound 49 = .ok (.iconst 1, 1) := by decide +kernel
theorem dX6_printsAreSound_50 : decode cX6_printsAreSound 50 = .ok (.ireturn, 1) := by decide +kernel
set_option maxRecDepth 20000 in
theorem ggX6_pairIsSound_X2_distance : GoodIn wsX6_pairIsSound wsX2_distance := goodIn_r _ [6, 7, 8, 9, 10, 11, 12, 13, 14, 15, 16, 17, 5, 18, 19, 20, 21, 22, 23, 24, 25, 26, 27, 28, 29, 30, 31, 32, 33, 34, 35, 36, 37, 45, 46, 47, 48, 49, 50] (by decide +kernel) (by decide +kernel)
set_option maxRecDepth 20000 in
theorem gX6_pairIsSound_X2_distance : GoodIn wsX6_pairIsSound (wsV RX6 169 RX2 yX2_distance wsX2_distance) := goodIn_app (goodIn_of _ (by decide +kernel)) ggX6_pairIsSound_X2_distance
theorem dX6_pairIsSound_0 : decode cX6_pairIsSound 0 = .ok (.aload_n 0, 1) := by decide +kernel
theorem dX6_pairIsSound_1 : decode cX6_pairIsSound 1 = .ok (.getfield 35, 3) := by decide +kernel
theorem dX6_pairIsSound_4 : decode cX6_pairIsSound 4 = .ok (.iload_n 1, 1) := by decide +kernel
theorem dX6_pairIsSound_5 : decode cX6_pairIsSound 5 = .ok (.iload_n 2, 1) := by decide +kernel
theorem dX6_pairIsSound_6 : decode cX6_pairIsSound 6 = .ok (.invokevirtual 169, 3) := by decide +kernel
theorem dX6_pairIsSound_9 : decode cX6_pairIsSound 9 = .ok (.istore_n 3, 1) := by decide +kernel
theorem dX6_pairIsSound_10 : decode cX6_pairIsSound 10 = .ok (.iload_n 1, 1) := by decide +kernel
theorem dX6_pairIsSound_11 : decode cX6_pairIsSound 11 = .ok (.iload_n 2, 1) := by decide +kernel
theorem dX6_pairIsSound_12 : decode cX6_pairIsSound 12 = .ok (.if_icmp .ne 13, 3) := by decide +kernel
theorem dX6_pairIsSound_15 : decode cX6_pairIsSound 15 = .ok (.iload_n 3, 1) := by decide +kernel
theorem dX6_pairIsSound_16 : decode cX6_pairIsSound 16 = .ok (.ifCond .ne 7, 3) := by decide +kernel
theorem dX6_pairIsSound_19 : decode cX6_pairIsSound 19 = .ok (.iconst 1, 1) := by decide +kernel
theorem dX6_pairIsSound_20 : decode cX6_pairIsSound 20 = .ok (.goto 4, 3) := by decide +kernel
theorem dX6_pairIsSound_23 : decode cX6_pairIsSound 23 = .ok (.iconst 0, 1) := by decide +kernel
theorem dX6_pairIsSound_24 : decode cX6_pairIsSound 24 = .ok (.ireturn, 1) := by decide +kernel
theorem dX6_pairIsSound_25 : decode cX6_pairIsSound 25 = .ok (.iload_n 3, 1) := by decide +kernel
theorem dX6_pairIsSound_26 : decode cX6_pairIsSound 26 = .ok (.aload_n 0, 1) := by decide +kernel
theorem dX6_pairIsSound_27 : decode cX6_pairIsSound 27 = .ok (.getfield 35, 3) := by decide +kernel
theorem dX6_pairIsSound_30 : decode cX6_pairIsSound 30 = .ok (.iload_n 2, 1) := by decide +kernel
theorem dX6_pairIsSound_31 : decode cX6_pairIsSound 31 = .ok (.iload_n 1, 1) := by decide +kernel
theorem dX6_pairIsSound_32 : decode cX6_pairIsSound 32 = .ok (.invokevirtual 169, 3) := by decide +kernel
theorem dX6_pairIsSound_35 : decode cX6_pairIsSound 35 = .ok (.if_icmp .eq 5, 3) := by decide +kernel
theorem dX6_pairIsSound_38 : decode cX6_pairIsSound 38 = .ok (.iconst 0, 1) := by decide +kernel
theorem dX6_pairIsSound_39 : decode cX6_pairIsSound 39 = .ok (.ireturn, 1) := by decide +kernel
theorem dX6_pairIsSound_40 : decode cX6_pairIsSound 40 = .ok (.iconst 0, 1) := by decide +kernel
theorem dX6_pairIsSound_41 : decode cX6_pairIsSound 41 = .ok (.istore 4, 2) := by decide +kernel
theorem dX6_pairIsSound_43 : decode cX6_pairIsSound 43 = .ok (.iload 4, 2) := by decide +kernel
theorem dX6_pairIsSound_45 : decode cX6_pairIsSound 45 = .ok (.aload_n 0, 1) := by decide +kernel
theorem dX6_pairIsSound_46 : decode cX6_pairIsSound 46 = .ok (.getfield 35, 3) := by decide +kernel
theorem dX6_pairIsSound_49 : decode cX6_pairIsSound 49 = .ok (.getfield 190, 3) := by decide +kernel
theorem dX6_pairIsSound_52 : decode cX6_pairIsSound 52 = .ok (.if_icmp .ge 48, 3) := by decide +kernel
theorem dX6_pairIsSound_55 : decode cX6_pairIsSound 55 = .ok (.iload 4, 2) := by decide +kernel
theorem dX6_pairIsSound_57 : decode cX6_pairIsSound 57 = .ok (.iload_n 1, 1) := by decide +kernel
theorem dX6_pairIsSound_58 : decode cX6_pairIsSound 58 = .ok (.if_icmp .eq 36, 3) := by decide +kernel
theorem dX6_pairIsSound_61 : decode cX6_pairIsSound 61 = .ok (.iload 4, 2) := by decide +kernel
theorem dX6_pairIsSound_63 : decode cX6_pairIsSound 63 = .ok (.iload_n 2, 1) := by decide +kernel
theorem dX6_pairIsSound_64 : decode cX6_pairIsSound 64 = .ok (.if_icmp .eq 30, 3) := by decide +kernel
theorem dX6_pairIsSound_67 : decode cX6_pairIsSound 67 = .ok (.iload_n 3, 1) := by decide +kernel
theorem dX6_pairIsSound_68 : decode cX6_pairIsSound 68 = .ok (.aload_n 0, 1) := by decide +kernel
theorem dX6_pairIsSound_69 : decode cX6_pairIsSound 69 = .ok (.getfield 35, 3) := by decide +kernel
theorem dX6_pairIsSound_72 : decode cX6_pairIsSound 72 = .ok (.iload_n 1, 1) := by decide +kernel
theorem dX6_pairIsSound_73 : decode cX6_pairIsSound 73 = .ok (.iload 4, 2) := by decide +kernel
theorem dX6_pairIsSound_75 : decode cX6_pairIsSound 75 = .ok (.invokevirtual 169, 3) := by decide +kernel
theorem dX6_pairIsSound_78 : decode cX6_pairIsSound 78 = .ok (.aload_n 0, 1) := by decide +kernel
theorem dX6_pairIsSound_79 : decode cX6_pairIsSound 79 = .ok (.getfield 35, 3) := by decide +kernel
theorem dX6_pairIsSound_82 : decode cX6_pairIsSound 82 = .ok (.iload 4, 2) := by decide +kernel
theorem dX6_pairIsSound_84 : decode cX6_pairIsSound 84 = .ok (.iload_n 2, 1) := by decide +kernel
theorem dX6_pairIsSound_85 : decode cX6_pairIsSound 85 = .ok (.invokevirtual 169, 3) := by decide +kernel
theorem dX6_pairIsSound_88 : decode cX6_pairIsSound 88 = .ok (.iadd, 1) := by decide +kernel
theorem dX6_pairIsSound_89 : decode cX6_pairIsSound 89 = .ok (.if_icmp .le 5, 3) := by decide +kernel
theorem dX6_pairIsSound_92 : decode cX6_pairIsSound 92 = .ok (.iconst 0, 1) := by decide +kernel
theorem dX6_pairIsSound_93 : decode cX6_pairIsSound 93 = .ok (.ireturn, 1) := by decide +kernel
theorem dX6_pairIsSound_94 : decode cX6_pairIsSound 94 = .ok (.iinc 4 1, 3) := by decide +kernel
theorem dX6_pairIsSound_97 : decode cX6_pairIsSound 97 = .ok (.goto (-54), 3) := by decide +kernel
theorem dX6_pairIsSound_100 : decode cX6_pairIsSound 100 = .ok (.iconst 1, 1) := by decide +kernel
theorem dX6_pairIsSound_101 : decode cX6_pairIsSound 101 = .ok (.ireturn, 1) := by decide +kernel
set_option maxRecDepth 20000 in
theorem ggX6_bufferIsSound_X0_leastDelay : GoodIn wsX6_bufferIsSound wsX0_leastDelay := goodIn_r _ [6, 7, 8, 9, 10, 11, 12, 13, 14, 15, 16, 17, 18, 19, 20, 21, 22, 23, 46, 47, 48, 49] (by decide +kernel) (by decide +kernel)
set_option maxRecDepth 20000 in
theorem gX6_bufferIsSound_X0_leastDelay : GoodIn wsX6_bufferIsSound (wsV RX6 192 RX0 yX0_leastDelay wsX0_leastDelay) := goodIn_app (goodIn_of _ (by decide +kernel)) ggX6_bufferIsSound_X0_leastDelay
set_option maxRecDepth 20000 in
theorem ggX6_bufferIsSound_X0_firstDry : GoodIn wsX6_bufferIsSound wsX0_firstDry := goodIn_r _ [27, 7, 28, 29, 30, 5, 31, 13, 14, 15, 16, 17, 18, 19, 20, 21, 22, 23, 32, 33, 34, 35, 8, 36, 37, 11, 38, 46, 47, 48, 49] (by decide +kernel) (by decide +kernel)
set_option maxRecDepth 20000 in
theorem gX6_bufferIsSound_X0_firstDry : GoodIn wsX6_bufferIsSound (wsV RX6 217 RX0 yX0_firstDry wsX0_firstDry) := goodIn_app (goodIn_of _ (by decide +kernel)) ggX6_bufferIsSound_X0_firstDry
theorem dX6_bufferIsSound_0 : decode cX6_bufferIsSound 0 = .ok (.aload_n 0, 1) := by decide +kernel
theorem dX6_bufferIsSound_1 : decode cX6_bufferIsSound 1 = .ok (.getfield 42, 3) := by decide +kernel
theorem dX6_bufferIsSound_4 : decode cX6_bufferIsSound 4 = .ok (.invokevirtual 192, 3) := by decide +kernel
theorem dX6_bufferIsSound_7 : decode cX6_bufferIsSound 7 = .ok (.istore_n 1, 1) := by decide +kernel
theorem dX6_bufferIsSound_8 : decode cX6_bufferIsSound 8 = .ok (.aload_n 0, 1) := by decide +kernel
theorem dX6_bufferIsSound_9 : decode cX6_bufferIsSound 9 = .ok (.getfield 42, 3) := by decide +kernel
theorem dX6_bufferIsSound_12 : decode cX6_bufferIsSound 12 = .ok (.iload_n 1, 1) := by decide +kernel
theorem dX6_bufferIsSound_13 : decode cX6_bufferIsSound 13 = .ok (.invokevirtual 217, 3) := by decide +kernel
theorem dX6_bufferIsSound_16 : decode cX6_bufferIsSound 16 = .ok (.iconst (-1), 1) := by decide +kernel
theorem dX6_bufferIsSound_17 : decode cX6_bufferIsSound 17 = .ok (.if_icmp .ne 25, 3) := by decide +kernel
theorem dX6_bufferIsSound_20 : decode cX6_bufferIsSound 20 = .ok (.iload_n 1, 1) := by decide +kernel
theorem dX6_bufferIsSound_21 : decode cX6_bufferIsSound 21 = .ok (.ifCond .eq 17, 3) := by decide +kernel
theorem dX6_bufferIsSound_24 : decode cX6_bufferIsSound 24 = .ok (.aload_n 0, 1) := by decide +kernel
theorem dX6_bufferIsSound_25 : decode cX6_bufferIsSound 25 = .ok (.getfield 42, 3) := by decide +kernel
theorem dX6_bufferIsSound_28 : decode cX6_bufferIsSound 28 = .ok (.iload_n 1, 1) := by decide +kernel
theorem dX6_bufferIsSound_29 : decode cX6_bufferIsSound 29 = .ok (.iconst 1, 1) := by decide +kernel
theorem dX6_bufferIsSound_30 : decode cX6_bufferIsSound 30 = .ok (.isub, 1) := by decide +kernel
theorem dX6_bufferIsSound_31 : decode cX6_bufferIsSound 31 = .ok (.invokevirtual 217, 3) := by decide +kernel
theorem dX6_bufferIsSound_34 : decode cX6_bufferIsSound 34 = .ok (.iconst (-1), 1) := by decide +kernel
theorem dX6_bufferIsSound_35 : decode cX6_bufferIsSound 35 = .ok (.if_icmp .eq 7, 3) := by decide +kernel
theorem dX6_bufferIsSound_38 : decode cX6_bufferIsSound 38 = .ok (.iconst 1, 1) := by decide +kernel
theorem dX6_bufferIsSound_39 : decode cX6_bufferIsSound 39 = .ok (.goto 4, 3) := by decide +kernel
theorem dX6_bufferIsSound_42 : decode cX6_bufferIsSound 42 = .ok (.iconst 0, 1) := by decide +kernel
theorem dX6_bufferIsSound_43 : decode cX6_bufferIsSound 43 = .ok (.ireturn, 1) := by decide +kernel
set_option maxRecDepth 20000 in
theorem ggX6_framesAreSound_X3_find : GoodIn wsX6_framesAreSound wsX3_find := goodIn_r _ [8, 9, 10, 11, 12, 13, 14, 15, 16, 17, 7, 18, 19, 20, 21, 22, 23, 24, 25, 26, 27, 28, 29, 30, 31, 32, 33, 34, 35, 36, 37, 38, 39, 40, 41, 42, 43, 44, 45, 46, 47, 48, 49, 50, 51, 52, 53, 54, 55, 56, 57, 58, 59, 60, 61, 76, 77, 78, 79, 80, 81, 82, 83, 84, 85, 86] (by decide +kernel) (by decide +kernel)
set_option maxRecDepth 20000 in
theorem gX6_framesAreSound_X3_find : GoodIn wsX6_framesAreSound (wsV RX6 132 RX3 yX3_find wsX3_find) := goodIn_app (goodIn_of _ (by decide +kernel)) ggX6_framesAreSound_X3_find
set_option maxRecDepth 20000 in
theorem ggX6_framesAreSound_X4_many : GoodIn wsX6_framesAreSound wsX4_many := goodIn_r _ [24, 25, 85, 86] (by decide +kernel) (by decide +kernel)
set_option maxRecDepth 20000 in
theorem gX6_framesAreSound_X4_many : GoodIn wsX6_framesAreSound (wsV RX6 82 RX4 yX4_many wsX4_many) := goodIn_app (goodIn_of _ (by decide +kernel)) ggX6_framesAreSound_X4_many
theorem dX6_framesAreSound_0 : decode cX6_framesAreSound 0 = .ok (.aload_n 0, 1) := by decide +kernel
theorem dX6_framesAreSound_1 : decode cX6_framesAreSound 1 = .ok (.getfield 28, 3) := by decide +kernel
theorem dX6_framesAreSound_4 : decode cX6_framesAreSound 4 = .ok (.aload_n 0, 1) := by decide +kernel
theorem dX6_framesAreSound_5 : decode cX6_framesAreSound 5 = .ok (.getfield 21, 3) := by decide +kernel
theorem dX6_framesAreSound_8 : decode cX6_framesAreSound 8 = .ok (.getfield 79, 3) := by decide +kernel
theorem dX6_framesAreSound_11 : decode cX6_framesAreSound 11 = .ok (.aload_n 0, 1) := by decide +kernel
theorem dX6_framesAreSound_12 : decode cX6_framesAreSound 12 = .ok (.getfield 46, 3) := by decide +kernel
theorem dX6_framesAreSound_15 : decode cX6_framesAreSound 15 = .ok (.invokevirtual 132, 3) := by decide +kernel
theorem dX6_framesAreSound_18 : decode cX6_framesAreSound 18 = .ok (.iconst 0, 1) := by decide +kernel
theorem dX6_framesAreSound_19 : decode cX6_framesAreSound 19 = .ok (.istore_n 1, 1) := by decide +kernel
theorem dX6_framesAreSound_20 : decode cX6_framesAreSound 20 = .ok (.iconst 0, 1) := by decide +kernel
theorem dX6_framesAreSound_21 : decode cX6_framesAreSound 21 = .ok (.istore_n 2, 1) := by decide +kernel
theorem dX6_framesAreSound_22 : decode cX6_framesAreSound 22 = .ok (.iload_n 2, 1) := by decide +kernel
theorem dX6_framesAreSound_23 : decode cX6_framesAreSound 23 = .ok (.aload_n 0, 1) := by decide +kernel
theorem dX6_framesAreSound_24 : decode cX6_framesAreSound 24 = .ok (.getfield 28, 3) := by decide +kernel
theorem dX6_framesAreSound_27 : decode cX6_framesAreSound 27 = .ok (.getfield 148, 3) := by decide +kernel
theorem dX6_framesAreSound_30 : decode cX6_framesAreSound 30 = .ok (.if_icmp .ge 36, 3) := by decide +kernel
theorem dX6_framesAreSound_33 : decode cX6_framesAreSound 33 = .ok (.aload_n 0, 1) := by decide +kernel
theorem dX6_framesAreSound_34 : decode cX6_framesAreSound 34 = .ok (.getfield 28, 3) := by decide +kernel
theorem dX6_framesAreSound_37 : decode cX6_framesAreSound 37 = .ok (.getfield 159, 3) := by decide +kernel
theorem dX6_framesAreSound_40 : decode cX6_framesAreSound 40 = .ok (.iload_n 2, 1) := by decide +kernel
theorem dX6_framesAreSound_41 : decode cX6_framesAreSound 41 = .ok (.iaload, 1) := by decide +kernel
theorem dX6_framesAreSound_42 : decode cX6_framesAreSound 42 = .ok (.iload_n 1, 1) := by decide +kernel
theorem dX6_framesAreSound_43 : decode cX6_framesAreSound 43 = .ok (.if_icmp .eq 5, 3) := by decide +kernel
theorem dX6_framesAreSound_46 : decode cX6_framesAreSound 46 = .ok (.iconst 0, 1) := by decide +kernel
theorem dX6_framesAreSound_47 : decode cX6_framesAreSound 47 = .ok (.ireturn, 1) := by decide +kernel
theorem dX6_framesAreSound_48 : decode cX6_framesAreSound 48 = .ok (.iload_n 1, 1) := by decide +kernel
theorem dX6_framesAreSound_49 : decode cX6_framesAreSound 49 = .ok (.aload_n 0, 1) := by decide +kernel
theorem dX6_framesAreSound_50 : decode cX6_framesAreSound 50 = .ok (.getfield 28, 3) := by decide +kernel
theorem dX6_framesAreSound_53 : decode cX6_framesAreSound 53 = .ok (.getfield 162, 3) := by decide +kernel
theorem dX6_framesAreSound_56 : decode cX6_framesAreSound 56 = .ok (.iload_n 2, 1) := by decide +kernel
theorem dX6_framesAreSound_57 : decode cX6_framesAreSound 57 = .ok (.iaload, 1) := by decide +kernel
theorem dX6_framesAreSound_58 : decode cX6_framesAreSound 58 = .ok (.iadd, 1) := by decide +kernel
theorem dX6_framesAreSound_59 : decode cX6_framesAreSound 59 = .ok (.istore_n 1, 1) := by decide +kernel
theorem dX6_framesAreSound_60 : decode cX6_framesAreSound 60 = .ok (.iinc 2 1, 3) := by decide +kernel
theorem dX6_framesAreSound_63 : decode cX6_framesAreSound 63 = .ok (.goto (-41), 3) := by decide +kernel
theorem dX6_framesAreSound_66 : decode cX6_framesAreSound 66 = .ok (.iload_n 1, 1) := by decide +kernel
theorem dX6_framesAreSound_67 : decode cX6_framesAreSound 67 = .ok (.aload_n 0, 1) := by decide +kernel
theorem dX6_framesAreSound_68 : decode cX6_framesAreSound 68 = .ok (.getfield 21, 3) := by decide +kernel
theorem dX6_framesAreSound_71 : decode cX6_framesAreSound 71 = .ok (.getfield 79, 3) := by decide +kernel
theorem dX6_framesAreSound_74 : decode cX6_framesAreSound 74 = .ok (.invokevirtual 82, 3) := by decide +kernel
theorem dX6_framesAreSound_77 : decode cX6_framesAreSound 77 = .ok (.if_icmp .ne 7, 3) := by decide +kernel
theorem dX6_framesAreSound_80 : decode cX6_framesAreSound 80 = .ok (.iconst 1, 1) := by decide +kernel
theorem dX6_framesAreSound_81 : decode cX6_framesAreSound 81 = .ok (.goto 4, 3) := by decide +kernel
theorem dX6_framesAreSound_84 : decode cX6_framesAreSound 84 = .ok (.iconst 0, 1) := by decide +kernel
theorem dX6_framesAreSound_85 : decode cX6_framesAreSound 85 = .ok (.ireturn, 1) := by decide +kernel
set_option maxRecDepth 20000 in
theorem ggX6_labelsAreSound_X1_goesBack : GoodIn wsX6_labelsAreSound wsX1_goesBack := goodIn_r _ [5, 6, 7, 4, 8, 9, 10, 11, 12, 13, 14] (by decide +kernel) (by decide +kernel)
set_option maxRecDepth 20000 in
theorem gX6_labelsAreSound_X1_goesBack : GoodIn wsX6_labelsAreSound (va_wsS RX6 291 yX1_goesBack wsX1_goesBack) := goodIn_app (goodIn_of _ (by decide +kernel)) ggX6_labelsAreSound_X1_goesBack
theorem dX6_labelsAreSound_0 : decode cX6_labelsAreSound 0 = .ok (.sipush 1799, 3) := by decide +kernel
theorem dX6_labelsAreSound_3 : decode cX6_labelsAreSound 3 = .ok (.invokestatic 291, 3) := by decide +kernel
theorem dX6_labelsAreSound_6 : decode cX6_labelsAreSound 6 = .ok (.ifCond .eq 43, 3) := by decide +kernel
theorem dX6_labelsAreSound_9 : decode cX6_labelsAreSound 9 = .ok (.sipush 1800, 3) := by decide +kernel
theorem dX6_labelsAreSound_12 : decode cX6_labelsAreSound 12 = .ok (.invokestatic 291, 3) := by decide +kernel
theorem dX6_labelsAreSound_15 : decode cX6_labelsAreSound 15 = .ok (.ifCond .eq 34, 3) := by decide +kernel
theorem dX6_labelsAreSound_18 : decode cX6_labelsAreSound 18 = .ok (.sipush 17981, 3) := by decide +kernel
theorem dX6_labelsAreSound_21 : decode cX6_labelsAreSound 21 = .ok (.invokestatic 291, 3) := by decide +kernel
theorem dX6_labelsAreSound_24 : decode cX6_labelsAreSound 24 = .ok (.ifCond .eq 25, 3) := by decide +kernel
theorem dX6_labelsAreSound_27 : decode cX6_labelsAreSound 27 = .ok (.sipush 17982, 3) := by decide +kernel
theorem dX6_labelsAreSound_30 : decode cX6_labelsAreSound 30 = .ok (.invokestatic 291, 3) := by decide +kernel
theorem dX6_labelsAreSound_33 : decode cX6_labelsAreSound 33 = .ok (.ifCond .eq 16, 3) := by decide +kernel
theorem dX6_labelsAreSound_36 : decode cX6_labelsAreSound 36 = .ok (.ldc_w 294, 3) := by decide +kernel
theorem dX6_labelsAreSound_39 : decode cX6_labelsAreSound 39 = .ok (.invokestatic 291, 3) := by decide +kernel
theorem dX6_labelsAreSound_42 : decode cX6_labelsAreSound 42 = .ok (.ifCond .eq 7, 3) := by decide +kernel
theorem dX6_labelsAreSound_45 : decode cX6_labelsAreSound 45 = .ok (.iconst 1, 1) := by decide +kernel
theorem dX6_labelsAreSound_46 : decode cX6_labelsAreSound 46 = .ok (.goto 4, 3) := by decide +kernel
theorem dX6_labelsAreSound_49 : decode cX6_labelsAreSound 49 = .ok (.iconst 0, 1) := by decide +kernel
theorem dX6_labelsAreSound_50 : decode cX6_labelsAreSound 50 = .ok (.ireturn, 1) := by decide +kernel
set_option maxRecDepth 20000 in
theorem ggX6_withFields_X4_many : GoodIn wsX6_withFields wsX4_many := goodIn_r _ [7, 8, 102, 103] (by decide +kernel) (by decide +kernel)
set_option maxRecDepth 20000 in
theorem gX6_withFields_X4_many : GoodIn wsX6_withFields (wsV RX6 82 RX4 yX4_many wsX4_many) := goodIn_app (goodIn_of _ (by decide +kernel)) ggX6_withFields_X4_many
set_option maxRecDepth 20000 in
theorem ggX6_withFields_X6_ofField : GoodIn wsX6_withFields wsX6_ofField := goodIn_ca (goodIn_ca (goodIn_r _ [13, 14, 15, 16, 1, 17, 18, 19, 20, 12, 21, 22, 23, 24, 25, 26, 6, 27, 8, 28, 29, 30, 31, 32, 33, 34, 35, 36, 37, 38, 39, 40, 41, 42, 43, 44, 4, 5, 7, 45, 46, 47, 48, 49, 50, 51, 52, 53, 54, 55, 56, 57, 58, 59, 60, 61, 62, 63, 64, 65, 66, 67, 68, 69, 70, 71, 72, 73, 74, 75, 76, 77, 78, 79, 80, 81, 82, 83, 84, 85, 86, 87, 88, 89, 90, 91, 92, 93, 94, 95, 96, 97, 98, 99, 100, 101, 104, 105, 106, 107, 108, 109, 110, 111, 112, 102, 103] (by decide +kernel) (by decide +kernel)) (goodIn_sub (fun _ h => List.mem_cons_of_mem _ (List.mem_append_left _ (List.mem_append_right _ h))) (by decide +kernel))) (goodIn_sub (fun _ h => List.mem_cons_of_mem _ (List.mem_append_right _ h)) (by decide +kernel))
set_option maxRecDepth 20000 in
theorem gX6_withFields_X6_ofField : GoodIn wsX6_withFields (wsV RX6 295 RX6 yX6_ofField wsX6_ofField) := goodIn_app (goodIn_of _ (by decide +kernel)) ggX6_withFields_X6_ofField
theorem dX6_withFields_0 : decode cX6_withFields 0 = .ok (.lload_n 1, 1) := by decide +kernel
theorem dX6_withFields_1 : decode cX6_withFields 1 = .ok (.lstore_n 3, 1) := by decide +kernel
theorem dX6_withFields_2 : decode cX6_withFields 2 = .ok (.iconst 0, 1) := by decide +kernel
theorem dX6_withFields_3 : decode cX6_withFields 3 = .ok (.istore 5, 2) := by decide +kernel
theorem dX6_withFields_5 : decode cX6_withFields 5 = .ok (.iload 5, 2) := by decide +kernel
theorem dX6_withFields_7 : decode cX6_withFields 7 = .ok (.aload_n 0, 1) := by decide +kernel
theorem dX6_withFields_8 : decode cX6_withFields 8 = .ok (.getfield 21, 3) := by decide +kernel
theorem dX6_withFields_11 : decode cX6_withFields 11 = .ok (.getfield 79, 3) := by decide +kernel
theorem dX6_withFields_14 : decode cX6_withFields 14 = .ok (.invokevirtual 82, 3) := by decide +kernel
theorem dX6_withFields_17 : decode cX6_withFields 17 = .ok (.if_icmp .ge 40, 3) := by decide +kernel
theorem dX6_withFields_20 : decode cX6_withFields 20 = .ok (.iconst 0, 1) := by decide +kernel
theorem dX6_withFields_21 : decode cX6_withFields 21 = .ok (.istore 6, 2) := by decide +kernel
theorem dX6_withFields_23 : decode cX6_withFields 23 = .ok (.iload 6, 2) := by decide +kernel
theorem dX6_withFields_25 : decode cX6_withFields 25 = .ok (.iconst 4, 1) := by decide +kernel
theorem dX6_withFields_26 : decode cX6_withFields 26 = .ok (.if_icmp .ge 25, 3) := by decide +kernel
theorem dX6_withFields_29 : decode cX6_withFields 29 = .ok (.lload_n 3, 1) := by decide +kernel
theorem dX6_withFields_30 : decode cX6_withFields 30 = .ok (.ldc2_w 242, 3) := by decide +kernel
theorem dX6_withFields_33 : decode cX6_withFields 33 = .ok (.lmul, 1) := by decide +kernel
theorem dX6_withFields_34 : decode cX6_withFields 34 = .ok (.aload_n 0, 1) := by decide +kernel
theorem dX6_withFields_35 : decode cX6_withFields 35 = .ok (.iload 5, 2) := by decide +kernel
theorem dX6_withFields_37 : decode cX6_withFields 37 = .ok (.iload 6, 2) := by decide +kernel
theorem dX6_withFields_39 : decode cX6_withFields 39 = .ok (.invokevirtual 295, 3) := by decide +kernel
theorem dX6_withFields_42 : decode cX6_withFields 42 = .ok (.i2l, 1) := by decide +kernel
theorem dX6_withFields_43 : decode cX6_withFields 43 = .ok (.ladd, 1) := by decide +kernel
theorem dX6_withFields_44 : decode cX6_withFields 44 = .ok (.lstore_n 3, 1) := by decide +kernel
theorem dX6_withFields_45 : decode cX6_withFields 45 = .ok (.iinc 6 1, 3) := by decide +kernel
theorem dX6_withFields_48 : decode cX6_withFields 48 = .ok (.goto (-25), 3) := by decide +kernel
theorem dX6_withFields_51 : decode cX6_withFields 51 = .ok (.iinc 5 1, 3) := by decide +kernel
theorem dX6_withFields_54 : decode cX6_withFields 54 = .ok (.goto (-49), 3) := by decide +kernel
theorem dX6_withFields_57 : decode cX6_withFields 57 = .ok (.lload_n 3, 1) := by decide +kernel
theorem dX6_withFields_58 : decode cX6_withFields 58 = .ok (.lreturn, 1) := by decide +kernel
set_option maxRecDepth 20000 in
theorem ggX6_withFoundFrames_X6_found : GoodIn wsX6_withFoundFrames wsX6_found := goodIn_ca (goodIn_ca (goodIn_r _ [7, 8, 9, 10, 11, 1, 12, 13, 14, 15, 16, 17, 18, 19, 20, 21, 22, 23, 24, 25, 26, 27, 28, 29, 30, 31, 32, 33, 34, 35, 36, 37, 38, 39, 40, 41, 42, 43, 44, 45, 46, 47, 48, 49, 50, 51, 52, 53, 54, 55, 56, 57, 58, 59, 60, 61, 62, 63, 64, 65, 66, 67, 68, 69, 70, 71, 72, 73, 74, 75, 76, 77, 78, 88, 89, 90, 91, 92, 93, 79, 80, 81, 82, 83, 84, 85, 86, 87, 94, 95] (by decide +kernel) (by decide +kernel)) (goodIn_sub (fun _ h => List.mem_cons_of_mem _ (List.mem_append_left _ (List.mem_append_right _ h))) (by decide +kernel))) (goodIn_sub (fun _ h => List.mem_cons_of_mem _ (List.mem_append_right _ h)) (by decide +kernel))
set_option maxRecDepth 20000 in
theorem gX6_withFoundFrames_X6_found : GoodIn wsX6_withFoundFrames (wsV RX6 298 RX6 yX6_found wsX6_found) := goodIn_app (goodIn_of _ (by decide +kernel)) ggX6_withFoundFrames_X6_found
theorem dX6_withFoundFrames_0 : decode cX6_withFoundFrames 0 = .ok (.lload_n 1, 1) := by decide +kernel
theorem dX6_withFoundFrames_1 : decode cX6_withFoundFrames 1 = .ok (.lstore_n 3, 1) := by decide +kernel
theorem dX6_withFoundFrames_2 : decode cX6_withFoundFrames 2 = .ok (.iconst 0, 1) := by decide +kernel
theorem dX6_withFoundFrames_3 : decode cX6_withFoundFrames 3 = .ok (.istore 5, 2) := by decide +kernel
theorem dX6_withFoundFrames_5 : decode cX6_withFoundFrames 5 = .ok (.iload 5, 2) := by decide +kernel
theorem dX6_withFoundFrames_7 : decode cX6_withFoundFrames 7 = .ok (.aload_n 0, 1) := by decide +kernel
theorem dX6_withFoundFrames_8 : decode cX6_withFoundFrames 8 = .ok (.getfield 28, 3) := by decide +kernel
theorem dX6_withFoundFrames_11 : decode cX6_withFoundFrames 11 = .ok (.getfield 148, 3) := by decide +kernel
theorem dX6_withFoundFrames_14 : decode cX6_withFoundFrames 14 = .ok (.if_icmp .ge 40, 3) := by decide +kernel
theorem dX6_withFoundFrames_17 : decode cX6_withFoundFrames 17 = .ok (.iconst 0, 1) := by decide +kernel
theorem dX6_withFoundFrames_18 : decode cX6_withFoundFrames 18 = .ok (.istore 6, 2) := by decide +kernel
theorem dX6_withFoundFrames_20 : decode cX6_withFoundFrames 20 = .ok (.iload 6, 2) := by decide +kernel
theorem dX6_withFoundFrames_22 : decode cX6_withFoundFrames 22 = .ok (.iconst 3, 1) := by decide +kernel
theorem dX6_withFoundFrames_23 : decode cX6_withFoundFrames 23 = .ok (.if_icmp .ge 25, 3) := by decide +kernel
theorem dX6_withFoundFrames_26 : decode cX6_withFoundFrames 26 = .ok (.lload_n 3, 1) := by decide +kernel
theorem dX6_withFoundFrames_27 : decode cX6_withFoundFrames 27 = .ok (.ldc2_w 242, 3) := by decide +kernel
theorem dX6_withFoundFrames_30 : decode cX6_withFoundFrames 30 = .ok (.lmul, 1) := by decide +kernel
theorem dX6_withFoundFrames_31 : decode cX6_withFoundFrames 31 = .ok (.aload_n 0, 1) := by decide +kernel
theorem dX6_withFoundFrames_32 : decode cX6_withFoundFrames 32 = .ok (.iload 5, 2) := by decide +kernel
theorem dX6_withFoundFrames_34 : decode cX6_withFoundFrames 34 = .ok (.iload 6, 2) := by decide +kernel
theorem dX6_withFoundFrames_36 : decode cX6_withFoundFrames 36 = .ok (.invokevirtual 298, 3) := by decide +kernel
theorem dX6_withFoundFrames_39 : decode cX6_withFoundFrames 39 = .ok (.i2l, 1) := by decide +kernel
theorem dX6_withFoundFrames_40 : decode cX6_withFoundFrames 40 = .ok (.ladd, 1) := by decide +kernel
theorem dX6_withFoundFrames_41 : decode cX6_withFoundFrames 41 = .ok (.lstore_n 3, 1) := by decide +kernel
theorem dX6_withFoundFrames_42 : decode cX6_withFoundFrames 42 = .ok (.iinc 6 1, 3) := by decide +kernel
theorem dX6_withFoundFrames_45 : decode cX6_withFoundFrames 45 = .ok (.goto (-25), 3) := by decide +kernel
theorem dX6_withFoundFrames_48 : decode cX6_withFoundFrames 48 = .ok (.iinc 5 1, 3) := by decide +kernel
theorem dX6_withFoundFrames_51 : decode cX6_withFoundFrames 51 = .ok (.goto (-46), 3) := by decide +kernel
theorem dX6_withFoundFrames_54 : decode cX6_withFoundFrames 54 = .ok (.lload_n 3, 1) := by decide +kernel
theorem dX6_withFoundFrames_55 : decode cX6_withFoundFrames 55 = .ok (.lreturn, 1) := by decide +kernel
set_option maxRecDepth 20000 in
theorem ggX6_withPrints_X2_distance : GoodIn wsX6_withPrints wsX2_distance := goodIn_r _ [7, 8, 9, 10, 11, 12, 13, 14, 15, 16, 17, 18, 6, 19, 20, 21, 22, 23, 24, 25, 26, 27, 28, 29, 30, 31, 32, 33, 34, 35, 36, 37, 38, 56, 57, 58, 59, 60, 61] (by decide +kernel) (by decide +kernel)
set_option maxRecDepth 20000 in
theorem gX6_withPrints_X2_distance : GoodIn wsX6_withPrints (wsV RX6 169 RX2 yX2_distance wsX2_distance) := goodIn_app (goodIn_of _ (by decide +kernel)) ggX6_withPrints_X2_distance
set_option maxRecDepth 20000 in
theorem ggX6_withPrints_X2_layOut : GoodIn wsX6_withPrints wsX2_layOut := goodIn_r _ [42, 8, 43, 44, 4, 5, 6, 7, 9, 10, 11, 12, 13, 14, 15, 16, 17, 18, 19, 20, 21, 22, 23, 24, 25, 26, 27, 28, 29, 30, 31, 32, 33, 34, 35, 36, 37, 38, 45, 46, 47, 48, 56, 57, 58, 59, 60, 61] (by decide +kernel) (by decide +kernel)
set_option maxRecDepth 20000 in
theorem gX6_withPrints_X2_layOut : GoodIn wsX6_withPrints (wsV RX6 177 RX2 yX2_layOut wsX2_layOut) := goodIn_app (goodIn_of _ (by decide +kernel)) ggX6_withPrints_X2_layOut
theorem dX6_withPrints_0 : decode cX6_withPrints 0 = .ok (.lload_n 1, 1) := by decide +kernel
theorem dX6_withPrints_1 : decode cX6_withPrints 1 = .ok (.lstore_n 3, 1) := by decide +kernel
theorem dX6_withPrints_2 : decode cX6_withPrints 2 = .ok (.iconst 0, 1) := by decide +kernel
theorem dX6_withPrints_3 : decode cX6_withPrints 3 = .ok (.istore 5, 2) := by decide +kernel
theorem dX6_withPrints_5 : decode cX6_withPrints 5 = .ok (.iload 5, 2) := by decide +kernel
theorem dX6_withPrints_7 : decode cX6_withPrints 7 = .ok (.aload_n 0, 1) := by decide +kernel
theorem dX6_withPrints_8 : decode cX6_withPrints 8 = .ok (.getfield 35, 3) := by decide +kernel
theorem dX6_withPrints_11 : decode cX6_withPrints 11 = .ok (.getfield 190, 3) := by decide +kernel
theorem dX6_withPrints_14 : decode cX6_withPrints 14 = .ok (.if_icmp .ge 68, 3) := by decide +kernel
theorem dX6_withPrints_17 : decode cX6_withPrints 17 = .ok (.iconst 0, 1) := by decide +kernel
theorem dX6_withPrints_18 : decode cX6_withPrints 18 = .ok (.istore 6, 2) := by decide +kernel
theorem dX6_withPrints_20 : decode cX6_withPrints 20 = .ok (.iload 6, 2) := by decide +kernel
theorem dX6_withPrints_22 : decode cX6_withPrints 22 = .ok (.aload_n 0, 1) := by decide +kernel
theorem dX6_withPrints_23 : decode cX6_withPrints 23 = .ok (.getfield 35, 3) := by decide +kernel
theorem dX6_withPrints_26 : decode cX6_withPrints 26 = .ok (.getfield 190, 3) := by decide +kernel
theorem dX6_withPrints_29 : decode cX6_withPrints 29 = .ok (.if_icmp .ge 47, 3) := by decide +kernel
theorem dX6_withPrints_32 : decode cX6_withPrints 32 = .ok (.lload_n 3, 1) := by decide +kernel
theorem dX6_withPrints_33 : decode cX6_withPrints 33 = .ok (.ldc2_w 242, 3) := by decide +kernel
theorem dX6_withPrints_36 : decode cX6_withPrints 36 = .ok (.lmul, 1) := by decide +kernel
theorem dX6_withPrints_37 : decode cX6_withPrints 37 = .ok (.aload_n 0, 1) := by decide +kernel
theorem dX6_withPrints_38 : decode cX6_withPrints 38 = .ok (.getfield 35, 3) := by decide +kernel
theorem dX6_withPrints_41 : decode cX6_withPrints 41 = .ok (.iload 5, 2) := by decide +kernel
theorem dX6_withPrints_43 : decode cX6_withPrints 43 = .ok (.iload 6, 2) := by decide +kernel
theorem dX6_withPrints_45 : decode cX6_withPrints 45 = .ok (.invokevirtual 169, 3) := by decide +kernel
theorem dX6_withPrints_48 : decode cX6_withPrints 48 = .ok (.i2l, 1) := by decide +kernel
theorem dX6_withPrints_49 : decode cX6_withPrints 49 = .ok (.ladd, 1) := by decide +kernel
theorem dX6_withPrints_50 : decode cX6_withPrints 50 = .ok (.lstore_n 3, 1) := by decide +kernel
theorem dX6_withPrints_51 : decode cX6_withPrints 51 = .ok (.lload_n 3, 1) := by decide +kernel
theorem dX6_withPrints_52 : decode cX6_withPrints 52 = .ok (.ldc2_w 242, 3) := by decide +kernel
theorem dX6_withPrints_55 : decode cX6_withPrints 55 = .ok (.lmul, 1) := by decide +kernel
theorem dX6_withPrints_56 : decode cX6_withPrints 56 = .ok (.aload_n 0, 1) := by decide +kernel
theorem dX6_withPrints_57 : decode cX6_withPrints 57 = .ok (.getfield 35, 3) := by decide +kernel
theorem dX6_withPrints_60 : decode cX6_withPrints 60 = .ok (.iload 5, 2) := by decide +kernel
theorem dX6_withPrints_62 : decode cX6_withPrints 62 = .ok (.iload 6, 2) := by decide +kernel
theorem dX6_withPrints_64 : decode cX6_withPrints 64 = .ok (.invokevirtual 177, 3) := by decide +kernel
theorem dX6_withPrints_67 : decode cX6_withPrints 67 = .ok (.i2l, 1) := by decide +kernel
theorem dX6_withPrints_68 : decode cX6_withPrints 68 = .ok (.ladd, 1) := by decide +kernel
theorem dX6_withPrints_69 : decode cX6_withPrints 69 = .ok (.lstore_n 3, 1) := by decide +kernel
theorem dX6_withPrints_70 : decode cX6_withPrints 70 = .ok (.iinc 6 1, 3) := by decide +kernel
theorem dX6_withPrints_73 : decode cX6_withPrints 73 = .ok (.goto (-53), 3) := by decide +kernel
theorem dX6_withPrints_76 : decode cX6_withPrints 76 = .ok (.iinc 5 1, 3) := by decide +kernel
theorem dX6_withPrints_79 : decode cX6_withPrints 79 = .ok (.goto (-74), 3) := by decide +kernel
theorem dX6_withPrints_82 : decode cX6_withPrints 82 = .ok (.lload_n 3, 1) := by decide +kernel
theorem dX6_withPrints_83 : decode cX6_withPrints 83 = .ok (.lreturn, 1) := by decide +kernel
theorem dJ9_abs_0f7a4_0 : decode cJ9_abs_0f7a4 0 = .ok (.iload_n 0, 1) := by decide +kernel
theorem dJ9_abs_0f7a4_1 : decode cJ9_abs_0f7a4 1 = .ok (.ifCond .ge 8, 3) := by decide +kernel
theorem dJ9_abs_0f7a4_4 : decode cJ9_abs_0f7a4 4 = .ok (.iload_n 0, 1) := by decide +kernel
theorem dJ9_abs_0f7a4_5 : decode cJ9_abs_0f7a4 5 = .ok (.ineg, 1) := by decide +kernel
theorem dJ9_abs_0f7a4_6 : decode cJ9_abs_0f7a4 6 = .ok (.goto 4, 3) := by decide +kernel
theorem dJ9_abs_0f7a4_9 : decode cJ9_abs_0f7a4 9 = .ok (.iload_n 0, 1) := by decide +kernel
theorem dJ9_abs_0f7a4_10 : decode cJ9_abs_0f7a4 10 = .ok (.ireturn, 1) := by decide +kernel
theorem dJ9_max_7cf53_0 : decode cJ9_max_7cf53 0 = .ok (.iload_n 0, 1) := by decide +kernel
theorem dJ9_max_7cf53_1 : decode cJ9_max_7cf53 1 = .ok (.iload_n 1, 1) := by decide +kernel
theorem dJ9_max_7cf53_2 : decode cJ9_max_7cf53 2 = .ok (.if_icmp .lt 7, 3) := by decide +kernel
theorem dJ9_max_7cf53_5 : decode cJ9_max_7cf53 5 = .ok (.iload_n 0, 1) := by decide +kernel
theorem dJ9_max_7cf53_6 : decode cJ9_max_7cf53 6 = .ok (.goto 4, 3) := by decide +kernel
theorem dJ9_max_7cf53_9 : decode cJ9_max_7cf53 9 = .ok (.iload_n 1, 1) := by decide +kernel
theorem dJ9_max_7cf53_10 : decode cJ9_max_7cf53 10 = .ok (.ireturn, 1) := by decide +kernel
theorem dJ9_min_7cf53_0 : decode cJ9_min_7cf53 0 = .ok (.iload_n 0, 1) := by decide +kernel
theorem dJ9_min_7cf53_1 : decode cJ9_min_7cf53 1 = .ok (.iload_n 1, 1) := by decide +kernel
theorem dJ9_min_7cf53_2 : decode cJ9_min_7cf53 2 = .ok (.if_icmp .gt 7, 3) := by decide +kernel
theorem dJ9_min_7cf53_5 : decode cJ9_min_7cf53 5 = .ok (.iload_n 0, 1) := by decide +kernel
theorem dJ9_min_7cf53_6 : decode cJ9_min_7cf53 6 = .ok (.goto 4, 3) := by decide +kernel
theorem dJ9_min_7cf53_9 : decode cJ9_min_7cf53 9 = .ok (.iload_n 1, 1) := by decide +kernel
theorem dJ9_min_7cf53_10 : decode cJ9_min_7cf53 10 = .ok (.ireturn, 1) := by decide +kernel
end
section
theorem dL_below_0 : decode cL_below 0 = .ok (.iload_n 0, 1) := by decide +kernel
theorem dL_below_1 : decode cL_below 1 = .ok (.ldc 7, 2) := by decide +kernel
theorem dL_below_3 : decode cL_below 3 = .ok (.iand, 1) := by decide +kernel
theorem dL_below_4 : decode cL_below 4 = .ok (.iload_n 1, 1) := by decide +kernel
theorem dL_below_5 : decode cL_below 5 = .ok (.irem, 1) := by decide +kernel
theorem dL_below_6 : decode cL_below 6 = .ok (.ireturn, 1) := by decide +kernel
theorem dL_cell_0 : decode cL_cell 0 = .ok (.iload_n 1, 1) := by decide +kernel
theorem dL_cell_1 : decode cL_cell 1 = .ok (.aload_n 0, 1) := by decide +kernel
theorem dL_cell_2 : decode cL_cell 2 = .ok (.arraylength, 1) := by decide +kernel
theorem dL_cell_3 : decode cL_cell 3 = .ok (.if_icmp .ge 9, 3) := by decide +kernel
theorem dL_cell_6 : decode cL_cell 6 = .ok (.aload_n 0, 1) := by decide +kernel
theorem dL_cell_7 : decode cL_cell 7 = .ok (.iload_n 1, 1) := by decide +kernel
theorem dL_cell_8 : decode cL_cell 8 = .ok (.iaload, 1) := by decide +kernel
theorem dL_cell_9 : decode cL_cell 9 = .ok (.goto 9, 3) := by decide +kernel
theorem dL_cell_12 : decode cL_cell 12 = .ok (.ldc 8, 2) := by decide +kernel
theorem dL_cell_14 : decode cL_cell 14 = .ok (.iload_n 1, 1) := by decide +kernel
theorem dL_cell_15 : decode cL_cell 15 = .ok (.iconst 3, 1) := by decide +kernel
theorem dL_cell_16 : decode cL_cell 16 = .ok (.iadd, 1) := by decide +kernel
theorem dL_cell_17 : decode cL_cell 17 = .ok (.imul, 1) := by decide +kernel
theorem dL_cell_18 : decode cL_cell 18 = .ok (.ireturn, 1) := by decide +kernel
set_option maxRecDepth 20000 in
theorem ggL_law_X6_init : GoodIn wsL_law wsX6_init := goodIn_r _ [6, 7, 8, 9, 10, 11, 12, 13, 14, 15, 16, 17, 18, 19, 20, 21, 22, 23, 24, 25, 26, 27, 28, 29, 30, 31, 32, 33, 34, 35, 36, 37, 38, 39, 40, 41, 42, 43, 44, 45, 46, 47, 48, 49, 50, 51, 52, 53, 54, 55, 56, 57, 58, 59, 60, 61, 62, 63, 64, 65, 66, 67, 68, 69, 70, 71, 72, 73, 74, 75, 76, 77, 78, 79, 80, 81, 82, 83, 84, 85, 86, 425, 426, 418, 419, 420, 421, 422, 423, 424, 427, 428, 429, 430, 431, 432, 433, 434, 435, 436, 437, 438, 439, 440, 441, 442, 443, 444, 445, 446, 447] (by decide +kernel) (by decide +kernel)
set_option maxRecDepth 20000 in
theorem gL_law_X6_init : GoodIn wsL_law (wsX6_init) := ggL_law_X6_init
set_option maxRecDepth 20000 in
theorem ggL_law_L_cell : GoodIn wsL_law wsL_cell := goodIn_r _ [90, 91] (by decide +kernel) (by decide +kernel)
set_option maxRecDepth 20000 in
theorem gL_law_L_cell : GoodIn wsL_law (va_wsS RL 12 yL_cell wsL_cell) := goodIn_app (goodIn_of _ (by decide +kernel)) ggL_law_L_cell
set_option maxRecDepth 20000 in
theorem ggL_law_L_below : GoodIn wsL_law wsL_below := goodIn_r _ [94, 95] (by decide +kernel) (by decide +kernel)
set_option maxRecDepth 20000 in
theorem gL_law_L_below : GoodIn wsL_law (va_wsS RL 18 yL_below wsL_below) := goodIn_app (goodIn_of _ (by decide +kernel)) ggL_law_L_below
set_option maxRecDepth 20000 in
theorem ggL_law_L_act : GoodIn wsL_law wsL_act := goodIn_ca (goodIn_ca (goodIn_ca (goodIn_r _ [98, 99, 100, 101, 92, 93, 89, 94, 95, 102, 103, 104, 2, 105, 106, 107, 13, 108, 109, 110, 111, 112, 113, 114, 115, 12, 116, 42, 41, 117, 118, 119, 120, 17, 21, 121, 122, 123, 16, 124, 48, 54, 125, 126, 127, 128, 129, 130, 131, 132, 133, 134, 135, 136, 137, 138, 139, 140, 20, 141, 68, 142, 143, 144, 145, 146, 147, 148, 149, 150, 151, 152, 153, 154, 155, 156, 157, 158, 159, 160, 161, 162, 163, 164, 165, 166, 167, 168, 169, 170, 171, 172, 173, 174, 50, 51, 175, 176, 177, 178, 179, 180, 181, 182, 183, 184, 185, 186, 187, 188, 189, 190, 30, 191, 192, 193, 194, 25, 195, 196, 197, 24, 198, 77, 199, 200, 201, 202, 203, 204, 205, 206, 207, 208, 209, 210, 211, 212, 213, 214, 74, 215, 216, 217, 218, 29, 219, 220, 221, 222, 418, 419, 420, 421, 422, 423, 424, 425, 426, 427, 428, 429, 430, 431, 432, 433, 434, 435, 436, 437, 438, 439, 440, 441, 442, 443, 444, 445, 446, 447] (by decide +kernel) (by decide +kernel)) (goodIn_sub (fun _ h => List.mem_append_left _ (List.mem_append_left _ (List.mem_append_right _ h))) (by decide +kernel))) (goodIn_sub (fun _ h => List.mem_append_left _ (List.mem_append_right _ h)) (by decide +kernel))) (goodIn_sub (fun _ h => List.mem_append_right _ h) (by decide +kernel))
set_option maxRecDepth 20000 in
theorem gL_law_L_act : GoodIn wsL_law (va_wsS RL 22 yL_act wsL_act) := goodIn_app (goodIn_of _ (by decide +kernel)) ggL_law_L_act
set_option maxRecDepth 20000 in
theorem ggL_law_X6_label : GoodIn wsL_law wsX6_label := goodIn_ca (goodIn_r _ [226, 111, 112, 227, 228, 229, 230, 231] (by decide +kernel) (by decide +kernel)) (goodIn_sub (fun _ h => List.mem_append_left _ (List.mem_append_right _ h)) (by decide +kernel))
set_option maxRecDepth 20000 in
theorem gL_law_X6_label : GoodIn wsL_law (wsV RL 27 RX6 yX6_label wsX6_label) := goodIn_app (goodIn_of _ (by decide +kernel)) ggL_law_X6_label
set_option maxRecDepth 20000 in
theorem ggL_law_X6_picture : GoodIn wsL_law wsX6_picture := goodIn_r _ [235, 236, 237, 230, 238, 239, 240, 241] (by decide +kernel) (by decide +kernel)
set_option maxRecDepth 20000 in
theorem gL_law_X6_picture : GoodIn wsL_law (wsV RL 31 RX6 yX6_picture wsX6_picture) := goodIn_app (goodIn_of _ (by decide +kernel)) ggL_law_X6_picture
set_option maxRecDepth 20000 in
theorem ggL_law_X6_house : GoodIn wsL_law wsX6_house := goodIn_ca (goodIn_r _ [245, 111, 112, 13, 17, 30, 21, 25, 29, 31, 142, 130, 131, 12, 132, 42, 246, 247, 248, 20, 249, 68, 66, 67, 65, 63, 64, 250, 251, 252, 253, 60, 254, 255, 134, 135, 136, 41, 256, 257, 258, 259, 260, 261, 262, 263, 264, 265, 266, 267, 268, 269, 270, 61, 271, 272, 273, 274, 62, 275, 276, 277, 278, 279, 280, 281, 282, 283, 284, 285, 286, 287, 28, 288, 84, 85, 289, 37, 38, 39, 290, 291, 292, 293, 294, 295, 296, 297, 298, 299, 300, 301, 302, 303, 304, 305, 306, 307, 418, 419, 420, 421, 422, 423, 424, 427, 428, 429, 430, 431, 432, 433, 434, 435, 436, 437, 438, 439, 440, 441, 442, 443, 444, 445, 446, 447, 425, 426] (by decide +kernel) (by decide +kernel)) (goodIn_sub (fun _ h => List.mem_append_left _ (List.mem_append_right _ h)) (by decide +kernel))
set_option maxRecDepth 20000 in
theorem gL_law_X6_house : GoodIn wsL_law (wsV RL 34 RX6 yX6_house wsX6_house) := goodIn_app (goodIn_of _ (by decide +kernel)) ggL_law_X6_house
set_option maxRecDepth 20000 in
theorem ggL_law_X6_apart : GoodIn wsL_law wsX6_apart := goodIn_ca (goodIn_r _ [311, 25, 203, 204, 205, 2, 206, 151, 152, 207, 208, 209, 24, 210, 77, 312, 313, 314, 315, 74, 75, 316, 130, 131, 12, 132, 42, 317, 318, 319, 320, 321, 306, 38, 307, 322, 154, 155, 156, 323, 134, 135, 136, 41, 324, 325, 326, 327, 328, 329, 418, 419, 420, 421, 422, 423, 424, 442, 443, 444, 445, 425, 426] (by decide +kernel) (by decide +kernel)) (goodIn_sub (fun _ h => List.mem_append_right _ h) (by decide +kernel))
set_option maxRecDepth 20000 in
theorem gL_law_X6_apart : GoodIn wsL_law (wsV RL 37 RX6 yX6_apart wsX6_apart) := goodIn_app (goodIn_of _ (by decide +kernel)) ggL_law_X6_apart
set_option maxRecDepth 20000 in
theorem ggL_law_X6_dry : GoodIn wsL_law wsX6_dry := goodIn_ca (goodIn_r _ [333, 111, 112, 29, 334, 335, 336, 28, 337, 84, 297, 298, 299, 300, 290, 130, 131, 12, 132, 42, 291, 134, 135, 136, 41, 301, 302, 303, 304, 85, 305, 306, 38, 307, 418, 419, 420, 421, 422, 423, 424, 446, 447, 425, 426] (by decide +kernel) (by decide +kernel)) (goodIn_sub (fun _ h => List.mem_append_left _ (List.mem_append_right _ h)) (by decide +kernel))
set_option maxRecDepth 20000 in
theorem gL_law_X6_dry : GoodIn wsL_law (wsV RL 40 RX6 yX6_dry wsX6_dry) := goodIn_app (goodIn_of _ (by decide +kernel)) ggL_law_X6_dry
set_option maxRecDepth 20000 in
theorem ggL_law_X6_digest : GoodIn wsL_law wsX6_digest := goodIn_ca (goodIn_ca (goodIn_r _ [341, 342, 343, 17, 344, 243, 244, 2, 245, 111, 112, 13, 30, 21, 25, 29, 31, 142, 130, 131, 12, 132, 42, 246, 247, 248, 20, 249, 68, 66, 67, 65, 63, 64, 250, 251, 252, 253, 60, 254, 255, 134, 135, 136, 41, 256, 257, 258, 259, 260, 261, 262, 263, 264, 265, 266, 267, 268, 269, 270, 61, 271, 272, 273, 274, 62, 275, 276, 277, 278, 279, 280, 281, 282, 283, 284, 285, 286, 287, 28, 288, 84, 85, 289, 37, 38, 39, 290, 291, 292, 293, 294, 295, 296, 297, 298, 299, 300, 301, 302, 303, 304, 305, 306, 307, 345, 346, 347, 348, 349, 350, 351, 352, 147, 148, 149, 150, 151, 152, 153, 154, 155, 156, 170, 353, 354, 355, 16, 356, 54, 50, 357, 358, 359, 360, 361, 362, 363, 364, 365, 366, 367, 368, 312, 313, 314, 24, 315, 74, 75, 316, 317, 318, 319, 320, 321, 322, 323, 324, 325, 326, 327, 328, 329, 369, 370, 371, 372, 76, 373, 374, 375, 376, 377, 378, 224, 225, 226, 227, 228, 229, 230, 231, 379, 331, 332, 333, 334, 335, 336, 337, 380, 381, 382, 383, 48, 53, 129, 384, 385, 386, 387, 133, 388, 389, 390, 391, 392, 393, 394, 395, 396, 397, 398, 399, 400, 401, 402, 403, 404, 405, 406, 407, 408, 409, 410, 411, 412, 413, 414, 415, 416, 237, 238, 239, 240, 241, 418, 419, 420, 421, 422, 423, 424, 427, 428, 429, 430, 431, 432, 433, 434, 435, 436, 437, 438, 439, 440, 441, 442, 443, 444, 445, 446, 447, 425, 426] (by decide +kernel) (by decide +kernel)) (goodIn_sub (fun _ h => List.mem_append_left _ (List.mem_append_right _ h)) (by decide +kernel))) (goodIn_sub (fun _ h => List.mem_append_right _ h) (by decide +kernel))
set_option maxRecDepth 20000 in
theorem gL_law_X6_digest : GoodIn wsL_law (wsV RL 43 RX6 yX6_digest wsX6_digest) := goodIn_app (goodIn_of _ (by decide +kernel)) ggL_law_X6_digest
set_option maxRecDepth 20000 in
theorem ggL_law_X6_isSound : GoodIn wsL_law wsX6_isSound := goodIn_r _ [391, 392, 393, 394, 2, 395, 25, 396, 397, 398, 399, 312, 313, 314, 24, 315, 74, 75, 316, 130, 131, 12, 132, 42, 317, 318, 319, 320, 321, 306, 38, 307, 322, 154, 155, 156, 323, 134, 135, 136, 41, 324, 325, 326, 327, 328, 329, 400, 401, 402, 403, 29, 285, 286, 287, 28, 288, 84, 85, 289, 37, 39, 290, 291, 334, 335, 336, 337, 297, 298, 299, 300, 301, 302, 303, 304, 305, 404, 405, 406, 407, 21, 17, 30, 246, 247, 248, 20, 249, 68, 66, 67, 65, 63, 64, 250, 251, 252, 253, 60, 254, 255, 256, 257, 258, 259, 260, 261, 262, 263, 264, 265, 266, 267, 268, 269, 270, 61, 271, 272, 273, 274, 62, 275, 276, 277, 278, 279, 280, 281, 282, 283, 284, 142, 408, 409, 410, 411, 412, 413, 230, 414, 415, 229, 231, 416, 237, 238, 239, 240, 241, 418, 419, 420, 421, 422, 423, 424, 442, 443, 444, 445, 425, 426, 446, 447, 427, 428, 429, 430, 431, 432, 433, 434, 435, 436, 437, 438, 439, 440, 441] (by decide +kernel) (by decide +kernel)
set_option maxRecDepth 20000 in
theorem gL_law_X6_isSound : GoodIn wsL_law (wsV RL 47 RX6 yX6_isSound wsX6_isSound) := goodIn_app (goodIn_of _ (by decide +kernel)) ggL_law_X6_isSound
theorem dL_law_0 : decode cL_law 0 = .ok (.new 9, 3) := by decide +kernel
theorem dL_law_3 : decode cL_law 3 = .ok (.dup, 1) := by decide +kernel
theorem dL_law_4 : decode cL_law 4 = .ok (.invokespecial 11, 3) := by decide +kernel
theorem dL_law_7 : decode cL_law 7 = .ok (.astore_n 1, 1) := by decide +kernel
theorem dL_law_8 : decode cL_law 8 = .ok (.iconst 0, 1) := by decide +kernel
theorem dL_law_9 : decode cL_law 9 = .ok (.istore_n 2, 1) := by decide +kernel
theorem dL_law_10 : decode cL_law 10 = .ok (.iload_n 2, 1) := by decide +kernel
theorem dL_law_11 : decode cL_law 11 = .ok (.bipush 60, 2) := by decide +kernel
theorem dL_law_13 : decode cL_law 13 = .ok (.if_icmp .ge 276, 3) := by decide +kernel
theorem dL_law_16 : decode cL_law 16 = .ok (.aload_n 0, 1) := by decide +kernel
theorem dL_law_17 : decode cL_law 17 = .ok (.iload_n 2, 1) := by decide +kernel
theorem dL_law_18 : decode cL_law 18 = .ok (.bipush 16, 2) := by decide +kernel
theorem dL_law_20 : decode cL_law 20 = .ok (.irem, 1) := by decide +kernel
theorem dL_law_21 : decode cL_law 21 = .ok (.invokestatic 12, 3) := by decide +kernel
theorem dL_law_24 : decode cL_law 24 = .ok (.bipush 83, 2) := by decide +kernel
theorem dL_law_26 : decode cL_law 26 = .ok (.iload_n 2, 1) := by decide +kernel
theorem dL_law_27 : decode cL_law 27 = .ok (.imul, 1) := by decide +kernel
theorem dL_law_28 : decode cL_law 28 = .ok (.iadd, 1) := by decide +kernel
theorem dL_law_29 : decode cL_law 29 = .ok (.istore_n 3, 1) := by decide +kernel
theorem dL_law_30 : decode cL_law 30 = .ok (.aload_n 1, 1) := by decide +kernel
theorem dL_law_31 : decode cL_law 31 = .ok (.iload_n 3, 1) := by decide +kernel
theorem dL_law_32 : decode cL_law 32 = .ok (.iconst 2, 1) := by decide +kernel
theorem dL_law_33 : decode cL_law 33 = .ok (.ishr, 1) := by decide +kernel
theorem dL_law_34 : decode cL_law 34 = .ok (.iload_n 3, 1) := by decide +kernel
theorem dL_law_35 : decode cL_law 35 = .ok (.bipush 14, 2) := by decide +kernel
theorem dL_law_37 : decode cL_law 37 = .ok (.invokestatic 18, 3) := by decide +kernel
theorem dL_law_40 : decode cL_law 40 = .ok (.invokestatic 22, 3) := by decide +kernel
theorem dL_law_43 : decode cL_law 43 = .ok (.iload_n 3, 1) := by decide +kernel
theorem dL_law_44 : decode cL_law 44 = .ok (.iconst 3, 1) := by decide +kernel
theorem dL_law_45 : decode cL_law 45 = .ok (.ishr, 1) := by decide +kernel
theorem dL_law_46 : decode cL_law 46 = .ok (.ldc 26, 2) := by decide +kernel
theorem dL_law_48 : decode cL_law 48 = .ok (.invokestatic 18, 3) := by decide +kernel
theorem dL_law_51 : decode cL_law 51 = .ok (.istore 4, 2) := by decide +kernel
theorem dL_law_53 : decode cL_law 53 = .ok (.aload_n 0, 1) := by decide +kernel
theorem dL_law_54 : decode cL_law 54 = .ok (.iload_n 2, 1) := by decide +kernel
theorem dL_law_55 : decode cL_law 55 = .ok (.iconst 3, 1) := by decide +kernel
theorem dL_law_56 : decode cL_law 56 = .ok (.iadd, 1) := by decide +kernel
theorem dL_law_57 : decode cL_law 57 = .ok (.bipush 16, 2) := by decide +kernel
theorem dL_law_59 : decode cL_law 59 = .ok (.irem, 1) := by decide +kernel
theorem dL_law_60 : decode cL_law 60 = .ok (.invokestatic 12, 3) := by decide +kernel
theorem dL_law_63 : decode cL_law 63 = .ok (.iload_n 2, 1) := by decide +kernel
theorem dL_law_64 : decode cL_law 64 = .ok (.iadd, 1) := by decide +kernel
theorem dL_law_65 : decode cL_law 65 = .ok (.ldc 26, 2) := by decide +kernel
theorem dL_law_67 : decode cL_law 67 = .ok (.invokestatic 18, 3) := by decide +kernel
theorem dL_law_70 : decode cL_law 70 = .ok (.istore 5, 2) := by decide +kernel
theorem dL_law_72 : decode cL_law 72 = .ok (.aload_n 1, 1) := by decide +kernel
theorem dL_law_73 : decode cL_law 73 = .ok (.aload_n 1, 1) := by decide +kernel
theorem dL_law_74 : decode cL_law 74 = .ok (.iload 4, 2) := by decide +kernel
theorem dL_law_76 : decode cL_law 76 = .ok (.invokevirtual 27, 3) := by decide +kernel
theorem dL_law_79 : decode cL_law 79 = .ok (.invokevirtual 31, 3) := by decide +kernel
theorem dL_law_82 : decode cL_law 82 = .ok (.iload 4, 2) := by decide +kernel
theorem dL_law_84 : decode cL_law 84 = .ok (.if_icmp .ne 40, 3) := by decide +kernel
theorem dL_law_87 : decode cL_law 87 = .ok (.aload_n 1, 1) := by decide +kernel
theorem dL_law_88 : decode cL_law 88 = .ok (.aload_n 1, 1) := by decide +kernel
theorem dL_law_89 : decode cL_law 89 = .ok (.iload 5, 2) := by decide +kernel
theorem dL_law_91 : decode cL_law 91 = .ok (.invokevirtual 27, 3) := by decide +kernel
theorem dL_law_94 : decode cL_law 94 = .ok (.invokevirtual 31, 3) := by decide +kernel
theorem dL_law_97 : decode cL_law 97 = .ok (.iload 5, 2) := by decide +kernel
theorem dL_law_99 : decode cL_law 99 = .ok (.if_icmp .ne 25, 3) := by decide +kernel
theorem dL_law_102 : decode cL_law 102 = .ok (.iload 4, 2) := by decide +kernel
theorem dL_law_104 : decode cL_law 104 = .ok (.iload 5, 2) := by decide +kernel
theorem dL_law_106 : decode cL_law 106 = .ok (.if_icmp .eq 20, 3) := by decide +kernel
theorem dL_law_109 : decode cL_law 109 = .ok (.aload_n 1, 1) := by decide +kernel
theorem dL_law_110 : decode cL_law 110 = .ok (.iload 4, 2) := by decide +kernel
theorem dL_law_112 : decode cL_law 112 = .ok (.invokevirtual 27, 3) := by decide +kernel
theorem dL_law_115 : decode cL_law 115 = .ok (.aload_n 1, 1) := by decide +kernel
theorem dL_law_116 : decode cL_law 116 = .ok (.iload 5, 2) := by decide +kernel
theorem dL_law_118 : decode cL_law 118 = .ok (.invokevirtual 27, 3) := by decide +kernel
theorem dL_law_121 : decode cL_law 121 = .ok (.if_icmp .ne 5, 3) := by decide +kernel
theorem dL_law_124 : decode cL_law 124 = .ok (.iconst 0, 1) := by decide +kernel
theorem dL_law_125 : decode cL_law 125 = .ok (.ireturn, 1) := by decide +kernel
theorem dL_law_126 : decode cL_law 126 = .ok (.aload_n 1, 1) := by decide +kernel
theorem dL_law_127 : decode cL_law 127 = .ok (.bipush 6, 2) := by decide +kernel
theorem dL_law_129 : decode cL_law 129 = .ok (.invokevirtual 34, 3) := by decide +kernel
theorem dL_law_132 : decode cL_law 132 = .ok (.istore 6, 2) := by decide +kernel
theorem dL_law_134 : decode cL_law 134 = .ok (.iconst 0, 1) := by decide +kernel
theorem dL_law_135 : decode cL_law 135 = .ok (.istore 7, 2) := by decide +kernel
theorem dL_law_137 : decode cL_law 137 = .ok (.iload 7, 2) := by decide +kernel
theorem dL_law_139 : decode cL_law 139 = .ok (.iload 6, 2) := by decide +kernel
theorem dL_law_141 : decode cL_law 141 = .ok (.if_icmp .ge 71, 3) := by decide +kernel
theorem dL_law_144 : decode cL_law 144 = .ok (.iconst 0, 1) := by decide +kernel
theorem dL_law_145 : decode cL_law 145 = .ok (.istore 8, 2) := by decide +kernel
theorem dL_law_147 : decode cL_law 147 = .ok (.iload 8, 2) := by decide +kernel
theorem dL_law_149 : decode cL_law 149 = .ok (.iload 6, 2) := by decide +kernel
theorem dL_law_151 : decode cL_law 151 = .ok (.if_icmp .ge 55, 3) := by decide +kernel
theorem dL_law_154 : decode cL_law 154 = .ok (.iconst 0, 1) := by decide +kernel
theorem dL_law_155 : decode cL_law 155 = .ok (.istore 9, 2) := by decide +kernel
theorem dL_law_157 : decode cL_law 157 = .ok (.iload 9, 2) := by decide +kernel
theorem dL_law_159 : decode cL_law 159 = .ok (.iload 6, 2) := by decide +kernel
theorem dL_law_161 : decode cL_law 161 = .ok (.if_icmp .ge 39, 3) := by decide +kernel
theorem dL_law_164 : decode cL_law 164 = .ok (.aload_n 1, 1) := by decide +kernel
theorem dL_law_165 : decode cL_law 165 = .ok (.iload 7, 2) := by decide +kernel
theorem dL_law_167 : decode cL_law 167 = .ok (.iload 8, 2) := by decide +kernel
theorem dL_law_169 : decode cL_law 169 = .ok (.invokevirtual 37, 3) := by decide +kernel
theorem dL_law_172 : decode cL_law 172 = .ok (.aload_n 1, 1) := by decide +kernel
theorem dL_law_173 : decode cL_law 173 = .ok (.iload 7, 2) := by decide +kernel
theorem dL_law_175 : decode cL_law 175 = .ok (.iload 9, 2) := by decide +kernel
theorem dL_law_177 : decode cL_law 177 = .ok (.invokevirtual 37, 3) := by decide +kernel
theorem dL_law_180 : decode cL_law 180 = .ok (.aload_n 1, 1) := by decide +kernel
theorem dL_law_181 : decode cL_law 181 = .ok (.iload 9, 2) := by decide +kernel
theorem dL_law_183 : decode cL_law 183 = .ok (.iload 8, 2) := by decide +kernel
theorem dL_law_185 : decode cL_law 185 = .ok (.invokevirtual 37, 3) := by decide +kernel
theorem dL_law_188 : decode cL_law 188 = .ok (.iadd, 1) := by decide +kernel
theorem dL_law_189 : decode cL_law 189 = .ok (.if_icmp .le 5, 3) := by decide +kernel
theorem dL_law_192 : decode cL_law 192 = .ok (.iconst 0, 1) := by decide +kernel
theorem dL_law_193 : decode cL_law 193 = .ok (.ireturn, 1) := by decide +kernel
theorem dL_law_194 : decode cL_law 194 = .ok (.iinc 9 1, 3) := by decide +kernel
theorem dL_law_197 : decode cL_law 197 = .ok (.goto (-40), 3) := by decide +kernel
theorem dL_law_200 : decode cL_law 200 = .ok (.iinc 8 1, 3) := by decide +kernel
theorem dL_law_203 : decode cL_law 203 = .ok (.goto (-56), 3) := by decide +kernel
theorem dL_law_206 : decode cL_law 206 = .ok (.iinc 7 1, 3) := by decide +kernel
theorem dL_law_209 : decode cL_law 209 = .ok (.goto (-72), 3) := by decide +kernel
theorem dL_law_212 : decode cL_law 212 = .ok (.aload_n 1, 1) := by decide +kernel
theorem dL_law_213 : decode cL_law 213 = .ok (.bipush 9, 2) := by decide +kernel
theorem dL_law_215 : decode cL_law 215 = .ok (.invokevirtual 34, 3) := by decide +kernel
theorem dL_law_218 : decode cL_law 218 = .ok (.istore 7, 2) := by decide +kernel
theorem dL_law_220 : decode cL_law 220 = .ok (.aload_n 1, 1) := by decide +kernel
theorem dL_law_221 : decode cL_law 221 = .ok (.iload 7, 2) := by decide +kernel
theorem dL_law_223 : decode cL_law 223 = .ok (.invokevirtual 40, 3) := by decide +kernel
theorem dL_law_226 : decode cL_law 226 = .ok (.iconst (-1), 1) := by decide +kernel
theorem dL_law_227 : decode cL_law 227 = .ok (.if_icmp .ne 20, 3) := by decide +kernel
theorem dL_law_230 : decode cL_law 230 = .ok (.iload 7, 2) := by decide +kernel
theorem dL_law_232 : decode cL_law 232 = .ok (.ifCond .le 17, 3) := by decide +kernel
theorem dL_law_235 : decode cL_law 235 = .ok (.aload_n 1, 1) := by decide +kernel
theorem dL_law_236 : decode cL_law 236 = .ok (.iload 7, 2) := by decide +kernel
theorem dL_law_238 : decode cL_law 238 = .ok (.iconst 1, 1) := by decide +kernel
theorem dL_law_239 : decode cL_law 239 = .ok (.isub, 1) := by decide +kernel
theorem dL_law_240 : decode cL_law 240 = .ok (.invokevirtual 40, 3) := by decide +kernel
theorem dL_law_243 : decode cL_law 243 = .ok (.iconst (-1), 1) := by decide +kernel
theorem dL_law_244 : decode cL_law 244 = .ok (.if_icmp .ne 5, 3) := by decide +kernel
theorem dL_law_247 : decode cL_law 247 = .ok (.iconst 0, 1) := by decide +kernel
theorem dL_law_248 : decode cL_law 248 = .ok (.ireturn, 1) := by decide +kernel
theorem dL_law_249 : decode cL_law 249 = .ok (.iload_n 2, 1) := by decide +kernel
theorem dL_law_250 : decode cL_law 250 = .ok (.bipush 12, 2) := by decide +kernel
theorem dL_law_252 : decode cL_law 252 = .ok (.irem, 1) := by decide +kernel
theorem dL_law_253 : decode cL_law 253 = .ok (.bipush 11, 2) := by decide +kernel
theorem dL_law_255 : decode cL_law 255 = .ok (.if_icmp .ne 28, 3) := by decide +kernel
theorem dL_law_258 : decode cL_law 258 = .ok (.aload_n 1, 1) := by decide +kernel
theorem dL_law_259 : decode cL_law 259 = .ok (.invokevirtual 43, 3) := by decide +kernel
theorem dL_law_262 : decode cL_law 262 = .ok (.lstore 8, 2) := by decide +kernel
theorem dL_law_264 : decode cL_law 264 = .ok (.aload_n 1, 1) := by decide +kernel
theorem dL_law_265 : decode cL_law 265 = .ok (.invokevirtual 47, 3) := by decide +kernel
theorem dL_law_268 : decode cL_law 268 = .ok (.ifCond .eq 13, 3) := by decide +kernel
theorem dL_law_271 : decode cL_law 271 = .ok (.aload_n 1, 1) := by decide +kernel
theorem dL_law_272 : decode cL_law 272 = .ok (.invokevirtual 43, 3) := by decide +kernel
theorem dL_law_275 : decode cL_law 275 = .ok (.lload 8, 2) := by decide +kernel
theorem dL_law_277 : decode cL_law 277 = .ok (.lcmp, 1) := by decide +kernel
theorem dL_law_278 : decode cL_law 278 = .ok (.ifCond .eq 5, 3) := by decide +kernel
theorem dL_law_281 : decode cL_law 281 = .ok (.iconst 0, 1) := by decide +kernel
theorem dL_law_282 : decode cL_law 282 = .ok (.ireturn, 1) := by decide +kernel
theorem dL_law_283 : decode cL_law 283 = .ok (.iinc 2 1, 3) := by decide +kernel
theorem dL_law_286 : decode cL_law 286 = .ok (.goto (-276), 3) := by decide +kernel
theorem dL_law_289 : decode cL_law 289 = .ok (.iconst 1, 1) := by decide +kernel
theorem dL_law_290 : decode cL_law 290 = .ok (.ireturn, 1) := by decide +kernel
set_option maxRecDepth 20000 in
theorem ggL_act_L_below : GoodIn wsL_act wsL_below := goodIn_r _ [7, 8] (by decide +kernel) (by decide +kernel)
set_option maxRecDepth 20000 in
theorem gL_act_L_below : GoodIn wsL_act (va_wsS RL 18 yL_below wsL_below) := goodIn_app (goodIn_of _ (by decide +kernel)) ggL_act_L_below
set_option maxRecDepth 20000 in
theorem ggL_act_X6_frame : GoodIn wsL_act wsX6_frame := goodIn_ca (goodIn_ca (goodIn_r _ [13, 14, 15, 16, 17, 18, 12, 19, 20, 21, 22, 23, 24, 25, 26, 27, 28, 150, 151, 152, 153, 154, 155, 156, 157, 158] (by decide +kernel) (by decide +kernel)) (goodIn_sub (fun _ h => List.mem_cons_of_mem _ (List.mem_append_left _ (List.mem_append_left _ (List.mem_append_right _ h)))) (by decide +kernel))) (goodIn_sub (fun _ h => List.mem_cons_of_mem _ (List.mem_append_left _ (List.mem_append_right _ h))) (by decide +kernel))
set_option maxRecDepth 20000 in
theorem gL_act_X6_frame : GoodIn wsL_act (wsV RL 51 RX6 yX6_frame wsX6_frame) := goodIn_app (goodIn_of _ (by decide +kernel)) ggL_act_X6_frame
set_option maxRecDepth 20000 in
theorem ggL_act_X6_pull : GoodIn wsL_act wsX6_pull := goodIn_ca (goodIn_r _ [32, 20, 21, 33, 16, 34, 35, 36, 37, 38, 39, 40, 41, 42, 43, 44, 25, 45, 27, 46, 47, 48, 49, 50, 51, 52, 53, 28, 54, 23, 24, 26, 55, 56, 57, 58, 59, 60, 61, 150, 151, 152, 153, 154, 155, 156, 159, 160, 161, 162, 163, 164, 157, 158, 165, 166, 167, 168, 169, 170, 171, 172, 173] (by decide +kernel) (by decide +kernel)) (goodIn_sub (fun _ h => List.mem_cons_of_mem _ (List.mem_append_left _ (List.mem_append_right _ h))) (by decide +kernel))
set_option maxRecDepth 20000 in
theorem gL_act_X6_pull : GoodIn wsL_act (wsV RL 54 RX6 yX6_pull wsX6_pull) := goodIn_app (goodIn_of _ (by decide +kernel)) ggL_act_X6_pull
set_option maxRecDepth 20000 in
theorem ggL_act_X6_cut : GoodIn wsL_act wsX6_cut := goodIn_ca (goodIn_ca (goodIn_r _ [65, 20, 21, 33, 34, 66, 67, 68, 12, 69, 70, 71, 72, 73, 74, 25, 75, 27, 61, 47, 48, 49, 76, 77, 78, 38, 79, 40, 41, 80, 81, 82, 83, 28, 84, 55, 56, 57, 58, 59, 60, 150, 151, 152, 153, 154, 155, 156, 159, 160, 161, 162, 163, 164, 157, 158, 165, 166, 167, 168, 169, 170, 171, 172, 173] (by decide +kernel) (by decide +kernel)) (goodIn_sub (fun _ h => List.mem_cons_of_mem _ (List.mem_append_left _ (List.mem_append_right _ h))) (by decide +kernel))) (goodIn_sub (fun _ h => List.mem_cons_of_mem _ (List.mem_append_right _ h)) (by decide +kernel))
set_option maxRecDepth 20000 in
theorem gL_act_X6_cut : GoodIn wsL_act (wsV RL 57 RX6 yX6_cut wsX6_cut) := goodIn_app (goodIn_of _ (by decide +kernel)) ggL_act_X6_cut
set_option maxRecDepth 20000 in
theorem ggL_act_X6_spoil : GoodIn wsL_act wsX6_spoil := goodIn_ca (goodIn_ca (goodIn_r _ [88, 33, 34, 66, 67, 68, 12, 69, 70, 71, 72, 73, 74, 25, 75, 27, 17, 18, 19, 20, 21, 89, 51, 52, 53, 28, 90, 91, 92, 38, 93, 41, 94, 95, 40, 50, 96, 97, 98, 99, 84, 55, 56, 57, 58, 59, 60, 150, 151, 152, 153, 154, 155, 156, 159, 160, 161, 162, 163, 164, 157, 158, 165, 166, 167, 168, 169, 170, 171, 172, 173] (by decide +kernel) (by decide +kernel)) (goodIn_sub (fun _ h => List.mem_cons_of_mem _ (List.mem_append_right _ h)) (by decide +kernel))) (goodIn_sub (fun _ h => List.mem_cons_of_mem _ (List.mem_append_left _ (List.mem_append_right _ h))) (by decide +kernel))
set_option maxRecDepth 20000 in
theorem gL_act_X6_spoil : GoodIn wsL_act (wsV RL 60 RX6 yX6_spoil wsX6_spoil) := goodIn_app (goodIn_of _ (by decide +kernel)) ggL_act_X6_spoil
set_option maxRecDepth 20000 in
theorem ggL_act_X6_heal : GoodIn wsL_act wsX6_heal := goodIn_r _ [103, 33, 34, 104, 105, 106, 38, 107, 41, 94, 40, 95, 96, 97, 98, 25, 99, 28, 84, 73, 74, 75, 27, 55, 56, 57, 58, 59, 60, 150, 151, 152, 153, 154, 155, 156, 159, 160, 161, 162, 163, 164, 157, 158, 165, 166, 167, 168, 169, 170, 171, 172, 173] (by decide +kernel) (by decide +kernel)
set_option maxRecDepth 20000 in
theorem gL_act_X6_heal : GoodIn wsL_act (wsV RL 63 RX6 yX6_heal wsX6_heal) := goodIn_app (goodIn_of _ (by decide +kernel)) ggL_act_X6_heal
set_option maxRecDepth 20000 in
theorem ggL_act_X6_change : GoodIn wsL_act wsX6_change := goodIn_ca (goodIn_r _ [111, 20, 21, 112, 34, 55, 56, 57, 58, 59, 60, 150, 151, 152, 153, 154, 155, 156, 165, 166, 167, 168, 169, 170, 171, 172, 173] (by decide +kernel) (by decide +kernel)) (goodIn_sub (fun _ h => List.mem_cons_of_mem _ (List.mem_append_left _ (List.mem_append_right _ h))) (by decide +kernel))
set_option maxRecDepth 20000 in
theorem gL_act_X6_change : GoodIn wsL_act (wsV RL 67 RX6 yX6_change wsX6_change) := goodIn_app (goodIn_of _ (by decide +kernel)) ggL_act_X6_change
set_option maxRecDepth 20000 in
theorem ggL_act_X6_print : GoodIn wsL_act wsX6_print := goodIn_ca (goodIn_r _ [116, 14, 15, 117, 118, 119, 120, 121, 122, 123, 150, 151, 152, 153, 154, 155, 156, 174, 175, 176, 177] (by decide +kernel) (by decide +kernel)) (goodIn_sub (fun _ h => List.mem_cons_of_mem _ (List.mem_append_left _ (List.mem_append_left _ (List.mem_append_right _ h)))) (by decide +kernel))
set_option maxRecDepth 20000 in
theorem gL_act_X6_print : GoodIn wsL_act (wsV RL 70 RX6 yX6_print wsX6_print) := goodIn_app (goodIn_of _ (by decide +kernel)) ggL_act_X6_print
set_option maxRecDepth 20000 in
theorem ggL_act_X6_look : GoodIn wsL_act wsX6_look := goodIn_ca (goodIn_ca (goodIn_ca (goodIn_r _ [127, 14, 15, 117, 128, 129, 130, 12, 131, 70, 71, 132, 133, 134, 121, 135, 123, 17, 18, 19, 20, 21, 136, 137, 138, 139, 140, 22, 23, 24, 25, 26, 27, 28, 150, 151, 152, 153, 154, 155, 156, 174, 175, 176, 177, 157, 158] (by decide +kernel) (by decide +kernel)) (goodIn_sub (fun _ h => List.mem_cons_of_mem _ (List.mem_append_left _ (List.mem_append_left _ (List.mem_append_right _ h)))) (by decide +kernel))) (goodIn_sub (fun _ h => List.mem_cons_of_mem _ (List.mem_append_right _ h)) (by decide +kernel))) (goodIn_sub (fun _ h => List.mem_cons_of_mem _ (List.mem_append_left _ (List.mem_append_right _ h))) (by decide +kernel))
set_option maxRecDepth 20000 in
theorem gL_act_X6_look : GoodIn wsL_act (wsV RL 73 RX6 yX6_look wsX6_look) := goodIn_app (goodIn_of _ (by decide +kernel)) ggL_act_X6_look
set_option maxRecDepth 20000 in
theorem ggL_act_X6_rate : GoodIn wsL_act wsX6_rate := goodIn_ca (goodIn_r _ [144, 20, 21, 145, 150, 151, 152, 153, 154, 155, 156, 178, 179] (by decide +kernel) (by decide +kernel)) (goodIn_sub (fun _ h => List.mem_cons_of_mem _ (List.mem_append_left _ (List.mem_append_right _ h))) (by decide +kernel))
set_option maxRecDepth 20000 in
theorem gL_act_X6_rate : GoodIn wsL_act (wsV RL 76 RX6 yX6_rate wsX6_rate) := goodIn_app (goodIn_of _ (by decide +kernel)) ggL_act_X6_rate
set_option maxRecDepth 20000 in
theorem ggL_act_X6_size : GoodIn wsL_act wsX6_size := goodIn_ca (goodIn_ca (goodIn_r _ [149, 20, 21, 14, 15, 145, 22, 23, 24, 25, 26, 27, 28, 150, 151, 152, 153, 154, 155, 156, 178, 179, 157, 158] (by decide +kernel) (by decide +kernel)) (goodIn_sub (fun _ h => List.mem_cons_of_mem _ (List.mem_append_left _ (List.mem_append_right _ h))) (by decide +kernel))) (goodIn_sub (fun _ h => List.mem_cons_of_mem _ (List.mem_append_left _ (List.mem_append_left _ (List.mem_append_right _ h)))) (by decide +kernel))
set_option maxRecDepth 20000 in
theorem gL_act_X6_size : GoodIn wsL_act (wsV RL 79 RX6 yX6_size wsX6_size) := goodIn_app (goodIn_of _ (by decide +kernel)) ggL_act_X6_size
theorem dL_act_0 : decode cL_act 0 = .ok (.iload_n 2, 1) := by decide +kernel
theorem dL_act_1 : decode cL_act 1 = .ok (.tableswitch 248 0 11 #[63, 63, 97, 110, 133, 155, 163, 179, 187, 187, 187, 232], 63) := by decide +kernel
theorem dL_act_64 : decode cL_act 64 = .ok (.aload_n 0, 1) := by decide +kernel
theorem dL_act_65 : decode cL_act 65 = .ok (.iload_n 1, 1) := by decide +kernel
theorem dL_act_66 : decode cL_act 66 = .ok (.iconst 4, 1) := by decide +kernel
theorem dL_act_67 : decode cL_act 67 = .ok (.invokestatic 18, 3) := by decide +kernel
theorem dL_act_70 : decode cL_act 70 = .ok (.ifCond .ne 14, 3) := by decide +kernel
theorem dL_act_73 : decode cL_act 73 = .ok (.iload_n 1, 1) := by decide +kernel
theorem dL_act_74 : decode cL_act 74 = .ok (.iconst 3, 1) := by decide +kernel
theorem dL_act_75 : decode cL_act 75 = .ok (.ishr, 1) := by decide +kernel
theorem dL_act_76 : decode cL_act 76 = .ok (.bipush 100, 2) := by decide +kernel
theorem dL_act_78 : decode cL_act 78 = .ok (.invokestatic 18, 3) := by decide +kernel
theorem dL_act_81 : decode cL_act 81 = .ok (.goto 10, 3) := by decide +kernel
theorem dL_act_84 : decode cL_act 84 = .ok (.iload_n 1, 1) := by decide +kernel
theorem dL_act_85 : decode cL_act 85 = .ok (.iconst 3, 1) := by decide +kernel
theorem dL_act_86 : decode cL_act 86 = .ok (.ishr, 1) := by decide +kernel
theorem dL_act_87 : decode cL_act 87 = .ok (.iconst 3, 1) := by decide +kernel
theorem dL_act_88 : decode cL_act 88 = .ok (.invokestatic 18, 3) := by decide +kernel
theorem dL_act_91 : decode cL_act 91 = .ok (.invokevirtual 51, 3) := by decide +kernel
theorem dL_act_94 : decode cL_act 94 = .ok (.pop, 1) := by decide +kernel
theorem dL_act_95 : decode cL_act 95 = .ok (.goto 167, 3) := by decide +kernel
theorem dL_act_98 : decode cL_act 98 = .ok (.aload_n 0, 1) := by decide +kernel
theorem dL_act_99 : decode cL_act 99 = .ok (.iload_n 1, 1) := by decide +kernel
theorem dL_act_100 : decode cL_act 100 = .ok (.iconst 2, 1) := by decide +kernel
theorem dL_act_101 : decode cL_act 101 = .ok (.invokestatic 18, 3) := by decide +kernel
theorem dL_act_104 : decode cL_act 104 = .ok (.invokevirtual 54, 3) := by decide +kernel
theorem dL_act_107 : decode cL_act 107 = .ok (.pop, 1) := by decide +kernel
theorem dL_act_108 : decode cL_act 108 = .ok (.goto 154, 3) := by decide +kernel
theorem dL_act_111 : decode cL_act 111 = .ok (.aload_n 0, 1) := by decide +kernel
theorem dL_act_112 : decode cL_act 112 = .ok (.iload_n 1, 1) := by decide +kernel
theorem dL_act_113 : decode cL_act 113 = .ok (.bipush 60, 2) := by decide +kernel
theorem dL_act_115 : decode cL_act 115 = .ok (.invokestatic 18, 3) := by decide +kernel
theorem dL_act_118 : decode cL_act 118 = .ok (.iconst 1, 1) := by decide +kernel
theorem dL_act_119 : decode cL_act 119 = .ok (.iload_n 1, 1) := by decide +kernel
theorem dL_act_120 : decode cL_act 120 = .ok (.iconst 3, 1) := by decide +kernel
theorem dL_act_121 : decode cL_act 121 = .ok (.ishr, 1) := by decide +kernel
theorem dL_act_122 : decode cL_act 122 = .ok (.iconst 4, 1) := by decide +kernel
theorem dL_act_123 : decode cL_act 123 = .ok (.invokestatic 18, 3) := by decide +kernel
theorem dL_act_126 : decode cL_act 126 = .ok (.iadd, 1) := by decide +kernel
theorem dL_act_127 : decode cL_act 127 = .ok (.invokevirtual 57, 3) := by decide +kernel
theorem dL_act_130 : decode cL_act 130 = .ok (.pop, 1) := by decide +kernel
theorem dL_act_131 : decode cL_act 131 = .ok (.goto 131, 3) := by decide +kernel
theorem dL_act_134 : decode cL_act 134 = .ok (.aload_n 0, 1) := by decide +kernel
theorem dL_act_135 : decode cL_act 135 = .ok (.iload_n 1, 1) := by decide +kernel
theorem dL_act_136 : decode cL_act 136 = .ok (.bipush 60, 2) := by decide +kernel
theorem dL_act_138 : decode cL_act 138 = .ok (.invokestatic 18, 3) := by decide +kernel
theorem dL_act_141 : decode cL_act 141 = .ok (.iload_n 1, 1) := by decide +kernel
theorem dL_act_142 : decode cL_act 142 = .ok (.iconst 3, 1) := by decide +kernel
theorem dL_act_143 : decode cL_act 143 = .ok (.ishr, 1) := by decide +kernel
theorem dL_act_144 : decode cL_act 144 = .ok (.bipush 100, 2) := by decide +kernel
theorem dL_act_146 : decode cL_act 146 = .ok (.invokestatic 18, 3) := by decide +kernel
theorem dL_act_149 : decode cL_act 149 = .ok (.invokevirtual 60, 3) := by decide +kernel
theorem dL_act_152 : decode cL_act 152 = .ok (.pop, 1) := by decide +kernel
theorem dL_act_153 : decode cL_act 153 = .ok (.goto 109, 3) := by decide +kernel
theorem dL_act_156 : decode cL_act 156 = .ok (.aload_n 0, 1) := by decide +kernel
theorem dL_act_157 : decode cL_act 157 = .ok (.invokevirtual 63, 3) := by decide +kernel
theorem dL_act_160 : decode cL_act 160 = .ok (.pop, 1) := by decide +kernel
theorem dL_act_161 : decode cL_act 161 = .ok (.goto 101, 3) := by decide +kernel
theorem dL_act_164 : decode cL_act 164 = .ok (.aload_n 0, 1) := by decide +kernel
theorem dL_act_165 : decode cL_act 165 = .ok (.iconst 1, 1) := by decide +kernel
theorem dL_act_166 : decode cL_act 166 = .ok (.iload_n 1, 1) := by decide +kernel
theorem dL_act_167 : decode cL_act 167 = .ok (.bipush 20, 2) := by decide +kernel
theorem dL_act_169 : decode cL_act 169 = .ok (.invokestatic 18, 3) := by decide +kernel
theorem dL_act_172 : decode cL_act 172 = .ok (.iadd, 1) := by decide +kernel
theorem dL_act_173 : decode cL_act 173 = .ok (.invokevirtual 67, 3) := by decide +kernel
theorem dL_act_176 : decode cL_act 176 = .ok (.pop, 1) := by decide +kernel
theorem dL_act_177 : decode cL_act 177 = .ok (.goto 85, 3) := by decide +kernel
theorem dL_act_180 : decode cL_act 180 = .ok (.aload_n 0, 1) := by decide +kernel
theorem dL_act_181 : decode cL_act 181 = .ok (.invokevirtual 70, 3) := by decide +kernel
theorem dL_act_184 : decode cL_act 184 = .ok (.pop, 1) := by decide +kernel
theorem dL_act_185 : decode cL_act 185 = .ok (.goto 77, 3) := by decide +kernel
theorem dL_act_188 : decode cL_act 188 = .ok (.aload_n 0, 1) := by decide +kernel
theorem dL_act_189 : decode cL_act 189 = .ok (.iload_n 1, 1) := by decide +kernel
theorem dL_act_190 : decode cL_act 190 = .ok (.iconst 3, 1) := by decide +kernel
theorem dL_act_191 : decode cL_act 191 = .ok (.invokestatic 18, 3) := by decide +kernel
theorem dL_act_194 : decode cL_act 194 = .ok (.iload_n 1, 1) := by decide +kernel
theorem dL_act_195 : decode cL_act 195 = .ok (.iconst 2, 1) := by decide +kernel
theorem dL_act_196 : decode cL_act 196 = .ok (.ishr, 1) := by decide +kernel
theorem dL_act_197 : decode cL_act 197 = .ok (.iconst 2, 1) := by decide +kernel
theorem dL_act_198 : decode cL_act 198 = .ok (.invokestatic 18, 3) := by decide +kernel
theorem dL_act_201 : decode cL_act 201 = .ok (.ifCond .ne 14, 3) := by decide +kernel
theorem dL_act_204 : decode cL_act 204 = .ok (.iload_n 1, 1) := by decide +kernel
theorem dL_act_205 : decode cL_act 205 = .ok (.iconst 3, 1) := by decide +kernel
theorem dL_act_206 : decode cL_act 206 = .ok (.ishr, 1) := by decide +kernel
theorem dL_act_207 : decode cL_act 207 = .ok (.bipush 100, 2) := by decide +kernel
theorem dL_act_209 : decode cL_act 209 = .ok (.invokestatic 18, 3) := by decide +kernel
theorem dL_act_212 : decode cL_act 212 = .ok (.goto 14, 3) := by decide +kernel
theorem dL_act_215 : decode cL_act 215 = .ok (.bipush 50, 2) := by decide +kernel
theorem dL_act_217 : decode cL_act 217 = .ok (.iload_n 1, 1) := by decide +kernel
theorem dL_act_218 : decode cL_act 218 = .ok (.iconst 3, 1) := by decide +kernel
theorem dL_act_219 : decode cL_act 219 = .ok (.ishr, 1) := by decide +kernel
theorem dL_act_220 : decode cL_act 220 = .ok (.bipush 6, 2) := by decide +kernel
theorem dL_act_222 : decode cL_act 222 = .ok (.invokestatic 18, 3) := by decide +kernel
theorem dL_act_225 : decode cL_act 225 = .ok (.iadd, 1) := by decide +kernel
theorem dL_act_226 : decode cL_act 226 = .ok (.invokevirtual 73, 3) := by decide +kernel
theorem dL_act_229 : decode cL_act 229 = .ok (.pop, 1) := by decide +kernel
theorem dL_act_230 : decode cL_act 230 = .ok (.goto 32, 3) := by decide +kernel
theorem dL_act_233 : decode cL_act 233 = .ok (.aload_n 0, 1) := by decide +kernel
theorem dL_act_234 : decode cL_act 234 = .ok (.iconst 1, 1) := by decide +kernel
theorem dL_act_235 : decode cL_act 235 = .ok (.iload_n 1, 1) := by decide +kernel
theorem dL_act_236 : decode cL_act 236 = .ok (.bipush 50, 2) := by decide +kernel
theorem dL_act_238 : decode cL_act 238 = .ok (.invokestatic 18, 3) := by decide +kernel
theorem dL_act_241 : decode cL_act 241 = .ok (.iadd, 1) := by decide +kernel
theorem dL_act_242 : decode cL_act 242 = .ok (.invokevirtual 76, 3) := by decide +kernel
theorem dL_act_245 : decode cL_act 245 = .ok (.pop, 1) := by decide +kernel
theorem dL_act_246 : decode cL_act 246 = .ok (.goto 16, 3) := by decide +kernel
theorem dL_act_249 : decode cL_act 249 = .ok (.aload_n 0, 1) := by decide +kernel
theorem dL_act_250 : decode cL_act 250 = .ok (.iload_n 1, 1) := by decide +kernel
theorem dL_act_251 : decode cL_act 251 = .ok (.iconst 2, 1) := by decide +kernel
theorem dL_act_252 : decode cL_act 252 = .ok (.ishr, 1) := by decide +kernel
theorem dL_act_253 : decode cL_act 253 = .ok (.bipush 100, 2) := by decide +kernel
theorem dL_act_255 : decode cL_act 255 = .ok (.invokestatic 18, 3) := by decide +kernel
theorem dL_act_258 : decode cL_act 258 = .ok (.invokevirtual 79, 3) := by decide +kernel
theorem dL_act_261 : decode cL_act 261 = .ok (.pop, 1) := by decide +kernel
theorem dL_act_262 : decode cL_act 262 = .ok (.goto 9, 3) := by decide +kernel
theorem dL_act_265 : decode cL_act 265 = .ok (.astore_n 3, 1) := by decide +kernel
theorem dL_act_266 : decode cL_act 266 = .ok (.return_, 1) := by decide +kernel
theorem dL_act_267 : decode cL_act 267 = .ok (.astore_n 3, 1) := by decide +kernel
theorem dL_act_268 : decode cL_act 268 = .ok (.return_, 1) := by decide +kernel
theorem dL_act_269 : decode cL_act 269 = .ok (.astore_n 3, 1) := by decide +kernel
theorem dL_act_270 : decode cL_act 270 = .ok (.return_, 1) := by decide +kernel
theorem dL_act_271 : decode cL_act 271 = .ok (.return_, 1) := by decide +kernel
abbrev vwCl : List vw_C := [(RX0, TX0, 2), (RX2, TX2, 4), (RX3, TX3, 9), (RX4, TX4, 2), (RX5, TX5, 6), (RX6, TX6, 7)]
end
section
/-! ===== my own rows: ints by their numbers, branches, entries, ends, calls of methods that only read ===== -/
def iI (n : Int) : Int32 := Int32.ofInt n
theorem iI_t {n : Int} (h : -2147483648 ≤ n ∧ n < 2147483648) : (iI n).toInt = n := Int32.toInt_ofInt_of_le (by omega) (by omega)
theorem iI_of (x : Int32) : iI x.toInt = x := Int32.ofInt_toInt x
theorem iI_ex (x : Int32) : ∃ n : Int, x = iI n ∧ -2147483648 ≤ n ∧ n < 2147483648 := ⟨x.toInt, (iI_of x).symm, Int32.le_toInt x, Int32.toInt_lt x⟩
theorem iI_add (a b : Int) : iI a + iI b = iI (a + b) := (Int32.ofInt_add a b).symm
theorem iI_sub (a b : Int) : iI a - iI b = iI (a - b) := (Int32.ofInt_sub a b).symm
theorem iI_mul (a b : Int) : iI a * iI b = iI (a * b) := (Int32.ofInt_mul a b).symm
theorem iI_lt {a b : Int} (ha : -2147483648 ≤ a ∧ a < 2147483648) (hb : -2147483648 ≤ b ∧ b < 2147483648) : iI a < iI b ↔ a < b := by
  rw [Int32.lt_iff_toInt_lt, iI_t ha, iI_t hb]
theorem iI_le {a b : Int} (ha : -2147483648 ≤ a ∧ a < 2147483648) (hb : -2147483648 ≤ b ∧ b < 2147483648) : iI a ≤ iI b ↔ a ≤ b := by
  rw [Int32.le_iff_toInt_le, iI_t ha, iI_t hb]
theorem iI_eq {a b : Int} (ha : -2147483648 ≤ a ∧ a < 2147483648) (hb : -2147483648 ≤ b ∧ b < 2147483648) : iI a = iI b ↔ a = b :=
  ⟨fun h => by rw [← iI_t ha, ← iI_t hb, h], fun h => by rw [h]⟩
theorem iI_0 : iI 0 = 0 := rfl
theorem iI_nat {a : Int} (h : 0 ≤ a ∧ a < 2147483648) : (iI a).toNatClampNeg = a.toNat := by
  show (iI a).toInt.toNat = _
  rw [iI_t (by omega)]
theorem iI_in {a : Int} {n : Nat} (h : 0 ≤ a ∧ a < (n : Int)) (hn : n < 2147483648) : vp_in (iI a) n := vp_in_iff.mpr (by rw [iI_t (by omega)]; exact h)
theorem iI_div {a b : Int} (ha : 0 ≤ a ∧ a < 2147483648) (hb : 0 < b ∧ b < 2147483648) : iI a / iI b = iI (a / b) := by
  have h1 : 0 ≤ a / b := Int.ediv_nonneg ha.1 (by omega)
  have h2 : a / b ≤ a := Int.ediv_le_self b ha.1
  apply Int32.toInt_inj.mp
  rw [lg_idiv_nonneg (by rw [iI_t (by omega)]; exact ha.1) (by rw [iI_t (by omega)]; exact hb.1), iI_t (by omega), iI_t (by omega), iI_t (by omega)]
theorem iI_rem {a b : Int} (ha : 0 ≤ a ∧ a < 2147483648) (hb : 0 < b ∧ b < 2147483648) : iI a - iI a / iI b * iI b = iI (a % b) := by
  rw [iI_div ha hb, iI_mul, iI_sub]
  congr 1
  have h := Int.mul_ediv_add_emod a b
  rw [Int.mul_comm] at h
  omega
theorem iI_cat (a : Int) : (Value.int (iI a)).category = 1 := rfl
def iF (g : Nat → Int) : Nat → Int32 := fun j => iI (g j)
def uP (g : Nat → Int) (k : Nat) (x : Int) : Nat → Int := fun j => if j = k then x else g j
theorem uP_s {g : Nat → Int} {k : Nat} {x : Int} : uP g k x k = x := if_pos rfl
theorem uP_n {g : Nat → Int} {k j : Nat} {x : Int} (h : j ≠ k) : uP g k x j = g j := if_neg h
theorem iF_upd (g : Nat → Int) (k : Nat) (x : Int) : upd (iF g) k (iI x) = iF (uP g k x) := by
  funext j
  unfold upd iF uP
  by_cases h : j = k
  · rw [if_pos h, if_pos h]
  · rw [if_neg h, if_neg h]
theorem iF_of (f : Nat → Int32) : ∃ g : Nat → Int, f = iF g ∧ ∀ j, -2147483648 ≤ g j ∧ g j < 2147483648 :=
  ⟨fun j => (f j).toInt, funext fun j => (iI_of _).symm, fun j => ⟨Int32.le_toInt _, Int32.toInt_lt _⟩⟩
/-- an array of ints, of n places -/
abbrev aI (ci : ClassId) (n : Nat) (g : Nat → Int) : va_E := .inl (ci, n, .inl (iF g))
section ZT
variable {p : Program} {l : Launch} {e : Env} {R : Room} {s : State} {m : MethodId} {args : Array Value} {below : List Frame} {meth : Method} {c : Code} {H : Heap} {locs : List Loc} {cells slots : Nat} {Q : State → Prop}
variable {cc : ByteArray} {pc : Nat} {ls : Array Slot} {rest : List Value}
theorem zt_iadd (hx : p.tables.exec = Jvm.exec) (hb : c.code = cc) {x y : Int} (hdg : decode cc pc = .ok (.iadd, 1))
    (k : W p l e R s m args below meth c H locs cells slots Q (F0 m (pc + 1) ls (.int (iI (x + y)) :: rest))) : W p l e R s m args below meth c H locs cells slots Q (F0 m pc ls (.int (iI y) :: .int (iI x) :: rest)) := lv_iadd hx hb hdg (by rw [iI_add]; exact k)
theorem zt_isub (hx : p.tables.exec = Jvm.exec) (hb : c.code = cc) {x y : Int} (hdg : decode cc pc = .ok (.isub, 1))
    (k : W p l e R s m args below meth c H locs cells slots Q (F0 m (pc + 1) ls (.int (iI (x - y)) :: rest))) : W p l e R s m args below meth c H locs cells slots Q (F0 m pc ls (.int (iI y) :: .int (iI x) :: rest)) := lv_isub hx hb hdg (by rw [iI_sub]; exact k)
theorem zt_imul (hx : p.tables.exec = Jvm.exec) (hb : c.code = cc) {x y : Int} (hdg : decode cc pc = .ok (.imul, 1))
    (k : W p l e R s m args below meth c H locs cells slots Q (F0 m (pc + 1) ls (.int (iI (x * y)) :: rest))) : W p l e R s m args below meth c H locs cells slots Q (F0 m pc ls (.int (iI y) :: .int (iI x) :: rest)) := lv_imul hx hb hdg (by rw [iI_mul]; exact k)
theorem zt_idiv (hx : p.tables.exec = Jvm.exec) (hb : c.code = cc) {x y : Int} (hdg : decode cc pc = .ok (.idiv, 1)) (h : (0 ≤ x ∧ x < 2147483648) ∧ (0 < y ∧ y < 2147483648))
    (k : W p l e R s m args below meth c H locs cells slots Q (F0 m (pc + 1) ls (.int (iI (x / y)) :: rest))) : W p l e R s m args below meth c H locs cells slots Q (F0 m pc ls (.int (iI y) :: .int (iI x) :: rest)) := by
  refine lv_idiv hx hb hdg (fun q => ?_) (by rw [iI_div h.1 h.2]; exact k)
  rw [← iI_0, iI_eq (by omega) (by omega)] at q
  omega
theorem zt_irem (hx : p.tables.exec = Jvm.exec) (hb : c.code = cc) {x y : Int} (hdg : decode cc pc = .ok (.irem, 1)) (h : (0 ≤ x ∧ x < 2147483648) ∧ (0 < y ∧ y < 2147483648))
    (k : W p l e R s m args below meth c H locs cells slots Q (F0 m (pc + 1) ls (.int (iI (x % y)) :: rest))) : W p l e R s m args below meth c H locs cells slots Q (F0 m pc ls (.int (iI y) :: .int (iI x) :: rest)) := by
  refine lv_irem hx hb hdg (fun q => ?_) (by rw [iI_rem h.1 h.2]; exact k)
  rw [← iI_0, iI_eq (by omega) (by omega)] at q
  omega
theorem zt_icmp_eq (hx : p.tables.exec = Jvm.exec) (hb : c.code = cc) {x y : Int} {off : Int} {tgt : Nat} (hdg : decode cc pc = .ok (.if_icmp .eq off, 3)) (ht : (pc : Int) + off = (tgt : Int)) (h : (-2147483648 ≤ x ∧ x < 2147483648) ∧ (-2147483648 ≤ y ∧ y < 2147483648))
    (kt : x = y → W p l e R s m args below meth c H locs cells slots Q (F0 m tgt ls rest)) (kf : ¬ x = y → W p l e R s m args below meth c H locs cells slots Q (F0 m (pc + 3) ls rest)) : W p l e R s m args below meth c H locs cells slots Q (F0 m pc ls (.int (iI y) :: .int (iI x) :: rest)) :=
  lv_icmp_eq hx hb hdg ht (fun q => kt ((iI_eq h.1 h.2).mp q)) (fun q => kf (fun z => q ((iI_eq h.1 h.2).mpr z)))
theorem zt_icmp_ne (hx : p.tables.exec = Jvm.exec) (hb : c.code = cc) {x y : Int} {off : Int} {tgt : Nat} (hdg : decode cc pc = .ok (.if_icmp .ne off, 3)) (ht : (pc : Int) + off = (tgt : Int)) (h : (-2147483648 ≤ x ∧ x < 2147483648) ∧ (-2147483648 ≤ y ∧ y < 2147483648))
    (kt : ¬ x = y → W p l e R s m args below meth c H locs cells slots Q (F0 m tgt ls rest)) (kf : x = y → W p l e R s m args below meth c H locs cells slots Q (F0 m (pc + 3) ls rest)) : W p l e R s m args below meth c H locs cells slots Q (F0 m pc ls (.int (iI y) :: .int (iI x) :: rest)) :=
  lv_icmp_ne hx hb hdg ht (fun q => kt (fun z => q ((iI_eq h.1 h.2).mpr z))) (fun q => kf ((iI_eq h.1 h.2).mp q))
theorem zt_icmp_lt (hx : p.tables.exec = Jvm.exec) (hb : c.code = cc) {x y : Int} {off : Int} {tgt : Nat} (hdg : decode cc pc = .ok (.if_icmp .lt off, 3)) (ht : (pc : Int) + off = (tgt : Int)) (h : (-2147483648 ≤ x ∧ x < 2147483648) ∧ (-2147483648 ≤ y ∧ y < 2147483648))
    (kt : x < y → W p l e R s m args below meth c H locs cells slots Q (F0 m tgt ls rest)) (kf : y ≤ x → W p l e R s m args below meth c H locs cells slots Q (F0 m (pc + 3) ls rest)) : W p l e R s m args below meth c H locs cells slots Q (F0 m pc ls (.int (iI y) :: .int (iI x) :: rest)) :=
  lv_icmp_lt hx hb hdg ht (fun q => kt ((iI_lt h.1 h.2).mp q)) (fun q => kf (by rw [iI_lt h.1 h.2] at q; omega))
theorem zt_icmp_ge (hx : p.tables.exec = Jvm.exec) (hb : c.code = cc) {x y : Int} {off : Int} {tgt : Nat} (hdg : decode cc pc = .ok (.if_icmp .ge off, 3)) (ht : (pc : Int) + off = (tgt : Int)) (h : (-2147483648 ≤ x ∧ x < 2147483648) ∧ (-2147483648 ≤ y ∧ y < 2147483648))
    (kt : y ≤ x → W p l e R s m args below meth c H locs cells slots Q (F0 m tgt ls rest)) (kf : x < y → W p l e R s m args below meth c H locs cells slots Q (F0 m (pc + 3) ls rest)) : W p l e R s m args below meth c H locs cells slots Q (F0 m pc ls (.int (iI y) :: .int (iI x) :: rest)) :=
  lv_icmp_ge hx hb hdg ht (fun q => kt ((iI_le h.2 h.1).mp q)) (fun q => kf (by rw [iI_le h.2 h.1] at q; omega))
theorem zt_icmp_gt (hx : p.tables.exec = Jvm.exec) (hb : c.code = cc) {x y : Int} {off : Int} {tgt : Nat} (hdg : decode cc pc = .ok (.if_icmp .gt off, 3)) (ht : (pc : Int) + off = (tgt : Int)) (h : (-2147483648 ≤ x ∧ x < 2147483648) ∧ (-2147483648 ≤ y ∧ y < 2147483648))
    (kt : y < x → W p l e R s m args below meth c H locs cells slots Q (F0 m tgt ls rest)) (kf : x ≤ y → W p l e R s m args below meth c H locs cells slots Q (F0 m (pc + 3) ls rest)) : W p l e R s m args below meth c H locs cells slots Q (F0 m pc ls (.int (iI y) :: .int (iI x) :: rest)) :=
  lv_icmp_gt hx hb hdg ht (fun q => kt ((iI_lt h.2 h.1).mp q)) (fun q => kf (by rw [iI_lt h.2 h.1] at q; omega))
theorem zt_icmp_le (hx : p.tables.exec = Jvm.exec) (hb : c.code = cc) {x y : Int} {off : Int} {tgt : Nat} (hdg : decode cc pc = .ok (.if_icmp .le off, 3)) (ht : (pc : Int) + off = (tgt : Int)) (h : (-2147483648 ≤ x ∧ x < 2147483648) ∧ (-2147483648 ≤ y ∧ y < 2147483648))
    (kt : x ≤ y → W p l e R s m args below meth c H locs cells slots Q (F0 m tgt ls rest)) (kf : y < x → W p l e R s m args below meth c H locs cells slots Q (F0 m (pc + 3) ls rest)) : W p l e R s m args below meth c H locs cells slots Q (F0 m pc ls (.int (iI y) :: .int (iI x) :: rest)) :=
  lv_icmp_le hx hb hdg ht (fun q => kt ((iI_le h.1 h.2).mp q)) (fun q => kf (by rw [iI_le h.1 h.2] at q; omega))
theorem zt_if_eq (hx : p.tables.exec = Jvm.exec) (hb : c.code = cc) {x : Int} {off : Int} {tgt : Nat} (hdg : decode cc pc = .ok (.ifCond .eq off, 3)) (ht : (pc : Int) + off = (tgt : Int)) (h : -2147483648 ≤ x ∧ x < 2147483648)
    (kt : x = 0 → W p l e R s m args below meth c H locs cells slots Q (F0 m tgt ls rest)) (kf : ¬ x = 0 → W p l e R s m args below meth c H locs cells slots Q (F0 m (pc + 3) ls rest)) : W p l e R s m args below meth c H locs cells slots Q (F0 m pc ls (.int (iI x) :: rest)) :=
  lv_if_eq hx hb hdg ht (fun q => kt ((iI_eq h (by omega)).mp (q.trans iI_0.symm))) (fun q => kf (fun z => q (by rw [z]; rfl)))
theorem zt_if_ne (hx : p.tables.exec = Jvm.exec) (hb : c.code = cc) {x : Int} {off : Int} {tgt : Nat} (hdg : decode cc pc = .ok (.ifCond .ne off, 3)) (ht : (pc : Int) + off = (tgt : Int)) (h : -2147483648 ≤ x ∧ x < 2147483648)
    (kt : ¬ x = 0 → W p l e R s m args below meth c H locs cells slots Q (F0 m tgt ls rest)) (kf : x = 0 → W p l e R s m args below meth c H locs cells slots Q (F0 m (pc + 3) ls rest)) : W p l e R s m args below meth c H locs cells slots Q (F0 m pc ls (.int (iI x) :: rest)) :=
  lv_if_ne hx hb hdg ht (fun q => kt (fun z => q (by rw [z]; rfl))) (fun q => kf ((iI_eq h (by omega)).mp (q.trans iI_0.symm)))
theorem zt_if_lt (hx : p.tables.exec = Jvm.exec) (hb : c.code = cc) {x : Int} {off : Int} {tgt : Nat} (hdg : decode cc pc = .ok (.ifCond .lt off, 3)) (ht : (pc : Int) + off = (tgt : Int)) (h : -2147483648 ≤ x ∧ x < 2147483648)
    (kt : x < 0 → W p l e R s m args below meth c H locs cells slots Q (F0 m tgt ls rest)) (kf : 0 ≤ x → W p l e R s m args below meth c H locs cells slots Q (F0 m (pc + 3) ls rest)) : W p l e R s m args below meth c H locs cells slots Q (F0 m pc ls (.int (iI x) :: rest)) :=
  lv_if_lt hx hb hdg ht (fun q => kt ((iI_lt h (by omega)).mp (iI_0.symm ▸ q))) (fun q => kf (by rw [← iI_0, iI_lt h (by omega)] at q; omega))
theorem zt_if_ge (hx : p.tables.exec = Jvm.exec) (hb : c.code = cc) {x : Int} {off : Int} {tgt : Nat} (hdg : decode cc pc = .ok (.ifCond .ge off, 3)) (ht : (pc : Int) + off = (tgt : Int)) (h : -2147483648 ≤ x ∧ x < 2147483648)
    (kt : 0 ≤ x → W p l e R s m args below meth c H locs cells slots Q (F0 m tgt ls rest)) (kf : x < 0 → W p l e R s m args below meth c H locs cells slots Q (F0 m (pc + 3) ls rest)) : W p l e R s m args below meth c H locs cells slots Q (F0 m pc ls (.int (iI x) :: rest)) :=
  lv_if_ge hx hb hdg ht (fun q => kt (by rw [← iI_0, iI_le (by omega) h] at q; exact q)) (fun q => kf (by rw [← iI_0, iI_le (by omega) h] at q; omega))
theorem zt_if_gt (hx : p.tables.exec = Jvm.exec) (hb : c.code = cc) {x : Int} {off : Int} {tgt : Nat} (hdg : decode cc pc = .ok (.ifCond .gt off, 3)) (ht : (pc : Int) + off = (tgt : Int)) (h : -2147483648 ≤ x ∧ x < 2147483648)
    (kt : 0 < x → W p l e R s m args below meth c H locs cells slots Q (F0 m tgt ls rest)) (kf : x ≤ 0 → W p l e R s m args below meth c H locs cells slots Q (F0 m (pc + 3) ls rest)) : W p l e R s m args below meth c H locs cells slots Q (F0 m pc ls (.int (iI x) :: rest)) :=
  lv_if_gt hx hb hdg ht (fun q => kt (by rw [← iI_0, iI_lt (by omega) h] at q; exact q)) (fun q => kf (by rw [← iI_0, iI_lt (by omega) h] at q; omega))
theorem zt_if_le (hx : p.tables.exec = Jvm.exec) (hb : c.code = cc) {x : Int} {off : Int} {tgt : Nat} (hdg : decode cc pc = .ok (.ifCond .le off, 3)) (ht : (pc : Int) + off = (tgt : Int)) (h : -2147483648 ≤ x ∧ x < 2147483648)
    (kt : x ≤ 0 → W p l e R s m args below meth c H locs cells slots Q (F0 m tgt ls rest)) (kf : 0 < x → W p l e R s m args below meth c H locs cells slots Q (F0 m (pc + 3) ls rest)) : W p l e R s m args below meth c H locs cells slots Q (F0 m pc ls (.int (iI x) :: rest)) :=
  lv_if_le hx hb hdg ht (fun q => kt (by rw [← iI_0, iI_le h (by omega)] at q; exact q)) (fun q => kf (by rw [← iI_0, iI_le h (by omega)] at q; omega))
/-- the top of the stack, written otherwise -/
theorem zt_top {v w : Value} (h : v = w) (k : W p l e R s m args below meth c H locs cells slots Q (F0 m pc ls (w :: rest))) : W p l e R s m args below meth c H locs cells slots Q (F0 m pc ls (v :: rest)) := h ▸ k
section ZA
variable {D : va_G} {cl : List vw_C} {A : Nat → Prop} {a : Nat} {tys : List (ClassId × FieldType)} {ws : va_W} {H0 : Heap}
theorem zt_iald (hx : p.tables.exec = Jvm.exec) (hb : c.code = cc) (hK : va_K D cl tys s) (hP : va_P D cl ws H) (q0 : Nat) (t0 : Nat) {cA : ClassId} {n : Nat} {g : Nat → Int} (ha : ws[q0]? = some (a, aI cA n g)) (ht : tys[t0]? = some (cA, .int)) (hn : n < 2147483648) {i : Int} (h : 0 ≤ i ∧ i < (n : Int)) (hdg : decode cc pc = .ok (.iaload, 1))
    (k : W p l e R s m args below meth c H locs cells slots Q (F0 m (pc + 1) ls (.int (iI (g i.toNat)) :: rest))) : W p l e R s m args below meth c H locs cells slots Q (F0 m pc ls (.int (iI i) :: .ref a :: rest)) := by
  refine va_iald hx hb hK hP q0 t0 ha ht (iI_in h hn) hdg ?_
  rw [iI_nat (by omega)]
  exact k
theorem zt_iast (hx : p.tables.exec = Jvm.exec) (hb : c.code = cc) (hK : va_K D cl tys s) (hP : va_P D cl ws H) (hD : va_D A ws) (hS : va_S A H0 H locs) (q0 : Nat) (t0 : Nat) {cA : ClassId} {n : Nat} {g : Nat → Int} (ha : ws[q0]? = some (a, aI cA n g)) (ht : tys[t0]? = some (cA, .int)) (hn : n < 2147483648) {i x : Int} (h : 0 ≤ i ∧ i < (n : Int)) (hdg : decode cc pc = .ok (.iastore, 1))
    (k : ∀ (H1 : Heap) (locs1 : List Loc), va_P D cl (ws.set q0 (a, aI cA n (uP g i.toNat x))) H1 → va_D A (ws.set q0 (a, aI cA n (uP g i.toNat x))) → va_S A H0 H1 locs1 → W p l e R s m args below meth c H1 locs1 cells slots Q (F0 m (pc + 1) ls rest)) : W p l e R s m args below meth c H locs cells slots Q (F0 m pc ls (.int (iI x) :: .int (iI i) :: .ref a :: rest)) := by
  refine va_iast hx hb hK hP hD hS q0 t0 ha ht (iI_in h hn) hdg (fun H1 locs1 h1 h2 h3 => ?_)
  rw [iI_nat (by omega), iF_upd] at h1 h2
  exact k H1 locs1 h1 h2 h3
theorem zt_cald (hx : p.tables.exec = Jvm.exec) (hb : c.code = cc) (hK : va_K D cl tys s) (hP : va_P D cl ws H) (q0 : Nat) (t0 : Nat) {cA : ClassId} {n : Nat} {f : Nat → Int32} (ha : ws[q0]? = some (a, .inl (cA, n, .inl f))) (ht : tys[t0]? = some (cA, .char)) (hn : n < 2147483648) {i : Int} (h : 0 ≤ i ∧ i < (n : Int)) (hdg : decode cc pc = .ok (.caload, 1))
    (k : ∀ y : Int32, W p l e R s m args below meth c H locs cells slots Q (F0 m (pc + 1) ls (.int y :: rest))) : W p l e R s m args below meth c H locs cells slots Q (F0 m pc ls (.int (iI i) :: .ref a :: rest)) :=
  va_cald hx hb hK hP q0 t0 ha ht (iI_in h hn) hdg (k _)
theorem zt_cast (hx : p.tables.exec = Jvm.exec) (hb : c.code = cc) (hK : va_K D cl tys s) (hP : va_P D cl ws H) (hD : va_D A ws) (hS : va_S A H0 H locs) (q0 : Nat) (t0 : Nat) {cA : ClassId} {n : Nat} {f : Nat → Int32} (ha : ws[q0]? = some (a, .inl (cA, n, .inl f))) (ht : tys[t0]? = some (cA, .char)) (hn : n < 2147483648) {i : Int} {x : Int32} (h : 0 ≤ i ∧ i < (n : Int)) (hdg : decode cc pc = .ok (.castore, 1))
    (k : ∀ (f1 : Nat → Int32) (H1 : Heap) (locs1 : List Loc), va_P D cl (ws.set q0 (a, .inl (cA, n, .inl f1))) H1 → va_D A (ws.set q0 (a, .inl (cA, n, .inl f1))) → va_S A H0 H1 locs1 → W p l e R s m args below meth c H1 locs1 cells slots Q (F0 m (pc + 1) ls rest)) : W p l e R s m args below meth c H locs cells slots Q (F0 m pc ls (.int x :: .int (iI i) :: .ref a :: rest)) :=
  va_cast hx hb hK hP hD hS q0 t0 ha ht (iI_in h hn) hdg (fun H1 locs1 h1 h2 h3 => k _ H1 locs1 h1 h2 h3)
end ZA
end ZT
/-! what every method knows: the classes, the three kinds of array, the fields of nest mates -/
def zN (U : State) : Prop := va_AO RX4 U ∧ va_Nw (.fieldLinkNest RX6 122 "Threetwo$Buffer" "rateNow" "I" "Threetwo") U ∧ va_Nw (.fieldLinkNest RX6 127 "Threetwo$Buffer" "sizes" "LThreetwo$Row;" "Threetwo") U ∧ va_Nw (.fieldLinkNest RX6 135 "Threetwo$Rhythm" "places" "[I" "Threetwo") U ∧ va_Nw (.fieldLinkNest RX6 139 "Threetwo$Rhythm" "frameOf" "[I" "Threetwo") U ∧ va_Nw (.fieldLinkNest RX6 148 "Threetwo$Rhythm" "frames" "I" "Threetwo") U ∧ va_Nw (.fieldLinkNest RX6 156 "Threetwo$Rhythm" "frameLooks" "[I" "Threetwo") U ∧ va_Nw (.fieldLinkNest RX6 159 "Threetwo$Rhythm" "firsts" "[I" "Threetwo") U ∧ va_Nw (.fieldLinkNest RX6 162 "Threetwo$Rhythm" "lengths" "[I" "Threetwo") U ∧ va_Nw (.fieldLinkNest RX6 184 "Threetwo$Strip" "notes" "I" "Threetwo") U ∧ va_Nw (.fieldLinkNest RX6 187 "Threetwo$Rhythm" "cost" "I" "Threetwo") U ∧ va_Nw (.fieldLinkNest RX6 190 "Threetwo$Prints" "many" "I" "Threetwo") U ∧ va_Nw (.fieldLinkNest RX6 79 "Threetwo$Strip" "looks" "LThreetwo$Row;" "Threetwo") U
theorem zN.warm {s U : State} (hW : s.WarmedH U.vm) (h : zN s) : zN U := by
  obtain ⟨h0, h1, h2, h3, h4, h5, h6, h7, h8, h9, h10, h11, h12⟩ := h
  exact ⟨va_AO.moved hW.alike h0, va_Nw.warmF hW h1, va_Nw.warmF hW h2, va_Nw.warmF hW h3, va_Nw.warmF hW h4, va_Nw.warmF hW h5, va_Nw.warmF hW h6, va_Nw.warmF hW h7, va_Nw.warmF hW h8, va_Nw.warmF hW h9, va_Nw.warmF hW h10, va_Nw.warmF hW h11, va_Nw.warmF hW h12⟩
theorem zN.same {u U : State} (hv : u.vm = U.vm) (h : zN u) : zN U := by
  obtain ⟨h0, h1, h2, h3, h4, h5, h6, h7, h8, h9, h10, h11, h12⟩ := h
  exact ⟨va_AO.moved (hv ▸ Vm.Alike.refl u.vm) h0, va_Nw.same rfl hv h1, va_Nw.same rfl hv h2, va_Nw.same rfl hv h3, va_Nw.same rfl hv h4, va_Nw.same rfl hv h5, va_Nw.same rfl hv h6, va_Nw.same rfl hv h7, va_Nw.same rfl hv h8, va_Nw.same rfl hv h9, va_Nw.same rfl hv h10, va_Nw.same rfl hv h11, va_Nw.same rfl hv h12⟩
def zK (D : va_G) (gi gc gr : ClassId) (U : State) : Prop := va_K D vwCl [(gi, .int), (gc, .char), (gr, .object "Threetwo$Row")] U ∧ zN U
theorem zK.warm {D : va_G} {gi gc gr : ClassId} {s U : State} (hW : s.WarmedH U.vm) (h : zK D gi gc gr s) : zK D gi gc gr U := ⟨va_K.moved hW.alike h.1, h.2.warm hW⟩
theorem zK.same {D : va_G} {gi gc gr : ClassId} {u U : State} (hv : u.vm = U.vm) (h : zK D gi gc gr u) : zK D gi gc gr U := ⟨va_K.moved (hv ▸ Vm.Alike.refl u.vm) h.1, h.2.same hv⟩
/-- a method's start, where it only reads: the cells that it needs (they may be named twice) -/
def zPr (D : va_G) (gi gc gr : ClassId) (w : va_W) (av : List Value) : Array Value → State → Prop := fun v U => v = av.toArray ∧ va_P D vwCl w U.heap ∧ zK D gi gc gr U
/-- a method's start, where it writes: its cells, apart -/
def zPw (D : va_G) (gi gc gr : ClassId) (w : va_W) (sz : Nat) (av : List Value) : Array Value → State → Prop := fun v U => v = av.toArray ∧ U.heap.size = sz ∧ va_P D vwCl w U.heap ∧ zK D gi gc gr U ∧ va_D (fun _ => True) w
theorem zPr.blind {D : va_G} {gi gc gr : ClassId} {w : va_W} {av : List Value} : FrameBlind (zPr D gi gc gr w av) := fun a U g mk q => ⟨q.1, q.2.1, zK.same (u := U) (U := U.calling g mk a) rfl q.2.2⟩
theorem zPw.blind {D : va_G} {gi gc gr : ClassId} {w : va_W} {sz : Nat} {av : List Value} : FrameBlind (zPw D gi gc gr w sz av) := fun a U g mk q => ⟨q.1, q.2.1, q.2.2.1, zK.same (u := U) (U := U.calling g mk a) rfl q.2.2.2.1, q.2.2.2.2⟩
/-- the entry of a method that only reads: it hands back an int, a small int, a long, nothing -/
theorem zt_metRi {l : Launch} {y : MethodName} {ws ws' : List Cond} {rm : Room} {cc : ByteArray} {maxL : Nat} {own : String} {D : va_G} {gi gc gr : ClassId} {w : va_W} {av : List Value} {post : Int32 → Prop}
    (hy : plainName y.cls = true) (hcls : y.cls = own) (hw : ws = Cond.code y cc maxL (some .int) :: ws') (hn : (lg_sl av).length ≤ maxL)
    (body : ∀ (p : Program) (e : Env) (s : State) (m : MethodId) (args : Array Value) (below : List Frame) (meth : Method) (c : Code) (Q : State → Prop), CallFix p m c cc maxL s args ws own → zK D gi gc gr s → va_P D vwCl w s.heap →
      (∀ (v : Int32) (pc : Nat) (ls : Array Slot), post v → decode cc pc = .ok (.ireturn, 1) → W p l e rm s m args below meth c s.heap [] 0 0 Q (F0 m pc ls [.int v])) → ∀ ls : Array Slot, lv_has ls maxL (lv_args 0 av) →
      W p l e rm s m args below meth c s.heap [] 0 0 Q (F0 m 0 ls [])) : Met l y ws rm (zPr D gi gc gr w av) (vp_Si post) 0 0 (fun _ => False) := by
  refine Met.ofW (cc := cc) (maxL := maxL) (ret := some .int) hy hw ?_
  intro p e s m args below meth c s₁ B hml hv
  obtain ⟨rfl, hP, hK⟩ := hv
  have hl := lv_entry av (n := maxL) hn
  rw [lg_entry_eq]
  have hr := B.returns
  have hlk := B.notSynchronized
  have hx := B.exec
  have hb := B.bytes
  exact body p e s m av.toArray below meth c _ ⟨hx, hb, hml, by rw [← hcls]; exact findClass_of_methodNamed B.named, atoms_spec (ws := ws) B.pre⟩ hK hP (fun v pc ls h hdg => W.iret hx hb hr (fun t ht _ => ⟨v, rfl, h, ht⟩) (fun q hq => by cases hq) hdg hlk) _ hl
theorem zt_metRz {l : Launch} {y : MethodName} {ws ws' : List Cond} {rm : Room} {cc : ByteArray} {maxL : Nat} {ty : FieldType} {own : String} {D : va_G} {gi gc gr : ClassId} {w : va_W} {av : List Value} {post : Int32 → Prop}
    (hy : plainName y.cls = true) (hcls : y.cls = own) (hw : ws = Cond.code y cc maxL (some ty) :: ws') (hn : (lg_sl av).length ≤ maxL)
    (body : ∀ (p : Program) (e : Env) (s : State) (m : MethodId) (args : Array Value) (below : List Frame) (meth : Method) (c : Code) (Q : State → Prop), CallFix p m c cc maxL s args ws own → zK D gi gc gr s → va_P D vwCl w s.heap →
      (∀ (v : Int32) (pc : Nat) (ls : Array Slot), narrow ty (.int v) = .int v → post v → decode cc pc = .ok (.ireturn, 1) → W p l e rm s m args below meth c s.heap [] 0 0 Q (F0 m pc ls [.int v])) → ∀ ls : Array Slot, lv_has ls maxL (lv_args 0 av) →
      W p l e rm s m args below meth c s.heap [] 0 0 Q (F0 m 0 ls [])) : Met l y ws rm (zPr D gi gc gr w av) (vp_Si post) 0 0 (fun _ => False) := by
  refine Met.ofW (cc := cc) (maxL := maxL) (ret := some ty) hy hw ?_
  intro p e s m args below meth c s₁ B hml hv
  obtain ⟨rfl, hP, hK⟩ := hv
  have hl := lv_entry av (n := maxL) hn
  rw [lg_entry_eq]
  have hr := B.returns
  have hlk := B.notSynchronized
  have hx := B.exec
  have hb := B.bytes
  exact body p e s m av.toArray below meth c _ ⟨hx, hb, hml, by rw [← hcls]; exact findClass_of_methodNamed B.named, atoms_spec (ws := ws) B.pre⟩ hK hP (fun v pc ls hn h hdg => W.zret hx hb hr hn (fun t ht _ => ⟨v, rfl, h, ht⟩) (fun q hq => by cases hq) hdg hlk) _ hl
theorem zt_metRl {l : Launch} {y : MethodName} {ws ws' : List Cond} {rm : Room} {cc : ByteArray} {maxL : Nat} {own : String} {D : va_G} {gi gc gr : ClassId} {w : va_W} {av : List Value} {post : Int64 → Prop}
    (hy : plainName y.cls = true) (hcls : y.cls = own) (hw : ws = Cond.code y cc maxL (some .long) :: ws') (hn : (lg_sl av).length ≤ maxL)
    (body : ∀ (p : Program) (e : Env) (s : State) (m : MethodId) (args : Array Value) (below : List Frame) (meth : Method) (c : Code) (Q : State → Prop), CallFix p m c cc maxL s args ws own → zK D gi gc gr s → va_P D vwCl w s.heap →
      (∀ (v : Int64) (pc : Nat) (ls : Array Slot), post v → decode cc pc = .ok (.lreturn, 1) → W p l e rm s m args below meth c s.heap [] 0 0 Q (F0 m pc ls [.long v])) → ∀ ls : Array Slot, lv_has ls maxL (lv_args 0 av) →
      W p l e rm s m args below meth c s.heap [] 0 0 Q (F0 m 0 ls [])) : Met l y ws rm (zPr D gi gc gr w av) (vp_Sl post) 0 0 (fun _ => False) := by
  refine Met.ofW (cc := cc) (maxL := maxL) (ret := some .long) hy hw ?_
  intro p e s m args below meth c s₁ B hml hv
  obtain ⟨rfl, hP, hK⟩ := hv
  have hl := lv_entry av (n := maxL) hn
  rw [lg_entry_eq]
  have hr := B.returns
  have hlk := B.notSynchronized
  have hx := B.exec
  have hb := B.bytes
  exact body p e s m av.toArray below meth c _ ⟨hx, hb, hml, by rw [← hcls]; exact findClass_of_methodNamed B.named, atoms_spec (ws := ws) B.pre⟩ hK hP (fun v pc ls h hdg => W.lret hx hb hr (fun t ht _ => ⟨v, rfl, h, ht⟩) (fun q hq => by cases hq) hdg hlk) _ hl
theorem zt_metRv {l : Launch} {y : MethodName} {ws ws' : List Cond} {rm : Room} {cc : ByteArray} {maxL : Nat} {own : String} {D : va_G} {gi gc gr : ClassId} {w : va_W} {av : List Value} {post : Unit → Prop}
    (hy : plainName y.cls = true) (hcls : y.cls = own) (hw : ws = Cond.code y cc maxL none :: ws') (hn : (lg_sl av).length ≤ maxL)
    (body : ∀ (p : Program) (e : Env) (s : State) (m : MethodId) (args : Array Value) (below : List Frame) (meth : Method) (c : Code) (Q : State → Prop), CallFix p m c cc maxL s args ws own → zK D gi gc gr s → va_P D vwCl w s.heap →
      (∀ (pc : Nat) (ls : Array Slot), post () → decode cc pc = .ok (.return_, 1) → W p l e rm s m args below meth c s.heap [] 0 0 Q (F0 m pc ls [])) → ∀ ls : Array Slot, lv_has ls maxL (lv_args 0 av) →
      W p l e rm s m args below meth c s.heap [] 0 0 Q (F0 m 0 ls [])) : Met l y ws rm (zPr D gi gc gr w av) (va_Sv post) 0 0 (fun _ => False) := by
  refine Met.ofW (cc := cc) (maxL := maxL) (ret := none) hy hw ?_
  intro p e s m args below meth c s₁ B hml hv
  obtain ⟨rfl, hP, hK⟩ := hv
  have hl := lv_entry av (n := maxL) hn
  rw [lg_entry_eq]
  have hr := B.returns
  have hlk := B.notSynchronized
  have hx := B.exec
  have hb := B.bytes
  exact body p e s m av.toArray below meth c _ ⟨hx, hb, hml, by rw [← hcls]; exact findClass_of_methodNamed B.named, atoms_spec (ws := ws) B.pre⟩ hK hP (fun pc ls h hdg => W.vret hx hb hr (fun t ht _ => ⟨rfl, h, ht⟩) (fun q hq => by cases hq) hdg hlk) _ hl
/-- what stands behind a method that writes: the answer u of its kind, the cells wf u -/
def zB {S : Type} (D : va_G) (A : Nat → Prop) (wf : S → va_W) : S → State → Prop := fun u t => va_P D vwCl (wf u) t.heap ∧ va_D A (wf u)
theorem zt_metWi {S : Type} {l : Launch} {y : MethodName} {ws ws' : List Cond} {rm : Room} {cc : ByteArray} {maxL mc ms : Nat} {own : String} {D : va_G} {gi gc gr : ClassId} {w : va_W} {sz : Nat} {av : List Value} {post : Int32 → S → Prop} {wf : S → va_W}
    (hy : plainName y.cls = true) (hcls : y.cls = own) (hw : ws = Cond.code y cc maxL (some .int) :: ws') (hn : (lg_sl av).length ≤ maxL)
    (body : ∀ (p : Program) (e : Env) (s : State) (m : MethodId) (args : Array Value) (below : List Frame) (meth : Method) (c : Code) (Q : State → Prop) (A : Nat → Prop), CallFix p m c cc maxL s args ws own → zK D gi gc gr s → va_P D vwCl w s.heap → va_D A w → va_S A s.heap s.heap [] → (∀ q : Nat, s.heap.size ≤ q → A q) → (y.name = "<init>" → meth.name = "<init>") →
      (∀ (u : S) (v : Int32) (pc : Nat) (ls : Array Slot) (H : Heap) (locs : List Loc), post v u → va_P D vwCl (wf u) H → va_D A (wf u) → va_S A s.heap H locs → decode cc pc = .ok (.ireturn, 1) → W p l e rm s m args below meth c H locs mc ms Q (F0 m pc ls [.int v])) → ∀ ls : Array Slot, lv_has ls maxL (lv_args 0 av) →
      W p l e rm s m args below meth c s.heap [] 0 0 Q (F0 m 0 ls [])) : Met l y ws rm (zPw D gi gc gr w sz av) (va_Qi post (zB D (va_A w sz) wf) (va_A w sz)) mc ms (va_A w sz) := by
  refine Met.ofW (cc := cc) (maxL := maxL) (ret := (some .int)) hy hw ?_
  intro p e s m args below meth c s₁ B hml hv
  obtain ⟨rfl, hsz, hP, hK, hD⟩ := hv
  have hl := lv_entry av (n := maxL) hn
  rw [lg_entry_eq]
  have hr := B.returns
  have hlk := B.notSynchronized
  have hx := B.exec
  have hb := B.bytes
  exact body p e s m av.toArray below meth c _ (va_A w sz) ⟨hx, hb, hml, by rw [← hcls]; exact findClass_of_methodNamed B.named, atoms_spec (ws := ws) B.pre⟩ hK hP hD.self va_S.rf (fun q h => Or.inr (hsz ▸ h)) (fun hi => (name_of_methodNamed B.named B.method).1.trans hi) (fun u v pc ls H locs h hP hD hS hdg => W.iret hx hb hr (fun t ht _ => ⟨⟨v, u, rfl, h, by rw [ht]; exact hP, hD⟩, hS.F ht⟩) hS.2.2 hdg hlk) _ hl
theorem zt_metWz {S : Type} {l : Launch} {y : MethodName} {ws ws' : List Cond} {rm : Room} {cc : ByteArray} {maxL mc ms : Nat} {ty : FieldType} {own : String} {D : va_G} {gi gc gr : ClassId} {w : va_W} {sz : Nat} {av : List Value} {post : Int32 → S → Prop} {wf : S → va_W}
    (hy : plainName y.cls = true) (hcls : y.cls = own) (hw : ws = Cond.code y cc maxL (some ty) :: ws') (hn : (lg_sl av).length ≤ maxL)
    (body : ∀ (p : Program) (e : Env) (s : State) (m : MethodId) (args : Array Value) (below : List Frame) (meth : Method) (c : Code) (Q : State → Prop) (A : Nat → Prop), CallFix p m c cc maxL s args ws own → zK D gi gc gr s → va_P D vwCl w s.heap → va_D A w → va_S A s.heap s.heap [] → (∀ q : Nat, s.heap.size ≤ q → A q) → (y.name = "<init>" → meth.name = "<init>") →
      (∀ (u : S) (v : Int32) (pc : Nat) (ls : Array Slot) (H : Heap) (locs : List Loc), narrow ty (.int v) = .int v → post v u → va_P D vwCl (wf u) H → va_D A (wf u) → va_S A s.heap H locs → decode cc pc = .ok (.ireturn, 1) → W p l e rm s m args below meth c H locs mc ms Q (F0 m pc ls [.int v])) → ∀ ls : Array Slot, lv_has ls maxL (lv_args 0 av) →
      W p l e rm s m args below meth c s.heap [] 0 0 Q (F0 m 0 ls [])) : Met l y ws rm (zPw D gi gc gr w sz av) (va_Qi post (zB D (va_A w sz) wf) (va_A w sz)) mc ms (va_A w sz) := by
  refine Met.ofW (cc := cc) (maxL := maxL) (ret := (some ty)) hy hw ?_
  intro p e s m args below meth c s₁ B hml hv
  obtain ⟨rfl, hsz, hP, hK, hD⟩ := hv
  have hl := lv_entry av (n := maxL) hn
  rw [lg_entry_eq]
  have hr := B.returns
  have hlk := B.notSynchronized
  have hx := B.exec
  have hb := B.bytes
  exact body p e s m av.toArray below meth c _ (va_A w sz) ⟨hx, hb, hml, by rw [← hcls]; exact findClass_of_methodNamed B.named, atoms_spec (ws := ws) B.pre⟩ hK hP hD.self va_S.rf (fun q h => Or.inr (hsz ▸ h)) (fun hi => (name_of_methodNamed B.named B.method).1.trans hi) (fun u v pc ls H locs hn h hP hD hS hdg => W.zret hx hb hr hn (fun t ht _ => ⟨⟨v, u, rfl, h, by rw [ht]; exact hP, hD⟩, hS.F ht⟩) hS.2.2 hdg hlk) _ hl
theorem zt_metWl {S : Type} {l : Launch} {y : MethodName} {ws ws' : List Cond} {rm : Room} {cc : ByteArray} {maxL mc ms : Nat} {own : String} {D : va_G} {gi gc gr : ClassId} {w : va_W} {sz : Nat} {av : List Value} {post : Int64 → S → Prop} {wf : S → va_W}
    (hy : plainName y.cls = true) (hcls : y.cls = own) (hw : ws = Cond.code y cc maxL (some .long) :: ws') (hn : (lg_sl av).length ≤ maxL)
    (body : ∀ (p : Program) (e : Env) (s : State) (m : MethodId) (args : Array Value) (below : List Frame) (meth : Method) (c : Code) (Q : State → Prop) (A : Nat → Prop), CallFix p m c cc maxL s args ws own → zK D gi gc gr s → va_P D vwCl w s.heap → va_D A w → va_S A s.heap s.heap [] → (∀ q : Nat, s.heap.size ≤ q → A q) → (y.name = "<init>" → meth.name = "<init>") →
      (∀ (u : S) (v : Int64) (pc : Nat) (ls : Array Slot) (H : Heap) (locs : List Loc), post v u → va_P D vwCl (wf u) H → va_D A (wf u) → va_S A s.heap H locs → decode cc pc = .ok (.lreturn, 1) → W p l e rm s m args below meth c H locs mc ms Q (F0 m pc ls [.long v])) → ∀ ls : Array Slot, lv_has ls maxL (lv_args 0 av) →
      W p l e rm s m args below meth c s.heap [] 0 0 Q (F0 m 0 ls [])) : Met l y ws rm (zPw D gi gc gr w sz av) (va_Ql post (zB D (va_A w sz) wf) (va_A w sz)) mc ms (va_A w sz) := by
  refine Met.ofW (cc := cc) (maxL := maxL) (ret := (some .long)) hy hw ?_
  intro p e s m args below meth c s₁ B hml hv
  obtain ⟨rfl, hsz, hP, hK, hD⟩ := hv
  have hl := lv_entry av (n := maxL) hn
  rw [lg_entry_eq]
  have hr := B.returns
  have hlk := B.notSynchronized
  have hx := B.exec
  have hb := B.bytes
  exact body p e s m av.toArray below meth c _ (va_A w sz) ⟨hx, hb, hml, by rw [← hcls]; exact findClass_of_methodNamed B.named, atoms_spec (ws := ws) B.pre⟩ hK hP hD.self va_S.rf (fun q h => Or.inr (hsz ▸ h)) (fun hi => (name_of_methodNamed B.named B.method).1.trans hi) (fun u v pc ls H locs h hP hD hS hdg => W.lret hx hb hr (fun t ht _ => ⟨⟨v, u, rfl, h, by rw [ht]; exact hP, hD⟩, hS.F ht⟩) hS.2.2 hdg hlk) _ hl
theorem zt_metWv {S : Type} {l : Launch} {y : MethodName} {ws ws' : List Cond} {rm : Room} {cc : ByteArray} {maxL mc ms : Nat} {own : String} {D : va_G} {gi gc gr : ClassId} {w : va_W} {sz : Nat} {av : List Value} {post : S → Prop} {wf : S → va_W}
    (hy : plainName y.cls = true) (hcls : y.cls = own) (hw : ws = Cond.code y cc maxL none :: ws') (hn : (lg_sl av).length ≤ maxL)
    (body : ∀ (p : Program) (e : Env) (s : State) (m : MethodId) (args : Array Value) (below : List Frame) (meth : Method) (c : Code) (Q : State → Prop) (A : Nat → Prop), CallFix p m c cc maxL s args ws own → zK D gi gc gr s → va_P D vwCl w s.heap → va_D A w → va_S A s.heap s.heap [] → (∀ q : Nat, s.heap.size ≤ q → A q) → (y.name = "<init>" → meth.name = "<init>") →
      (∀ (u : S) (pc : Nat) (ls : Array Slot) (H : Heap) (locs : List Loc), post u → va_P D vwCl (wf u) H → va_D A (wf u) → va_S A s.heap H locs → decode cc pc = .ok (.return_, 1) → W p l e rm s m args below meth c H locs mc ms Q (F0 m pc ls [])) → ∀ ls : Array Slot, lv_has ls maxL (lv_args 0 av) →
      W p l e rm s m args below meth c s.heap [] 0 0 Q (F0 m 0 ls [])) : Met l y ws rm (zPw D gi gc gr w sz av) (va_Qv post (zB D (va_A w sz) wf) (va_A w sz)) mc ms (va_A w sz) := by
  refine Met.ofW (cc := cc) (maxL := maxL) (ret := none) hy hw ?_
  intro p e s m args below meth c s₁ B hml hv
  obtain ⟨rfl, hsz, hP, hK, hD⟩ := hv
  have hl := lv_entry av (n := maxL) hn
  rw [lg_entry_eq]
  have hr := B.returns
  have hlk := B.notSynchronized
  have hx := B.exec
  have hb := B.bytes
  exact body p e s m av.toArray below meth c _ (va_A w sz) ⟨hx, hb, hml, by rw [← hcls]; exact findClass_of_methodNamed B.named, atoms_spec (ws := ws) B.pre⟩ hK hP hD.self va_S.rf (fun q h => Or.inr (hsz ▸ h)) (fun hi => (name_of_methodNamed B.named B.method).1.trans hi) (fun u pc ls H locs h hP hD hS hdg => W.vret hx hb hr (fun t ht _ => ⟨⟨u, rfl, h, by rw [ht]; exact hP, hD⟩, hS.F ht⟩) hS.2.2 hdg hlk) _ hl
section ZC
variable {p : Program} {l : Launch} {e : Env} {R : Room} {s : State} {m : MethodId} {args : Array Value} {below : List Frame} {meth : Method} {c : Code} {H : Heap} {locs : List Loc} {cells slots : Nat} {Q : State → Prop}
variable {cc : ByteArray} {pc : Nat} {ls : Array Slot} {nL : Nat} {D : va_G} {gi gc gr : ClassId} {wc : va_W}
variable {y : MethodName} {bytes : ByteArray} {maxL mc ms n index : Nat} {ret : Option FieldType} {ws : List Cond} {rm : Room} {Ts : List Cond} {own C : String} {b : Addr} {st0 : List Value}
theorem zt_preV (hK : zK D gi gc gr s) (hP : va_P D vwCl wc H) (As : List Value) {ci : Nat} {fs : List Value} (q0 : Nat) (he : wc[q0]? = some (b, .inr (ci, fs))) {T : u_T} {N : Nat} (hc : vwCl[ci]? = some (C, T, N)) : PreV s H C b (zPr D gi gc gr wc (.ref b :: As)) As :=
  ⟨zPr.blind, va_recv hK.1 hP hc he, fun U hU hW => ⟨rfl, by rw [hU]; exact hP, hK.warm hW⟩⟩
theorem zt_preS (hK : zK D gi gc gr s) (hP : va_P D vwCl wc H) (As : List Value) : PreS s H (zPr D gi gc gr wc As) As :=
  ⟨zPr.blind, fun U hU hW => ⟨rfl, by rw [hU]; exact hP, hK.warm hW⟩⟩
/-- a call of a method that only reads: an int -/
theorem zt_callV (S : CallFix p m c cc nL s args Ts own) {As rest : List Value} {post : Int32 → Prop} (hM : Met l y ws rm (zPr D gi gc gr wc (.ref b :: As)) (vp_Si post) 0 0 (fun _ => False)) (cw : CallW R s args own C index y bytes maxL ret ws rm 0 0 n) (hp : PreV s H C b (zPr D gi gc gr wc (.ref b :: As)) As)
    (hn : As.length = n) (hsize : ls.size = nL) (hstack : st0 = As.reverse ++ .ref b :: rest) (hW : (rest.map fun v => v.category).sum ≤ 8) (hdg : decode cc pc = .ok (.invokevirtual index, 3)) (hf : cells ≤ R.cells ∧ slots ≤ R.slots)
    (kk : ∀ r : Int32, post r → W p l e R s m args below meth c H locs cells slots Q (F0 m (pc + 3) ls (.int r :: rest))) : W p l e R s m args below meth c H locs cells slots Q (F0 m pc ls st0) :=
  vp_callSi ((va_runV S hM cw hp rfl hn hsize hstack (lv_room hW) hdg hf).run) kk
theorem zt_callS (S : CallFix p m c cc nL s args Ts own) {As rest : List Value} {post : Int32 → Prop} (hM : Met l y ws rm (zPr D gi gc gr wc As) (vp_Si post) 0 0 (fun _ => False)) (cw : CallB R s args own index y bytes maxL ret ws rm 0 0 n ∧ (Cond.static y).before args s = true) (hp : PreS s H (zPr D gi gc gr wc As) As)
    (hn : As.length = n) (hsize : ls.size = nL) (hstack : st0 = As.reverse ++ rest) (hW : (rest.map fun v => v.category).sum ≤ 8) (hdg : decode cc pc = .ok (.invokestatic index, 3)) (hf : cells ≤ R.cells ∧ slots ≤ R.slots)
    (kk : ∀ r : Int32, post r → W p l e R s m args below meth c H locs cells slots Q (F0 m (pc + 3) ls (.int r :: rest))) : W p l e R s m args below meth c H locs cells slots Q (F0 m pc ls st0) :=
  vp_callSi ((va_runS S hM cw hp rfl hn hsize hstack (lv_room hW) hdg hf).run) kk
/-- a call of a method that only reads: a long -/
theorem zt_callVl (S : CallFix p m c cc nL s args Ts own) {As rest : List Value} {post : Int64 → Prop} (hM : Met l y ws rm (zPr D gi gc gr wc (.ref b :: As)) (vp_Sl post) 0 0 (fun _ => False)) (cw : CallW R s args own C index y bytes maxL ret ws rm 0 0 n) (hp : PreV s H C b (zPr D gi gc gr wc (.ref b :: As)) As)
    (hn : As.length = n) (hsize : ls.size = nL) (hstack : st0 = As.reverse ++ .ref b :: rest) (hW : (rest.map fun v => v.category).sum ≤ 8) (hdg : decode cc pc = .ok (.invokevirtual index, 3)) (hf : cells ≤ R.cells ∧ slots ≤ R.slots)
    (kk : ∀ r : Int64, post r → W p l e R s m args below meth c H locs cells slots Q (F0 m (pc + 3) ls (.long r :: rest))) : W p l e R s m args below meth c H locs cells slots Q (F0 m pc ls st0) :=
  vp_callSl ((va_runV S hM cw hp rfl hn hsize hstack (lv_room hW) hdg hf).run) kk
/-- .. nothing -/
theorem zt_callVv (S : CallFix p m c cc nL s args Ts own) {As rest : List Value} {post : Unit → Prop} (hM : Met l y ws rm (zPr D gi gc gr wc (.ref b :: As)) (va_Sv post) 0 0 (fun _ => False)) (cw : CallW R s args own C index y bytes maxL ret ws rm 0 0 n) (hp : PreV s H C b (zPr D gi gc gr wc (.ref b :: As)) As)
    (hn : As.length = n) (hsize : ls.size = nL) (hstack : st0 = As.reverse ++ .ref b :: rest) (hW : (rest.map fun v => v.category).sum ≤ 8) (hdg : decode cc pc = .ok (.invokevirtual index, 3)) (hf : cells ≤ R.cells ∧ slots ≤ R.slots)
    (kk : post () → W p l e R s m args below meth c H locs cells slots Q (F0 m (pc + 3) ls rest)) : W p l e R s m args below meth c H locs cells slots Q (F0 m pc ls st0) :=
  va_csv ((va_runV S hM cw hp rfl hn hsize hstack (lv_room hW) hdg hf).run) kk
/-- the start of a call of a method that writes -/
theorem zt_preVw {A0 : Nat → Prop} (hK : zK D gi gc gr s) (hP : va_P D vwCl wc H) (hD : va_D A0 wc) (As : List Value) {ci : Nat} {fs : List Value} (q0 : Nat) (he : wc[q0]? = some (b, .inr (ci, fs))) {T : u_T} {N : Nat} (hc : vwCl[ci]? = some (C, T, N)) : PreV s H C b (zPw D gi gc gr wc H.size (.ref b :: As)) As :=
  ⟨zPw.blind, va_recv hK.1 hP hc he, fun U hU hW => ⟨rfl, by rw [hU], by rw [hU]; exact hP, hK.warm hW, hD.weaken (fun _ _ _ _ => trivial)⟩⟩
theorem zt_preSw {A0 : Nat → Prop} (hK : zK D gi gc gr s) (hP : va_P D vwCl wc H) (hD : va_D A0 wc) (As : List Value) : PreS s H (zPw D gi gc gr wc H.size As) As :=
  ⟨zPw.blind, fun U hU hW => ⟨rfl, by rw [hU], by rw [hU]; exact hP, hK.warm hW, hD.weaken (fun _ _ _ _ => trivial)⟩⟩
/-- behind a call of a method that writes: the world as it was, its cells (at the places isC) as they have become -/
theorem zt_back {A0 : Nat → Prop} {w wr w1 wn : va_W} {H1 : Heap} (hP : va_P D vwCl w H) (hD : va_D A0 w) (isC isR pm : List Nat) (hC : isC.map (fun i => w[i]?) = wc.map some) (hR : isR.map (fun i => w[i]?) = wr.map some) (hn : va_nd isR = true) (hdis : ∀ i ∈ isR, i ∉ isC) (hk : ∀ q : Nat, q < H.size → ¬ va_A wc H.size q → H1[q]? = H[q]?) (hF : ∀ q, va_A wc H.size q → A0 q) (hP1 : va_P D vwCl w1 H1) (hD1 : va_D (va_A wc H.size) w1)
    (hp1 : pm.map (fun i => (wr ++ w1)[i]?) = wn.map some) (hp2 : va_nd pm = true) : va_P D vwCl wn H1 ∧ va_D A0 wn := by
  obtain ⟨a, b⟩ := va_join hP hD isC isR hC hR hn hdis hk hF hP1 hD1
  refine ⟨a.sub pm ?_, b.sub pm hp2 hp1⟩
  have h : (pm.map (fun i => (wr ++ w1)[i]?)).filterMap id = (wn.map some).filterMap id := by rw [hp1]
  rw [List.filterMap_map, List.filterMap_map] at h
  simpa using h
end ZC
theorem iI_ofN (n : Nat) : Int32.ofNat n = iI (n : Int) := Int32.ofInt_eq_ofNat.symm
theorem iI_min {x y : Int} (h : (-2147483648 ≤ x ∧ x < 2147483648) ∧ (-2147483648 ≤ y ∧ y < 2147483648)) : (if iI y < iI x then iI y else iI x) = iI (if y < x then y else x) := by
  by_cases q : y < x
  · rw [if_pos q, if_pos ((iI_lt h.2 h.1).mpr q)]
  · rw [if_neg q, if_neg (fun z => q ((iI_lt h.2 h.1).mp z))]
theorem iI_max {x y : Int} (h : (-2147483648 ≤ x ∧ x < 2147483648) ∧ (-2147483648 ≤ y ∧ y < 2147483648)) : (if iI x < iI y then iI y else iI x) = iI (if x < y then y else x) := by
  by_cases q : x < y
  · rw [if_pos q, if_pos ((iI_lt h.1 h.2).mpr q)]
  · rw [if_neg q, if_neg (fun z => q ((iI_lt h.1 h.2).mp z))]
theorem iI_abs {x : Int} (h : -2147483648 ≤ x ∧ x < 2147483648) : (if 0 ≤ iI x then iI x else 0 - iI x) = iI (if 0 ≤ x then x else - x) := by
  have e : (0 ≤ iI x) ↔ 0 ≤ x := by rw [← iI_0, iI_le (by omega) h]
  by_cases q : 0 ≤ x
  · rw [if_pos q, if_pos (e.mpr q)]
  · rw [if_neg q, if_neg (fun z => q (e.mp z)), ← iI_0, iI_sub]
    congr 1
    omega
section ZM
variable {p : Program} {l : Launch} {e : Env} {R : Room} {s : State} {m : MethodId} {args : Array Value} {below : List Frame} {meth : Method} {c : Code} {H : Heap} {locs : List Loc} {cells slots : Nat} {Q : State → Prop}
variable {cc : ByteArray} {pc : Nat} {ls : Array Slot} {rest : List Value}
theorem zt_mmax (hx : p.tables.exec = Jvm.exec) (hb : c.code = cc) (hml : c.maxLocals = ls.size) {own : String} {index : Nat} (hown : s.vm.findClass own = some m.cls) (hlink : (Cond.methodLink own index Lib.Math.max.name).before args s = true) (hstat : (Cond.static Lib.Math.max.name).before args s = true) (hini : (Cond.initialized "java/lang/Math").before args s = true) (hcode : (Cond.code Lib.Math.max.name Lib.Math.max.code 2 (some .int)).before args s = true)
    (hframes : 1 ≤ R.frames) (hlocals : (rest.map fun v => v.category).sum + 13 ≤ R.locals) (hc : cells ≤ R.cells) (hs : slots ≤ R.slots) {x y : Int} (h : (-2147483648 ≤ x ∧ x < 2147483648) ∧ (-2147483648 ≤ y ∧ y < 2147483648)) (hdg : decode cc pc = .ok (.invokestatic index, 3))
    (kk : ∀ z : Int, z = (if x < y then y else x) → W p l e R s m args below meth c H locs cells slots Q (F0 m (pc + 3) ls (.int (iI z) :: rest))) : W p l e R s m args below meth c H locs cells slots Q (F0 m pc ls (.int (iI y) :: .int (iI x) :: rest)) :=
  va_mmax hx hb hml hown hlink hstat hini hcode hframes hlocals hc hs hdg (by rw [iI_max h]; exact kk _ rfl)
theorem zt_mmin (hx : p.tables.exec = Jvm.exec) (hb : c.code = cc) (hml : c.maxLocals = ls.size) {own : String} {index : Nat} (hown : s.vm.findClass own = some m.cls) (hlink : (Cond.methodLink own index Lib.Math.min.name).before args s = true) (hstat : (Cond.static Lib.Math.min.name).before args s = true) (hini : (Cond.initialized "java/lang/Math").before args s = true) (hcode : (Cond.code Lib.Math.min.name Lib.Math.min.code 2 (some .int)).before args s = true)
    (hframes : 1 ≤ R.frames) (hlocals : (rest.map fun v => v.category).sum + 13 ≤ R.locals) (hc : cells ≤ R.cells) (hs : slots ≤ R.slots) {x y : Int} (h : (-2147483648 ≤ x ∧ x < 2147483648) ∧ (-2147483648 ≤ y ∧ y < 2147483648)) (hdg : decode cc pc = .ok (.invokestatic index, 3))
    (kk : ∀ z : Int, z = (if y < x then y else x) → W p l e R s m args below meth c H locs cells slots Q (F0 m (pc + 3) ls (.int (iI z) :: rest))) : W p l e R s m args below meth c H locs cells slots Q (F0 m pc ls (.int (iI y) :: .int (iI x) :: rest)) :=
  va_mmin hx hb hml hown hlink hstat hini hcode hframes hlocals hc hs hdg (by rw [iI_min h]; exact kk _ rfl)
theorem zt_mabs (hx : p.tables.exec = Jvm.exec) (hb : c.code = cc) (hml : c.maxLocals = ls.size) {own : String} {index : Nat} (hown : s.vm.findClass own = some m.cls) (hlink : (Cond.methodLink own index Lib.Math.abs.name).before args s = true) (hstat : (Cond.static Lib.Math.abs.name).before args s = true) (hini : (Cond.initialized "java/lang/Math").before args s = true) (hcode : (Cond.code Lib.Math.abs.name Lib.Math.abs.code 1 (some .int)).before args s = true)
    (hframes : 1 ≤ R.frames) (hlocals : (rest.map fun v => v.category).sum + 13 ≤ R.locals) (hc : cells ≤ R.cells) (hs : slots ≤ R.slots) {x : Int} (h : -2147483648 ≤ x ∧ x < 2147483648) (hdg : decode cc pc = .ok (.invokestatic index, 3))
    (kk : ∀ z : Int, z = (if 0 ≤ x then x else - x) → W p l e R s m args below meth c H locs cells slots Q (F0 m (pc + 3) ls (.int (iI z) :: rest))) : W p l e R s m args below meth c H locs cells slots Q (F0 m pc ls (.int (iI x) :: rest)) :=
  va_mabs hx hb hml hown hlink hstat hini hcode hframes hlocals hc hs hdg (by rw [iI_abs h]; exact kk _ rfl)
end ZM
theorem zK.n122 {D : va_G} {gi gc gr : ClassId} {U : State} (h : zK D gi gc gr U) (args : Array Value) : (Cond.fieldLinkNest RX6 122 "Threetwo$Buffer" "rateNow" "I" "Threetwo").before args U = true := va_Nw.use rfl h.2.2.1
theorem zK.n127 {D : va_G} {gi gc gr : ClassId} {U : State} (h : zK D gi gc gr U) (args : Array Value) : (Cond.fieldLinkNest RX6 127 "Threetwo$Buffer" "sizes" "LThreetwo$Row;" "Threetwo").before args U = true := va_Nw.use rfl h.2.2.2.1
theorem zK.n135 {D : va_G} {gi gc gr : ClassId} {U : State} (h : zK D gi gc gr U) (args : Array Value) : (Cond.fieldLinkNest RX6 135 "Threetwo$Rhythm" "places" "[I" "Threetwo").before args U = true := va_Nw.use rfl h.2.2.2.2.1
theorem zK.n139 {D : va_G} {gi gc gr : ClassId} {U : State} (h : zK D gi gc gr U) (args : Array Value) : (Cond.fieldLinkNest RX6 139 "Threetwo$Rhythm" "frameOf" "[I" "Threetwo").before args U = true := va_Nw.use rfl h.2.2.2.2.2.1
theorem zK.n148 {D : va_G} {gi gc gr : ClassId} {U : State} (h : zK D gi gc gr U) (args : Array Value) : (Cond.fieldLinkNest RX6 148 "Threetwo$Rhythm" "frames" "I" "Threetwo").before args U = true := va_Nw.use rfl h.2.2.2.2.2.2.1
theorem zK.n156 {D : va_G} {gi gc gr : ClassId} {U : State} (h : zK D gi gc gr U) (args : Array Value) : (Cond.fieldLinkNest RX6 156 "Threetwo$Rhythm" "frameLooks" "[I" "Threetwo").before args U = true := va_Nw.use rfl h.2.2.2.2.2.2.2.1
theorem zK.n159 {D : va_G} {gi gc gr : ClassId} {U : State} (h : zK D gi gc gr U) (args : Array Value) : (Cond.fieldLinkNest RX6 159 "Threetwo$Rhythm" "firsts" "[I" "Threetwo").before args U = true := va_Nw.use rfl h.2.2.2.2.2.2.2.2.1
theorem zK.n162 {D : va_G} {gi gc gr : ClassId} {U : State} (h : zK D gi gc gr U) (args : Array Value) : (Cond.fieldLinkNest RX6 162 "Threetwo$Rhythm" "lengths" "[I" "Threetwo").before args U = true := va_Nw.use rfl h.2.2.2.2.2.2.2.2.2.1
theorem zK.n184 {D : va_G} {gi gc gr : ClassId} {U : State} (h : zK D gi gc gr U) (args : Array Value) : (Cond.fieldLinkNest RX6 184 "Threetwo$Strip" "notes" "I" "Threetwo").before args U = true := va_Nw.use rfl h.2.2.2.2.2.2.2.2.2.2.1
theorem zK.n187 {D : va_G} {gi gc gr : ClassId} {U : State} (h : zK D gi gc gr U) (args : Array Value) : (Cond.fieldLinkNest RX6 187 "Threetwo$Rhythm" "cost" "I" "Threetwo").before args U = true := va_Nw.use rfl h.2.2.2.2.2.2.2.2.2.2.2.1
theorem zK.n190 {D : va_G} {gi gc gr : ClassId} {U : State} (h : zK D gi gc gr U) (args : Array Value) : (Cond.fieldLinkNest RX6 190 "Threetwo$Prints" "many" "I" "Threetwo").before args U = true := va_Nw.use rfl h.2.2.2.2.2.2.2.2.2.2.2.2.1
theorem zK.n79 {D : va_G} {gi gc gr : ClassId} {U : State} (h : zK D gi gc gr U) (args : Array Value) : (Cond.fieldLinkNest RX6 79 "Threetwo$Strip" "looks" "LThreetwo$Row;" "Threetwo").before args U = true := va_Nw.use rfl h.2.2.2.2.2.2.2.2.2.2.2.2.2
end
section
/-! ===== labels of pictures: what the two calls answer, and that each goes back ===== -/
def labF (q : Int) : Int := if q % 17982 < 1800 then q / 17982 * 10 * 10000 + q % 17982 / 30 * 100 + q % 17982 % 30 else (q / 17982 * 10 + (1 + (q % 17982 - 1800) / 1798)) * 10000 + (2 + (q % 17982 - 1800) % 1798) / 30 * 100 + (2 + (q % 17982 - 1800) % 1798) % 30
def picF (q : Int) : Int := if q < 0 then -1 else if q / 10000 > 59 ∨ q / 100 % 100 > 59 ∨ q % 100 ≥ 30 ∨ (q / 10000 % 10 ≠ 0 ∧ q / 100 % 100 = 0 ∧ q % 100 < 2) then -1 else q / 10000 * 1800 + q / 100 % 100 * 30 + q % 100 - 2 * (q / 10000 - q / 10000 / 10)
theorem picF_of {a b d : Int} (ha : 0 ≤ a ∧ a ≤ 59) (hb : 0 ≤ b ∧ b ≤ 59) (hd : 0 ≤ d ∧ d < 30) (h : a % 10 = 0 ∨ ¬ b = 0 ∨ 2 ≤ d) : picF (a * 10000 + b * 100 + d) = a * 1800 + b * 30 + d - 2 * (a - a / 10) := by
  have e1 : (a * 10000 + b * 100 + d) / 10000 = a := by omega
  have e2 : (a * 10000 + b * 100 + d) / 100 % 100 = b := by omega
  have e3 : (a * 10000 + b * 100 + d) % 100 = d := by omega
  unfold picF
  rw [if_neg (by omega), e1, e2, e3, if_neg (by omega)]
theorem picF_lab {q : Int} (h : 0 ≤ q ∧ q < 107892) : picF (labF q) = q := by
  obtain ⟨a, ea⟩ : ∃ a, a = q / 17982 := ⟨_, rfl⟩
  obtain ⟨b, eb⟩ : ∃ b, b = q % 17982 := ⟨_, rfl⟩
  have hq : q = 17982 * a + b := by omega
  unfold labF
  rw [← ea, ← eb]
  by_cases hc : b < 1800
  · rw [if_pos hc, picF_of (by omega) (by omega) (by omega) (by omega)]
    omega
  · rw [if_neg hc]
    obtain ⟨x, ex⟩ : ∃ x, x = (b - 1800) / 1798 := ⟨_, rfl⟩
    obtain ⟨y, ey⟩ : ∃ y, y = (b - 1800) % 1798 := ⟨_, rfl⟩
    have hy : b - 1800 = 1798 * x + y := by omega
    rw [← ex, ← ey, picF_of (by omega) (by omega) (by omega) (by omega)]
    omega
theorem labF_bd {q : Int} (h : 0 ≤ q ∧ q < 107892) : 0 ≤ labF q ∧ labF q < 1000000 := by
  unfold labF
  split <;> omega

set_option maxHeartbeats 4000000 in
set_option maxRecDepth 100000 in
/-- the label of a picture -/
theorem c_X1_labelOf (l : Launch) (D : va_G) (gi gc gr : ClassId) (q : Int) (h0 : 0 ≤ q ∧ q < 107892) : Met l yX1_labelOf wsX1_labelOf { frames := 0, cells := 0, slots := 0, locals := 0 } (zPr D gi gc gr [] [.int (iI q)]) (vp_Si (fun v => v = iI (labF q))) 0 0 (fun _ => False) := by
  refine zt_metRi (own := RX1) (cc := cX1_labelOf) (maxL := 4) (by decide) rfl rfl (Nat.le_of_ble_eq_true rfl) ?_
  intro p e s m args below meth c Q C hK hP hQ ls hl
  have hx := C.1
  have hb := C.2.1
  have hml := C.2.2.1
  have hown := C.2.2.2.1
  have hts := C.2.2.2.2
  have hl : lv_has ls 4 [(0, .int (iI q))] := hl
  refine lv_iload_n hx hb dX1_labelOf_0 rfl (lv_at hl 0 rfl) ?_
  refine lv_sipush (v := iI (17982)) hx hb dX1_labelOf_1 (by decide +kernel) ?_
  refine zt_idiv hx hb dX1_labelOf_4 (by omega) ?_
  refine lv_bipush (v := iI (10)) hx hb dX1_labelOf_5 (by decide +kernel) ?_
  refine zt_imul hx hb dX1_labelOf_7 ?_
  refine lv_istore_n (lv' := [(1, .int (iI ((q / 17982) * 10))), (0, .int (iI q))]) hx hb dX1_labelOf_8 rfl hl (by decide) rfl (fun ls hl => ?_)
  refine lv_iload_n hx hb dX1_labelOf_9 rfl (lv_at hl 1 rfl) ?_
  refine lv_sipush (v := iI (17982)) hx hb dX1_labelOf_10 (by decide +kernel) ?_
  refine zt_irem hx hb dX1_labelOf_13 (by omega) ?_
  refine lv_istore_n (lv' := [(2, .int (iI (q % 17982))), (1, .int (iI ((q / 17982) * 10))), (0, .int (iI q))]) hx hb dX1_labelOf_14 rfl hl (by decide) rfl (fun ls hl => ?_)
  refine lv_iload_n hx hb dX1_labelOf_15 rfl (lv_at hl 0 rfl) ?_
  refine lv_sipush (v := iI (1800)) hx hb dX1_labelOf_16 (by decide +kernel) ?_
  refine zt_icmp_lt (tgt := 46) hx hb dX1_labelOf_19 (by decide) (by omega) (fun c_1 => ?_) (fun c_1 => ?_)
  · refine lv_iload_n hx hb dX1_labelOf_46 rfl (lv_at hl 1 rfl) ?_
    refine lv_sipush (v := iI (10000)) hx hb dX1_labelOf_47 (by decide +kernel) ?_
    refine zt_imul hx hb dX1_labelOf_50 ?_
    refine lv_iload_n hx hb dX1_labelOf_51 rfl (lv_at hl 0 rfl) ?_
    refine lv_bipush (v := iI (30)) hx hb dX1_labelOf_52 (by decide +kernel) ?_
    refine zt_idiv hx hb dX1_labelOf_54 (by omega) ?_
    refine lv_bipush (v := iI (100)) hx hb dX1_labelOf_55 (by decide +kernel) ?_
    refine zt_imul hx hb dX1_labelOf_57 ?_
    refine zt_iadd hx hb dX1_labelOf_58 ?_
    refine lv_iload_n hx hb dX1_labelOf_59 rfl (lv_at hl 0 rfl) ?_
    refine lv_bipush (v := iI (30)) hx hb dX1_labelOf_60 (by decide +kernel) ?_
    refine zt_irem hx hb dX1_labelOf_62 (by omega) ?_
    refine zt_iadd hx hb dX1_labelOf_63 ?_
    exact hQ _ _ _ (congrArg iI (by unfold labF; split <;> omega)) dX1_labelOf_64
  · refine lv_iload_n hx hb dX1_labelOf_22 rfl (lv_at hl 0 rfl) ?_
    refine lv_sipush (v := iI (1800)) hx hb dX1_labelOf_23 (by decide +kernel) ?_
    refine zt_isub hx hb dX1_labelOf_26 ?_
    refine lv_istore_n (lv' := [(3, .int (iI ((q % 17982) - 1800))), (2, .int (iI (q % 17982))), (1, .int (iI ((q / 17982) * 10))), (0, .int (iI q))]) hx hb dX1_labelOf_27 rfl hl (by decide) rfl (fun ls hl => ?_)
    refine lv_iload_n hx hb dX1_labelOf_28 rfl (lv_at hl 2 rfl) ?_
    refine lv_iconst (v := iI (1)) hx hb dX1_labelOf_29 (by decide +kernel) ?_
    refine lv_iload_n hx hb dX1_labelOf_30 rfl (lv_at hl 0 rfl) ?_
    refine lv_sipush (v := iI (1798)) hx hb dX1_labelOf_31 (by decide +kernel) ?_
    refine zt_idiv hx hb dX1_labelOf_34 (by omega) ?_
    refine zt_iadd hx hb dX1_labelOf_35 ?_
    refine zt_iadd hx hb dX1_labelOf_36 ?_
    refine lv_istore_n (lv' := [(1, .int (iI (((q / 17982) * 10) + (1 + (((q % 17982) - 1800) / 1798))))), (3, .int (iI ((q % 17982) - 1800))), (2, .int (iI (q % 17982))), (0, .int (iI q))]) hx hb dX1_labelOf_37 rfl hl (by decide) rfl (fun ls hl => ?_)
    refine lv_iconst (v := iI (2)) hx hb dX1_labelOf_38 (by decide +kernel) ?_
    refine lv_iload_n hx hb dX1_labelOf_39 rfl (lv_at hl 1 rfl) ?_
    refine lv_sipush (v := iI (1798)) hx hb dX1_labelOf_40 (by decide +kernel) ?_
    refine zt_irem hx hb dX1_labelOf_43 (by omega) ?_
    refine zt_iadd hx hb dX1_labelOf_44 ?_
    refine lv_istore_n (lv' := [(2, .int (iI (2 + (((q % 17982) - 1800) % 1798)))), (1, .int (iI (((q / 17982) * 10) + (1 + (((q % 17982) - 1800) / 1798))))), (3, .int (iI ((q % 17982) - 1800))), (0, .int (iI q))]) hx hb dX1_labelOf_45 rfl hl (by decide) rfl (fun ls hl => ?_)
    refine lv_iload_n hx hb dX1_labelOf_46 rfl (lv_at hl 1 rfl) ?_
    refine lv_sipush (v := iI (10000)) hx hb dX1_labelOf_47 (by decide +kernel) ?_
    refine zt_imul hx hb dX1_labelOf_50 ?_
    refine lv_iload_n hx hb dX1_labelOf_51 rfl (lv_at hl 0 rfl) ?_
    refine lv_bipush (v := iI (30)) hx hb dX1_labelOf_52 (by decide +kernel) ?_
    refine zt_idiv hx hb dX1_labelOf_54 (by omega) ?_
    refine lv_bipush (v := iI (100)) hx hb dX1_labelOf_55 (by decide +kernel) ?_
    refine zt_imul hx hb dX1_labelOf_57 ?_
    refine zt_iadd hx hb dX1_labelOf_58 ?_
    refine lv_iload_n hx hb dX1_labelOf_59 rfl (lv_at hl 0 rfl) ?_
    refine lv_bipush (v := iI (30)) hx hb dX1_labelOf_60 (by decide +kernel) ?_
    refine zt_irem hx hb dX1_labelOf_62 (by omega) ?_
    refine zt_iadd hx hb dX1_labelOf_63 ?_
    exact hQ _ _ _ (congrArg iI (by unfold labF; split <;> omega)) dX1_labelOf_64
set_option maxHeartbeats 4000000 in
set_option maxRecDepth 100000 in
theorem c_X1_isLeftOut (l : Launch) (D : va_G) (gi gc gr : ClassId) (x1 : Int) (x2 : Int) (x3 : Int) (h0 : (0 ≤ x1 ∧ x1 < 1000000) ∧ (0 ≤ x2 ∧ x2 < 1000000) ∧ (0 ≤ x3 ∧ x3 < 1000000)) : Met l yX1_isLeftOut wsX1_isLeftOut { frames := 0, cells := 0, slots := 0, locals := 0 } (zPr D gi gc gr [] [.int (iI x1), .int (iI x2), .int (iI x3)]) (vp_Si (fun v => ∃ z : Int, v = iI z ∧ ((z = 1 ∧ x1 % 10 ≠ 0 ∧ x2 = 0 ∧ x3 < 2) ∨ (z = 0 ∧ (x1 % 10 = 0 ∨ ¬ x2 = 0 ∨ 2 ≤ x3))))) 0 0 (fun _ => False) := by
  refine zt_metRz (own := RX1) (cc := cX1_isLeftOut) (maxL := 3) (by decide) rfl rfl (Nat.le_of_ble_eq_true rfl) ?_
  intro p e s m args below meth c Q C hK hP hQ ls hl
  have hx := C.1
  have hb := C.2.1
  have hml := C.2.2.1
  have hown := C.2.2.2.1
  have hts := C.2.2.2.2
  have hl : lv_has ls 3 [(0, .int (iI x1)), (1, .int (iI x2)), (2, .int (iI x3))] := hl
  refine lv_iload_n hx hb dX1_isLeftOut_0 rfl (lv_at hl 0 rfl) ?_
  refine lv_bipush (v := iI (10)) hx hb dX1_isLeftOut_1 (by decide +kernel) ?_
  refine zt_irem hx hb dX1_isLeftOut_3 (by omega) ?_
  refine zt_if_eq (tgt := 20) hx hb dX1_isLeftOut_4 (by decide) (by omega) (fun c_1 => ?_) (fun c_1 => ?_)
  · refine lv_iconst (v := iI (0)) hx hb dX1_isLeftOut_20 (by decide +kernel) ?_
    exact hQ _ _ _ (by first | rfl | decide +kernel) (⟨_, rfl, by omega⟩) dX1_isLeftOut_21
  · refine lv_iload_n hx hb dX1_isLeftOut_7 rfl (lv_at hl 1 rfl) ?_
    refine zt_if_ne (tgt := 20) hx hb dX1_isLeftOut_8 (by decide) (by omega) (fun c_2 => ?_) (fun c_2 => ?_)
    · refine lv_iconst (v := iI (0)) hx hb dX1_isLeftOut_20 (by decide +kernel) ?_
      exact hQ _ _ _ (by first | rfl | decide +kernel) (⟨_, rfl, by omega⟩) dX1_isLeftOut_21
    · refine lv_iload_n hx hb dX1_isLeftOut_11 rfl (lv_at hl 2 rfl) ?_
      refine lv_iconst (v := iI (2)) hx hb dX1_isLeftOut_12 (by decide +kernel) ?_
      refine zt_icmp_ge (tgt := 20) hx hb dX1_isLeftOut_13 (by decide) (by omega) (fun c_3 => ?_) (fun c_3 => ?_)
      · refine lv_iconst (v := iI (0)) hx hb dX1_isLeftOut_20 (by decide +kernel) ?_
        exact hQ _ _ _ (by first | rfl | decide +kernel) (⟨_, rfl, by omega⟩) dX1_isLeftOut_21
      · refine lv_iconst (v := iI (1)) hx hb dX1_isLeftOut_16 (by decide +kernel) ?_
        refine lv_goto (tgt := 21) hx hb dX1_isLeftOut_17 (by decide) ?_
        exact hQ _ _ _ (by first | rfl | decide +kernel) (⟨_, rfl, by omega⟩) dX1_isLeftOut_21
set_option maxHeartbeats 4000000 in
set_option maxRecDepth 100000 in
/-- the picture of a label -/
theorem c_X1_pictureOf (l : Launch) (D : va_G) (gi gc gr : ClassId) (q : Int) (h0 : -2147483648 ≤ q ∧ q < 2147483648) : Met l yX1_pictureOf wsX1_pictureOf { frames := 1, cells := 0, slots := 0, locals := 22 } (zPr D gi gc gr [] [.int (iI q)]) (vp_Si (fun v => v = iI (picF q))) 0 0 (fun _ => False) := by
  refine zt_metRi (own := RX1) (cc := cX1_pictureOf) (maxL := 5) (by decide) rfl rfl (Nat.le_of_ble_eq_true rfl) ?_
  intro p e s m args below meth c Q C hK hP hQ ls hl
  have hx := C.1
  have hb := C.2.1
  have hml := C.2.2.1
  have hown := C.2.2.2.1
  have hts := C.2.2.2.2
  have hl : lv_has ls 5 [(0, .int (iI q))] := hl
  refine lv_iload_n hx hb dX1_pictureOf_0 rfl (lv_at hl 0 rfl) ?_
  refine zt_if_ge (tgt := 6) hx hb dX1_pictureOf_1 (by decide) (by omega) (fun c_1 => ?_) (fun c_1 => ?_)
  · refine lv_iload_n hx hb dX1_pictureOf_6 rfl (lv_at hl 0 rfl) ?_
    refine lv_sipush (v := iI (10000)) hx hb dX1_pictureOf_7 (by decide +kernel) ?_
    refine zt_idiv hx hb dX1_pictureOf_10 (by omega) ?_
    refine lv_istore_n (lv' := [(1, .int (iI (q / 10000))), (0, .int (iI q))]) hx hb dX1_pictureOf_11 rfl hl (by decide) rfl (fun ls hl => ?_)
    refine lv_iload_n hx hb dX1_pictureOf_12 rfl (lv_at hl 1 rfl) ?_
    refine lv_bipush (v := iI (100)) hx hb dX1_pictureOf_13 (by decide +kernel) ?_
    refine zt_idiv hx hb dX1_pictureOf_15 (by omega) ?_
    refine lv_bipush (v := iI (100)) hx hb dX1_pictureOf_16 (by decide +kernel) ?_
    refine zt_irem hx hb dX1_pictureOf_18 (by omega) ?_
    refine lv_istore_n (lv' := [(2, .int (iI ((q / 100) % 100))), (1, .int (iI (q / 10000))), (0, .int (iI q))]) hx hb dX1_pictureOf_19 rfl hl (by decide) rfl (fun ls hl => ?_)
    refine lv_iload_n hx hb dX1_pictureOf_20 rfl (lv_at hl 2 rfl) ?_
    refine lv_bipush (v := iI (100)) hx hb dX1_pictureOf_21 (by decide +kernel) ?_
    refine zt_irem hx hb dX1_pictureOf_23 (by omega) ?_
    refine lv_istore_n (lv' := [(3, .int (iI (q % 100))), (2, .int (iI ((q / 100) % 100))), (1, .int (iI (q / 10000))), (0, .int (iI q))]) hx hb dX1_pictureOf_24 rfl hl (by decide) rfl (fun ls hl => ?_)
    refine lv_iload_n hx hb dX1_pictureOf_25 rfl (lv_at hl 2 rfl) ?_
    refine lv_bipush (v := iI (59)) hx hb dX1_pictureOf_26 (by decide +kernel) ?_
    refine zt_icmp_gt (tgt := 52) hx hb dX1_pictureOf_28 (by decide) (by omega) (fun c_2 => ?_) (fun c_2 => ?_)
    · refine lv_iconst (v := iI (-1)) hx hb dX1_pictureOf_52 (by decide +kernel) ?_
      exact hQ _ _ _ (congrArg iI (by unfold picF; split <;> (try split) <;> omega)) dX1_pictureOf_53
    · refine lv_iload_n hx hb dX1_pictureOf_31 rfl (lv_at hl 1 rfl) ?_
      refine lv_bipush (v := iI (59)) hx hb dX1_pictureOf_32 (by decide +kernel) ?_
      refine zt_icmp_gt (tgt := 52) hx hb dX1_pictureOf_34 (by decide) (by omega) (fun c_3 => ?_) (fun c_3 => ?_)
      · refine lv_iconst (v := iI (-1)) hx hb dX1_pictureOf_52 (by decide +kernel) ?_
        exact hQ _ _ _ (congrArg iI (by unfold picF; split <;> (try split) <;> omega)) dX1_pictureOf_53
      · refine lv_iload_n hx hb dX1_pictureOf_37 rfl (lv_at hl 0 rfl) ?_
        refine lv_bipush (v := iI (30)) hx hb dX1_pictureOf_38 (by decide +kernel) ?_
        refine zt_icmp_ge (tgt := 52) hx hb dX1_pictureOf_40 (by decide) (by omega) (fun c_4 => ?_) (fun c_4 => ?_)
        · refine lv_iconst (v := iI (-1)) hx hb dX1_pictureOf_52 (by decide +kernel) ?_
          exact hQ _ _ _ (congrArg iI (by unfold picF; split <;> (try split) <;> omega)) dX1_pictureOf_53
        · refine lv_iload_n hx hb dX1_pictureOf_43 rfl (lv_at hl 2 rfl) ?_
          refine lv_iload_n hx hb dX1_pictureOf_44 rfl (lv_at hl 1 rfl) ?_
          refine lv_iload_n hx hb dX1_pictureOf_45 rfl (lv_at hl 0 rfl) ?_
          refine zt_callS C (As := [.int (iI (q / 10000)), .int (iI ((q / 100) % 100)), .int (iI (q % 100))]) (rest := []) (c_X1_isLeftOut l D gi gc gr (q / 10000) ((q / 100) % 100) (q % 100) (by first | omega | assumption)) (va_cwS 3 hts gX1_pictureOf_X1_isLeftOut rfl rfl rfl (by decide +kernel) ⟨Nat.le_of_ble_eq_true rfl, Nat.le_of_ble_eq_true rfl⟩) (zt_preS hK (hP.sub (ws' := []) [] rfl) [.int (iI (q / 10000)), .int (iI ((q / 100) % 100)), .int (iI (q % 100))]) rfl hl.1 rfl (Nat.le_of_ble_eq_true rfl) dX1_pictureOf_46 ⟨Nat.le_of_ble_eq_true rfl, Nat.le_of_ble_eq_true rfl⟩ (fun r_5 hr_5 => ?_)
          obtain ⟨z_6, rfl, hz_6⟩ := hr_5
          refine zt_if_eq (tgt := 54) hx hb dX1_pictureOf_49 (by decide) (by omega) (fun c_7 => ?_) (fun c_7 => ?_)
          · refine lv_iload_n hx hb dX1_pictureOf_54 rfl (lv_at hl 2 rfl) ?_
            refine lv_iload_n hx hb dX1_pictureOf_55 rfl (lv_at hl 2 rfl) ?_
            refine lv_bipush (v := iI (10)) hx hb dX1_pictureOf_56 (by decide +kernel) ?_
            refine zt_idiv hx hb dX1_pictureOf_58 (by omega) ?_
            refine zt_isub hx hb dX1_pictureOf_59 ?_
            refine lv_istore (lv' := [(4, .int (iI ((q / 10000) - ((q / 10000) / 10)))), (3, .int (iI (q % 100))), (2, .int (iI ((q / 100) % 100))), (1, .int (iI (q / 10000))), (0, .int (iI q))]) hx hb dX1_pictureOf_60 hl (by decide) rfl (fun ls hl => ?_)
            refine lv_iload_n hx hb dX1_pictureOf_62 rfl (lv_at hl 3 rfl) ?_
            refine lv_sipush (v := iI (1800)) hx hb dX1_pictureOf_63 (by decide +kernel) ?_
            refine zt_imul hx hb dX1_pictureOf_66 ?_
            refine lv_iload_n hx hb dX1_pictureOf_67 rfl (lv_at hl 2 rfl) ?_
            refine lv_bipush (v := iI (30)) hx hb dX1_pictureOf_68 (by decide +kernel) ?_
            refine zt_imul hx hb dX1_pictureOf_70 ?_
            refine zt_iadd hx hb dX1_pictureOf_71 ?_
            refine lv_iload_n hx hb dX1_pictureOf_72 rfl (lv_at hl 1 rfl) ?_
            refine zt_iadd hx hb dX1_pictureOf_73 ?_
            refine lv_iconst (v := iI (2)) hx hb dX1_pictureOf_74 (by decide +kernel) ?_
            refine lv_iload hx hb dX1_pictureOf_75 (lv_at hl 0 rfl) ?_
            refine zt_imul hx hb dX1_pictureOf_77 ?_
            refine zt_isub hx hb dX1_pictureOf_78 ?_
            exact hQ _ _ _ (congrArg iI (by unfold picF; split <;> (try split) <;> omega)) dX1_pictureOf_79
          · refine lv_iconst (v := iI (-1)) hx hb dX1_pictureOf_52 (by decide +kernel) ?_
            exact hQ _ _ _ (congrArg iI (by unfold picF; split <;> (try split) <;> omega)) dX1_pictureOf_53
  · refine lv_iconst (v := iI (-1)) hx hb dX1_pictureOf_4 (by decide +kernel) ?_
    exact hQ _ _ _ (congrArg iI (by unfold picF; split <;> (try split) <;> omega)) dX1_pictureOf_5
set_option maxHeartbeats 4000000 in
set_option maxRecDepth 100000 in
theorem c_X1_goesBack (l : Launch) (D : va_G) (gi gc gr : ClassId) (q : Int) (h0 : 0 ≤ q ∧ q < 107892) : Met l yX1_goesBack wsX1_goesBack { frames := 2, cells := 0, slots := 0, locals := 46 } (zPr D gi gc gr [] [.int (iI q)]) (vp_Si (fun v => v = iI 1)) 0 0 (fun _ => False) := by
  refine zt_metRz (own := RX1) (cc := cX1_goesBack) (maxL := 1) (by decide) rfl rfl (Nat.le_of_ble_eq_true rfl) ?_
  intro p e s m args below meth c Q C hK hP hQ ls hl
  have hx := C.1
  have hb := C.2.1
  have hml := C.2.2.1
  have hown := C.2.2.2.1
  have hts := C.2.2.2.2
  have hl : lv_has ls 1 [(0, .int (iI q))] := hl
  refine lv_iload_n hx hb dX1_goesBack_0 rfl (lv_at hl 0 rfl) ?_
  refine zt_callS C (As := [.int (iI q)]) (rest := []) (c_X1_labelOf l D gi gc gr q (by first | omega | assumption)) (va_cwS 1 hts gX1_goesBack_X1_labelOf rfl rfl rfl (by decide +kernel) ⟨Nat.le_of_ble_eq_true rfl, Nat.le_of_ble_eq_true rfl⟩) (zt_preS hK (hP.sub (ws' := []) [] rfl) [.int (iI q)]) rfl hl.1 rfl (Nat.le_of_ble_eq_true rfl) dX1_goesBack_1 ⟨Nat.le_of_ble_eq_true rfl, Nat.le_of_ble_eq_true rfl⟩ (fun r_1 hr_1 => ?_)
  obtain rfl := hr_1
  refine zt_callS C (As := [.int (iI (labF q))]) (rest := []) (c_X1_pictureOf l D gi gc gr (labF q) (by have := labF_bd h0; omega)) (va_cwS 1 hts gX1_goesBack_X1_pictureOf rfl rfl rfl (by decide +kernel) ⟨Nat.le_of_ble_eq_true rfl, Nat.le_of_ble_eq_true rfl⟩) (zt_preS hK (hP.sub (ws' := []) [] rfl) [.int (iI (labF q))]) rfl hl.1 rfl (Nat.le_of_ble_eq_true rfl) dX1_goesBack_4 ⟨Nat.le_of_ble_eq_true rfl, Nat.le_of_ble_eq_true rfl⟩ (fun r_2 hr_2 => ?_)
  obtain rfl := hr_2
  have hback := picF_lab h0
  refine lv_iload_n hx hb dX1_goesBack_7 rfl (lv_at hl 0 rfl) ?_
  refine zt_icmp_ne (tgt := 15) hx hb dX1_goesBack_8 (by decide) (by omega) (fun c_3 => absurd c_3 (by omega)) (fun c_3 => ?_)
  refine lv_iconst (v := iI (1)) hx hb dX1_goesBack_11 (by decide +kernel) ?_
  refine lv_goto (tgt := 16) hx hb dX1_goesBack_12 (by decide) ?_
  exact hQ _ _ _ (by first | rfl | decide +kernel) (rfl) dX1_goesBack_16
end
section
set_option maxHeartbeats 4000000 in
set_option maxRecDepth 100000 in
theorem c_X4_many (l : Launch) (D : va_G) (gi gc gr : ClassId) (r : Nat) (a : Nat) (t : Int) : Met l yX4_many wsX4_many { frames := 0, cells := 0, slots := 0, locals := 0 } (zPr D gi gc gr [(r, .inr (3, [.ref a, .int (iI t)]))] [.ref r]) (vp_Si (fun v => v = iI t)) 0 0 (fun _ => False) := by
  refine zt_metRi (own := RX4) (cc := cX4_many) (maxL := 1) (by decide) rfl rfl (Nat.le_of_ble_eq_true rfl) ?_
  intro p e s m args below meth c Q C hK hP hQ ls hl
  have hx := C.1
  have hb := C.2.1
  have hml := C.2.2.1
  have hown := C.2.2.2.1
  have hts := C.2.2.2.2
  have i4 : ∀ w ∈ u_ws RX4 TX4 2, w ∈ wsX4_many := by decide +kernel
  have f21 := hts (.fieldLink RX4 21 "Threetwo$Row" "told" "I") (by decide +kernel)
  have hl : lv_has ls 1 [(0, .ref r)] := hl
  refine lv_aload_n hx hb dX4_many_0 rfl (lv_at hl 0 rfl) ?_
  refine va_get (D := D) (ci := 3) (v := .int (iI t)) (C := RX4) (T := TX4) (N := 2) hx hb hts i4 hown hK.1 hP 0 rfl rfl 1 (by decide) f21 (fun _ h9 => h9) rfl dX4_many_1 ?_
  exact hQ _ _ _ (rfl) dX4_many_4
set_option maxHeartbeats 4000000 in
set_option maxRecDepth 100000 in
theorem c_X4_has (l : Launch) (D : va_G) (gi gc gr : ClassId) (r : Nat) (a : Nat) (t : Int) (i : Int) (ht : -2147483648 ≤ t ∧ t < 2147483648) (hi : -2147483648 ≤ i ∧ i < 2147483648) : Met l yX4_has wsX4_has { frames := 0, cells := 0, slots := 0, locals := 0 } (zPr D gi gc gr [(r, .inr (3, [.ref a, .int (iI t)]))] [.ref r, .int (iI i)]) (vp_Si (fun v => ∃ z : Int, v = iI z ∧ ((z = 1 ∧ 0 ≤ i ∧ i < t) ∨ (z = 0 ∧ (i < 0 ∨ t ≤ i))))) 0 0 (fun _ => False) := by
  refine zt_metRz (own := RX4) (cc := cX4_has) (maxL := 2) (by decide) rfl rfl (Nat.le_of_ble_eq_true rfl) ?_
  intro p e s m args below meth c Q C hK hP hQ ls hl
  have hx := C.1
  have hb := C.2.1
  have hml := C.2.2.1
  have hown := C.2.2.2.1
  have hts := C.2.2.2.2
  have i4 : ∀ w ∈ u_ws RX4 TX4 2, w ∈ wsX4_has := by decide +kernel
  have f21 := hts (.fieldLink RX4 21 "Threetwo$Row" "told" "I") (by decide +kernel)
  have hl : lv_has ls 2 [(0, .ref r), (1, .int (iI i))] := hl
  refine lv_iload_n hx hb dX4_has_0 rfl (lv_at hl 1 rfl) ?_
  refine zt_if_lt (tgt := 16) hx hb dX4_has_1 (by decide) (by omega) (fun c_1 => ?_) (fun c_1 => ?_)
  · refine lv_iconst (v := iI (0)) hx hb dX4_has_16 (by decide +kernel) ?_
    exact hQ _ _ _ (by first | rfl | decide +kernel) (⟨_, rfl, by omega⟩) dX4_has_17
  · refine lv_iload_n hx hb dX4_has_4 rfl (lv_at hl 1 rfl) ?_
    refine lv_aload_n hx hb dX4_has_5 rfl (lv_at hl 0 rfl) ?_
    refine va_get (D := D) (ci := 3) (v := .int (iI t)) (C := RX4) (T := TX4) (N := 2) hx hb hts i4 hown hK.1 hP 0 rfl rfl 1 (by decide) f21 (fun _ h9 => h9) rfl dX4_has_6 ?_
    refine zt_icmp_ge (tgt := 16) hx hb dX4_has_9 (by decide) (by omega) (fun c_2 => ?_) (fun c_2 => ?_)
    · refine lv_iconst (v := iI (0)) hx hb dX4_has_16 (by decide +kernel) ?_
      exact hQ _ _ _ (by first | rfl | decide +kernel) (⟨_, rfl, by omega⟩) dX4_has_17
    · refine lv_iconst (v := iI (1)) hx hb dX4_has_12 (by decide +kernel) ?_
      refine lv_goto (tgt := 17) hx hb dX4_has_13 (by decide) ?_
      exact hQ _ _ _ (by first | rfl | decide +kernel) (⟨_, rfl, by omega⟩) dX4_has_17
set_option maxHeartbeats 4000000 in
set_option maxRecDepth 100000 in
theorem c_X4_at (l : Launch) (D : va_G) (gi gc gr : ClassId) (r : Nat) (a : Nat) (n : Nat) (t : Int) (g : Nat → Int) (i : Int) (hn : n < 100000) (ht : 0 ≤ t ∧ t ≤ (n : Int)) (hi : 0 ≤ i ∧ i < t) : Met l yX4_at wsX4_at { frames := 0, cells := 0, slots := 0, locals := 0 } (zPr D gi gc gr [(r, .inr (3, [.ref a, .int (iI t)])), (a, aI gi n g)] [.ref r, .int (iI i)]) (vp_Si (fun v => v = iI (g i.toNat))) 0 0 (fun _ => False) := by
  refine zt_metRi (own := RX4) (cc := cX4_at) (maxL := 2) (by decide) rfl rfl (Nat.le_of_ble_eq_true rfl) ?_
  intro p e s m args below meth c Q C hK hP hQ ls hl
  have hx := C.1
  have hb := C.2.1
  have hml := C.2.2.1
  have hown := C.2.2.2.1
  have hts := C.2.2.2.2
  have i4 : ∀ w ∈ u_ws RX4 TX4 2, w ∈ wsX4_at := by decide +kernel
  have f15 := hts (.fieldLink RX4 15 "Threetwo$Row" "items" "[I") (by decide +kernel)
  have f21 := hts (.fieldLink RX4 21 "Threetwo$Row" "told" "I") (by decide +kernel)
  have hl : lv_has ls 2 [(0, .ref r), (1, .int (iI i))] := hl
  refine lv_iload_n hx hb dX4_at_0 rfl (lv_at hl 1 rfl) ?_
  refine zt_if_lt (tgt := 21) hx hb dX4_at_1 (by decide) (by omega) (fun c_1 => absurd c_1 (by omega)) (fun c_1 => ?_)
  refine lv_iload_n hx hb dX4_at_4 rfl (lv_at hl 1 rfl) ?_
  refine lv_aload_n hx hb dX4_at_5 rfl (lv_at hl 0 rfl) ?_
  refine va_get (D := D) (ci := 3) (v := .int (iI t)) (C := RX4) (T := TX4) (N := 2) hx hb hts i4 hown hK.1 hP 0 rfl rfl 1 (by decide) f21 (fun _ h9 => h9) rfl dX4_at_6 ?_
  refine zt_icmp_ge (tgt := 21) hx hb dX4_at_9 (by decide) (by omega) (fun c_2 => absurd c_2 (by omega)) (fun c_2 => ?_)
  refine lv_aload_n hx hb dX4_at_12 rfl (lv_at hl 0 rfl) ?_
  refine va_get (D := D) (ci := 3) (v := .ref a) (C := RX4) (T := TX4) (N := 2) hx hb hts i4 hown hK.1 hP 0 rfl rfl 0 (by decide) f15 (fun _ h9 => h9) rfl dX4_at_13 ?_
  refine lv_iload_n hx hb dX4_at_16 rfl (lv_at hl 1 rfl) ?_
  refine zt_iald hx hb hK.1 hP 1 0 rfl rfl (by omega) (by omega) dX4_at_17 ?_
  refine lv_goto (tgt := 22) hx hb dX4_at_18 (by decide) ?_
  exact hQ _ _ _ (rfl) dX4_at_22
set_option maxHeartbeats 4000000 in
set_option maxRecDepth 100000 in
theorem c_X4_add (l : Launch) (D : va_G) (gi gc gr : ClassId) (sz : Nat) (r : Nat) (a : Nat) (n : Nat) (t : Int) (g : Nat → Int) (x : Int) (hn : n < 100000) (ht : 0 ≤ t ∧ t ≤ (n : Int)) : Met l yX4_add wsX4_add { frames := 0, cells := 0, slots := 0, locals := 0 } (zPw D gi gc gr [(r, .inr (3, [.ref a, .int (iI t)])), (a, aI gi n g)] sz [.ref r, .int (iI x)]) (va_Qi (S := Int × (Nat → Int)) (fun v u => ∃ z : Int, v = iI z ∧ ((t < (n : Int) ∧ z = t ∧ u.1 = t + 1 ∧ u.2 = uP g t.toNat x) ∨ ((n : Int) ≤ t ∧ z = -1 ∧ u.1 = t ∧ u.2 = g))) (zB D (va_A [(r, .inr (3, [.ref a, .int (iI t)])), (a, aI gi n g)] sz) (fun u => [(r, .inr (3, [.ref a, .int (iI u.1)])), (a, aI gi n u.2)])) (va_A [(r, .inr (3, [.ref a, .int (iI t)])), (a, aI gi n g)] sz)) 0 0 (va_A [(r, .inr (3, [.ref a, .int (iI t)])), (a, aI gi n g)] sz) := by
  refine zt_metWi (own := RX4) (cc := cX4_add) (maxL := 2) (by decide) rfl rfl (Nat.le_of_ble_eq_true rfl) ?_
  intro p e s m args below meth c Q A C hK hP hD hS hA _ hQ ls hl
  have hx := C.1
  have hb := C.2.1
  have hml := C.2.2.1
  have hown := C.2.2.2.1
  have hts := C.2.2.2.2
  have i4 : ∀ w ∈ u_ws RX4 TX4 2, w ∈ wsX4_add := by decide +kernel
  have f15 := hts (.fieldLink RX4 15 "Threetwo$Row" "items" "[I") (by decide +kernel)
  have f21 := hts (.fieldLink RX4 21 "Threetwo$Row" "told" "I") (by decide +kernel)
  have hl : lv_has ls 2 [(0, .ref r), (1, .int (iI x))] := hl
  refine lv_aload_n hx hb dX4_add_0 rfl (lv_at hl 0 rfl) ?_
  refine va_get (D := D) (ci := 3) (v := .int (iI t)) (C := RX4) (T := TX4) (N := 2) hx hb hts i4 hown hK.1 hP 0 rfl rfl 1 (by decide) f21 (fun _ h9 => h9) rfl dX4_add_1 ?_
  refine lv_aload_n hx hb dX4_add_4 rfl (lv_at hl 0 rfl) ?_
  refine va_get (D := D) (ci := 3) (v := .ref a) (C := RX4) (T := TX4) (N := 2) hx hb hts i4 hown hK.1 hP 0 rfl rfl 0 (by decide) f15 (fun _ h9 => h9) rfl dX4_add_5 ?_
  refine va_alen (v := iI n) hx hb hK.1 hP 1 0 rfl rfl (by first | rfl | exact (iI_ofN _)) dX4_add_8 ?_
  refine zt_icmp_lt (tgt := 14) hx hb dX4_add_9 (by decide) (by omega) (fun c_1 => ?_) (fun c_1 => ?_)
  · refine lv_aload_n hx hb dX4_add_14 rfl (lv_at hl 0 rfl) ?_
    refine va_get (D := D) (ci := 3) (v := .ref a) (C := RX4) (T := TX4) (N := 2) hx hb hts i4 hown hK.1 hP 0 rfl rfl 0 (by decide) f15 (fun _ h9 => h9) rfl dX4_add_15 ?_
    refine lv_aload_n hx hb dX4_add_18 rfl (lv_at hl 0 rfl) ?_
    refine va_get (D := D) (ci := 3) (v := .int (iI t)) (C := RX4) (T := TX4) (N := 2) hx hb hts i4 hown hK.1 hP 0 rfl rfl 1 (by decide) f21 (fun _ h9 => h9) rfl dX4_add_19 ?_
    refine lv_iload_n hx hb dX4_add_22 rfl (lv_at hl 1 rfl) ?_
    refine zt_iast (g := g) (x := x) hx hb hK.1 hP hD hS 1 0 rfl rfl (by omega) (by omega) dX4_add_23 (fun H locs hP hD hS => ?_)
    have hP : va_P D vwCl [(r, .inr (3, [.ref a, .int (iI t)])), (a, aI gi n (uP g t.toNat x))] H := hP
    have hD : va_D A [(r, .inr (3, [.ref a, .int (iI t)])), (a, aI gi n (uP g t.toNat x))] := hD
    refine lv_aload_n hx hb dX4_add_24 rfl (lv_at hl 0 rfl) ?_
    refine lv_dup hx hb dX4_add_25 rfl ?_
    refine va_get (D := D) (ci := 3) (v := .int (iI t)) (C := RX4) (T := TX4) (N := 2) hx hb hts i4 hown hK.1 hP 0 rfl rfl 1 (by decide) f21 (fun _ h9 => h9) rfl dX4_add_26 ?_
    refine lv_iconst (v := iI (1)) hx hb dX4_add_29 (by decide +kernel) ?_
    refine zt_iadd hx hb dX4_add_30 ?_
    refine va_put (D := D) (ci := 3) (v := .int (iI (t + 1))) (ty := .int) (C := RX4) (T := TX4) (N := 2) hx hb hts i4 tyX4 tyX4_ok nmX4 hown hK.1 hP hD hS 0 rfl rfl 1 (by decide) f21 (fun _ h9 => h9) rfl (by decide +kernel) rfl rfl (Nat.le_of_ble_eq_true rfl) dX4_add_31 (fun H locs hP hD hS => ?_)
    have hP : va_P D vwCl [(r, .inr (3, [.ref a, .int (iI (t + 1))])), (a, aI gi n (uP g t.toNat x))] H := hP
    have hD : va_D A [(r, .inr (3, [.ref a, .int (iI (t + 1))])), (a, aI gi n (uP g t.toNat x))] := hD
    refine lv_aload_n hx hb dX4_add_34 rfl (lv_at hl 0 rfl) ?_
    refine va_get (D := D) (ci := 3) (v := .int (iI (t + 1))) (C := RX4) (T := TX4) (N := 2) hx hb hts i4 hown hK.1 hP 0 rfl rfl 1 (by decide) f21 (fun _ h9 => h9) rfl dX4_add_35 ?_
    refine lv_iconst (v := iI (1)) hx hb dX4_add_38 (by decide +kernel) ?_
    refine zt_isub hx hb dX4_add_39 ?_
    exact hQ (t + 1, uP g t.toNat x) _ _ _ _ _ (⟨_, rfl, Or.inl ⟨by omega, by omega, rfl, rfl⟩⟩) hP hD hS dX4_add_40
  · refine lv_iconst (v := iI (-1)) hx hb dX4_add_12 (by decide +kernel) ?_
    exact hQ (t, g) _ _ _ _ _ (⟨_, rfl, Or.inr ⟨by omega, rfl, rfl, rfl⟩⟩) hP hD hS dX4_add_13
set_option maxHeartbeats 4000000 in
set_option maxRecDepth 100000 in
theorem c_X4_put (l : Launch) (D : va_G) (gi gc gr : ClassId) (sz : Nat) (r : Nat) (a : Nat) (n : Nat) (t : Int) (g : Nat → Int) (i : Int) (x : Int) (hn : n < 100000) (ht : 0 ≤ t ∧ t ≤ (n : Int)) (hi : -2147483648 ≤ i ∧ i < 2147483648) : Met l yX4_put wsX4_put { frames := 1, cells := 0, slots := 0, locals := 21 } (zPw D gi gc gr [(r, .inr (3, [.ref a, .int (iI t)])), (a, aI gi n g)] sz [.ref r, .int (iI i), .int (iI x)]) (va_Qv (S := Nat → Int) (fun _ => True) (zB D (va_A [(r, .inr (3, [.ref a, .int (iI t)])), (a, aI gi n g)] sz) (fun u => [(r, .inr (3, [.ref a, .int (iI t)])), (a, aI gi n u)])) (va_A [(r, .inr (3, [.ref a, .int (iI t)])), (a, aI gi n g)] sz)) 0 0 (va_A [(r, .inr (3, [.ref a, .int (iI t)])), (a, aI gi n g)] sz) := by
  refine zt_metWv (own := RX4) (cc := cX4_put) (maxL := 3) (by decide) rfl rfl (Nat.le_of_ble_eq_true rfl) ?_
  intro p e s m args below meth c Q A C hK hP hD hS hA _ hQ ls hl
  have hx := C.1
  have hb := C.2.1
  have hml := C.2.2.1
  have hown := C.2.2.2.1
  have hts := C.2.2.2.2
  have i4 : ∀ w ∈ u_ws RX4 TX4 2, w ∈ wsX4_put := by decide +kernel
  have f15 := hts (.fieldLink RX4 15 "Threetwo$Row" "items" "[I") (by decide +kernel)
  have hl : lv_has ls 3 [(0, .ref r), (1, .int (iI i)), (2, .int (iI x))] := hl
  refine lv_aload_n hx hb dX4_put_0 rfl (lv_at hl 0 rfl) ?_
  refine lv_iload_n hx hb dX4_put_1 rfl (lv_at hl 1 rfl) ?_
  refine zt_callV C (As := [.int (iI i)]) (rest := []) (c_X4_has l D gi gc gr r a t i (by first | omega | assumption) (by first | omega | assumption)) (cwV 1 hts gX4_put_X4_has rfl rfl rfl (by decide +kernel) ⟨Nat.le_of_ble_eq_true rfl, Nat.le_of_ble_eq_true rfl⟩) (zt_preV hK (hP.sub (ws' := [(r, .inr (3, [.ref a, .int (iI t)]))]) [0] rfl) [.int (iI i)] 0 rfl rfl) rfl hl.1 rfl (Nat.le_of_ble_eq_true rfl) dX4_put_2 ⟨Nat.le_of_ble_eq_true rfl, Nat.le_of_ble_eq_true rfl⟩ (fun r_1 hr_1 => ?_)
  obtain ⟨z_2, rfl, hz_2⟩ := hr_1
  refine zt_if_eq (tgt := 15) hx hb dX4_put_5 (by decide) (by omega) (fun c_3 => ?_) (fun c_3 => ?_)
  · exact hQ g _ _ _ _ (by trivial) hP hD hS dX4_put_15
  · refine lv_aload_n hx hb dX4_put_8 rfl (lv_at hl 0 rfl) ?_
    refine va_get (D := D) (ci := 3) (v := .ref a) (C := RX4) (T := TX4) (N := 2) hx hb hts i4 hown hK.1 hP 0 rfl rfl 0 (by decide) f15 (fun _ h9 => h9) rfl dX4_put_9 ?_
    refine lv_iload_n hx hb dX4_put_12 rfl (lv_at hl 1 rfl) ?_
    refine lv_iload_n hx hb dX4_put_13 rfl (lv_at hl 2 rfl) ?_
    refine zt_iast (g := g) (x := x) hx hb hK.1 hP hD hS 1 0 rfl rfl (by omega) (by omega) dX4_put_14 (fun H locs hP hD hS => ?_)
    have hP : va_P D vwCl [(r, .inr (3, [.ref a, .int (iI t)])), (a, aI gi n (uP g i.toNat x))] H := hP
    have hD : va_D A [(r, .inr (3, [.ref a, .int (iI t)])), (a, aI gi n (uP g i.toNat x))] := hD
    exact hQ (uP g i.toNat x) _ _ _ _ (by trivial) hP hD hS dX4_put_15
set_option maxHeartbeats 4000000 in
set_option maxRecDepth 100000 in
theorem c_X4_clear (l : Launch) (D : va_G) (gi gc gr : ClassId) (sz : Nat) (r : Nat) (a : Nat) (t : Int) : Met l yX4_clear wsX4_clear { frames := 0, cells := 0, slots := 0, locals := 0 } (zPw D gi gc gr [(r, .inr (3, [.ref a, .int (iI t)]))] sz [.ref r]) (va_Qv (S := Unit) (fun _ => True) (zB D (va_A [(r, .inr (3, [.ref a, .int (iI t)]))] sz) (fun _ => [(r, .inr (3, [.ref a, .int (iI 0)]))])) (va_A [(r, .inr (3, [.ref a, .int (iI t)]))] sz)) 0 0 (va_A [(r, .inr (3, [.ref a, .int (iI t)]))] sz) := by
  refine zt_metWv (own := RX4) (cc := cX4_clear) (maxL := 1) (by decide) rfl rfl (Nat.le_of_ble_eq_true rfl) ?_
  intro p e s m args below meth c Q A C hK hP hD hS hA _ hQ ls hl
  have hx := C.1
  have hb := C.2.1
  have hml := C.2.2.1
  have hown := C.2.2.2.1
  have hts := C.2.2.2.2
  have i4 : ∀ w ∈ u_ws RX4 TX4 2, w ∈ wsX4_clear := by decide +kernel
  have f21 := hts (.fieldLink RX4 21 "Threetwo$Row" "told" "I") (by decide +kernel)
  have hl : lv_has ls 1 [(0, .ref r)] := hl
  refine lv_aload_n hx hb dX4_clear_0 rfl (lv_at hl 0 rfl) ?_
  refine lv_iconst (v := iI (0)) hx hb dX4_clear_1 (by decide +kernel) ?_
  refine va_put (D := D) (ci := 3) (v := .int (iI 0)) (ty := .int) (C := RX4) (T := TX4) (N := 2) hx hb hts i4 tyX4 tyX4_ok nmX4 hown hK.1 hP hD hS 0 rfl rfl 1 (by decide) f21 (fun _ h9 => h9) rfl (by decide +kernel) rfl rfl (Nat.le_of_ble_eq_true rfl) dX4_clear_2 (fun H locs hP hD hS => ?_)
  have hP : va_P D vwCl [(r, .inr (3, [.ref a, .int (iI 0)]))] H := hP
  have hD : va_D A [(r, .inr (3, [.ref a, .int (iI 0)]))] := hD
  exact hQ () _ _ _ _ (by trivial) hP hD hS dX4_clear_5
set_option maxHeartbeats 4000000 in
set_option maxRecDepth 100000 in
theorem c_X4_remove (l : Launch) (D : va_G) (gi gc gr : ClassId) (sz : Nat) (r : Nat) (a : Nat) (n : Nat) (t : Int) (g : Nat → Int) (i : Int) (x : Int) (hn : n < 100000) (ht : 0 ≤ t ∧ t ≤ (n : Int)) (hi : -2147483648 ≤ i ∧ i < 2147483648) (hx0 : -2147483648 ≤ x ∧ x < 2147483648) : Met l yX4_remove wsX4_remove { frames := 1, cells := 0, slots := 0, locals := 21 } (zPw D gi gc gr [(r, .inr (3, [.ref a, .int (iI t)])), (a, aI gi n g)] sz [.ref r, .int (iI i), .int (iI x)]) (va_Qv (S := Int × (Nat → Int)) (fun u => 0 ≤ u.1 ∧ u.1 ≤ t) (zB D (va_A [(r, .inr (3, [.ref a, .int (iI t)])), (a, aI gi n g)] sz) (fun u => [(r, .inr (3, [.ref a, .int (iI u.1)])), (a, aI gi n u.2)])) (va_A [(r, .inr (3, [.ref a, .int (iI t)])), (a, aI gi n g)] sz)) 0 0 (va_A [(r, .inr (3, [.ref a, .int (iI t)])), (a, aI gi n g)] sz) := by
  refine zt_metWv (own := RX4) (cc := cX4_remove) (maxL := 4) (by decide) rfl rfl (Nat.le_of_ble_eq_true rfl) ?_
  intro p e s m args below meth c Q A C hK hP hD hS hA _ hQ ls hl
  have hx := C.1
  have hb := C.2.1
  have hml := C.2.2.1
  have hown := C.2.2.2.1
  have hts := C.2.2.2.2
  have i4 : ∀ w ∈ u_ws RX4 TX4 2, w ∈ wsX4_remove := by decide +kernel
  have f15 := hts (.fieldLink RX4 15 "Threetwo$Row" "items" "[I") (by decide +kernel)
  have f21 := hts (.fieldLink RX4 21 "Threetwo$Row" "told" "I") (by decide +kernel)
  have hl : lv_has ls 4 [(0, .ref r), (1, .int (iI i)), (2, .int (iI x))] := hl
  refine lv_aload_n hx hb dX4_remove_0 rfl (lv_at hl 0 rfl) ?_
  refine lv_iload_n hx hb dX4_remove_1 rfl (lv_at hl 1 rfl) ?_
  refine zt_callV C (As := [.int (iI i)]) (rest := []) (c_X4_has l D gi gc gr r a t i (by first | omega | assumption) (by first | omega | assumption)) (cwV 1 hts gX4_remove_X4_has rfl rfl rfl (by decide +kernel) ⟨Nat.le_of_ble_eq_true rfl, Nat.le_of_ble_eq_true rfl⟩) (zt_preV hK (hP.sub (ws' := [(r, .inr (3, [.ref a, .int (iI t)]))]) [0] rfl) [.int (iI i)] 0 rfl rfl) rfl hl.1 rfl (Nat.le_of_ble_eq_true rfl) dX4_remove_2 ⟨Nat.le_of_ble_eq_true rfl, Nat.le_of_ble_eq_true rfl⟩ (fun r_1 hr_1 => ?_)
  obtain ⟨z_2, rfl, hz_2⟩ := hr_1
  refine zt_if_eq (tgt := 22) hx hb dX4_remove_5 (by decide) (by omega) (fun c_3 => ?_) (fun c_3 => ?_)
  · exact hQ (t, g) _ _ _ _ (by constructor <;> dsimp only <;> omega) hP hD hS dX4_remove_22
  · refine lv_iload_n hx hb dX4_remove_8 rfl (lv_at hl 2 rfl) ?_
    refine zt_if_lt (tgt := 22) hx hb dX4_remove_9 (by decide) (by omega) (fun c_4 => ?_) (fun c_4 => ?_)
    · exact hQ (t, g) _ _ _ _ (by constructor <;> dsimp only <;> omega) hP hD hS dX4_remove_22
    · refine lv_iload_n hx hb dX4_remove_12 rfl (lv_at hl 2 rfl) ?_
      refine lv_aload_n hx hb dX4_remove_13 rfl (lv_at hl 0 rfl) ?_
      refine va_get (D := D) (ci := 3) (v := .int (iI t)) (C := RX4) (T := TX4) (N := 2) hx hb hts i4 hown hK.1 hP 0 rfl rfl 1 (by decide) f21 (fun _ h9 => h9) rfl dX4_remove_14 ?_
      refine lv_iload_n hx hb dX4_remove_17 rfl (lv_at hl 1 rfl) ?_
      refine zt_isub hx hb dX4_remove_18 ?_
      refine zt_icmp_le (tgt := 23) hx hb dX4_remove_19 (by decide) (by omega) (fun c_5 => ?_) (fun c_5 => ?_)
      · refine lv_iload_n hx hb dX4_remove_23 rfl (lv_at hl 1 rfl) ?_
        refine lv_iload_n hx hb dX4_remove_24 rfl (lv_at hl 2 rfl) ?_
        refine zt_iadd hx hb dX4_remove_25 ?_
        refine lv_istore_n (lv' := [(3, .int (iI (i + x))), (0, .ref r), (1, .int (iI i)), (2, .int (iI x))]) hx hb dX4_remove_26 rfl hl (by decide) rfl (fun ls hl => ?_)
        have loop_27 : ∀ (n_27 : Nat) (j : Int) (gl : Nat → Int) (hj : 0 ≤ i ∧ 0 ≤ x ∧ i + x ≤ j ∧ j ≤ t) (hm_27 : t - j < (n_27 : Int)) (H : Heap) (locs : List Loc) (hP : va_P D vwCl [(r, .inr (3, [.ref a, .int (iI t)])), (a, aI gi n gl)] H) (hD : va_D A [(r, .inr (3, [.ref a, .int (iI t)])), (a, aI gi n gl)]) (hS : va_S A s.heap H locs) (ls : Array Slot) (hl : lv_has ls 4 [(0, .ref r), (1, .int (iI i)), (2, .int (iI x)), (3, .int (iI j))]), W p l e { frames := 1, cells := 0, slots := 0, locals := 21 } s m args below meth c H locs 0 0 Q (F0 m 27 ls []) := by
          intro n_27
          induction n_27 with
          | zero => intro j gl hj hm_27 H locs hP hD hS ls hl; exact absurd hm_27 (by omega)
          | succ n_27 ih_27 =>
            intro j gl hj hm_27 H locs hP hD hS ls hl
            refine lv_iload_n hx hb dX4_remove_27 rfl (lv_at hl 3 rfl) ?_
            refine lv_aload_n hx hb dX4_remove_28 rfl (lv_at hl 0 rfl) ?_
            refine va_get (D := D) (ci := 3) (v := .int (iI t)) (C := RX4) (T := TX4) (N := 2) hx hb hts i4 hown hK.1 hP 0 rfl rfl 1 (by decide) f21 (fun _ h9 => h9) rfl dX4_remove_29 ?_
            refine zt_icmp_ge (tgt := 55) hx hb dX4_remove_32 (by decide) (by omega) (fun c_6 => ?_) (fun c_6 => ?_)
            · refine lv_aload_n hx hb dX4_remove_55 rfl (lv_at hl 0 rfl) ?_
              refine lv_dup hx hb dX4_remove_56 rfl ?_
              refine va_get (D := D) (ci := 3) (v := .int (iI t)) (C := RX4) (T := TX4) (N := 2) hx hb hts i4 hown hK.1 hP 0 rfl rfl 1 (by decide) f21 (fun _ h9 => h9) rfl dX4_remove_57 ?_
              refine lv_iload_n hx hb dX4_remove_60 rfl (lv_at hl 2 rfl) ?_
              refine zt_isub hx hb dX4_remove_61 ?_
              refine va_put (D := D) (ci := 3) (v := .int (iI (t - x))) (ty := .int) (C := RX4) (T := TX4) (N := 2) hx hb hts i4 tyX4 tyX4_ok nmX4 hown hK.1 hP hD hS 0 rfl rfl 1 (by decide) f21 (fun _ h9 => h9) rfl (by decide +kernel) rfl rfl (Nat.le_of_ble_eq_true rfl) dX4_remove_62 (fun H locs hP hD hS => ?_)
              have hP : va_P D vwCl [(r, .inr (3, [.ref a, .int (iI (t - x))])), (a, aI gi n gl)] H := hP
              have hD : va_D A [(r, .inr (3, [.ref a, .int (iI (t - x))])), (a, aI gi n gl)] := hD
              exact hQ (t - x, gl) _ _ _ _ (by constructor <;> dsimp only <;> omega) hP hD hS dX4_remove_65
            · refine lv_aload_n hx hb dX4_remove_35 rfl (lv_at hl 0 rfl) ?_
              refine va_get (D := D) (ci := 3) (v := .ref a) (C := RX4) (T := TX4) (N := 2) hx hb hts i4 hown hK.1 hP 0 rfl rfl 0 (by decide) f15 (fun _ h9 => h9) rfl dX4_remove_36 ?_
              refine lv_iload_n hx hb dX4_remove_39 rfl (lv_at hl 3 rfl) ?_
              refine lv_iload_n hx hb dX4_remove_40 rfl (lv_at hl 2 rfl) ?_
              refine zt_isub hx hb dX4_remove_41 ?_
              refine lv_aload_n hx hb dX4_remove_42 rfl (lv_at hl 0 rfl) ?_
              refine va_get (D := D) (ci := 3) (v := .ref a) (C := RX4) (T := TX4) (N := 2) hx hb hts i4 hown hK.1 hP 0 rfl rfl 0 (by decide) f15 (fun _ h9 => h9) rfl dX4_remove_43 ?_
              refine lv_iload_n hx hb dX4_remove_46 rfl (lv_at hl 3 rfl) ?_
              refine zt_iald hx hb hK.1 hP 1 0 rfl rfl (by omega) (by omega) dX4_remove_47 ?_
              refine zt_iast (g := gl) (x := gl j.toNat) hx hb hK.1 hP hD hS 1 0 rfl rfl (by omega) (by omega) dX4_remove_48 (fun H locs hP hD hS => ?_)
              have hP : va_P D vwCl [(r, .inr (3, [.ref a, .int (iI t)])), (a, aI gi n (uP gl (j - x).toNat (gl j.toNat)))] H := hP
              have hD : va_D A [(r, .inr (3, [.ref a, .int (iI t)])), (a, aI gi n (uP gl (j - x).toNat (gl j.toNat)))] := hD
              refine lv_iinc (v := iI (j + 1)) (lv' := [(3, .int (iI (j + 1))), (0, .ref r), (1, .int (iI i)), (2, .int (iI x))]) hx hb dX4_remove_49 hl (k := 3) rfl (iI_add _ _) (by decide) rfl (fun ls hl => ?_)
              refine lv_goto (tgt := 27) hx hb dX4_remove_52 (by decide) ?_
              exact ih_27 (j + 1) (uP gl (j - x).toNat (gl j.toNat)) (by omega) (by omega) H locs hP hD hS ls (lv_sub hl [1, 2, 3, 0] rfl)
        exact loop_27 ((t - (i + x)).toNat + 1) (i + x) g (by omega) (by omega) s.heap [] hP hD hS ls (lv_sub hl [1, 2, 3, 0] rfl)
      · exact hQ (t, g) _ _ _ _ (by constructor <;> dsimp only <;> omega) hP hD hS dX4_remove_22
end
section
/-! ===== the buffer: sums, what came in, the least delay, the first dry tick ===== -/
def sumF (g : Nat → Int) : Nat → Int
  | 0 => 0
  | k + 1 => sumF g k + g k
def camF (rate x tot : Int) : Int := if tot < rate * x then tot else rate * x
def dryF (rate q tot : Int) (g : Nat → Int) : Nat → Int → Int → Int
  | 0, _, _ => -1
  | n + 1, j, y => if camF rate ((q + j) + 1) tot < y + g j.toNat then j else dryF rate q tot g n (j + 1) (y + g j.toNat)
def tckF (rate : Int) (g : Nat → Int) (k : Nat) : Int := ((sumF g (k + 1) + rate) - 1) / rate - ((k : Int) + 1)
def leastL (rate : Int) (g : Nat → Int) : Nat → Int
  | 0 => 0
  | k + 1 => if leastL rate g k < tckF rate g k then tckF rate g k else leastL rate g k
def peakL (rate q tot : Int) (g : Nat → Int) : Nat → Int
  | 0 => 0
  | k + 1 => if peakL rate q tot g k < camF rate ((q + (k : Int)) + 1) tot - sumF g k then camF rate ((q + (k : Int)) + 1) tot - sumF g k else peakL rate q tot g k
theorem dryF_0 (rate q tot : Int) (g : Nat → Int) (j y : Int) : dryF rate q tot g 0 j y = -1 := rfl
theorem dryF_s (rate q tot : Int) (g : Nat → Int) (n : Nat) (j y : Int) : dryF rate q tot g (n + 1) j y = if camF rate ((q + j) + 1) tot < y + g j.toNat then j else dryF rate q tot g n (j + 1) (y + g j.toNat) := rfl
theorem leastL_s (rate : Int) (g : Nat → Int) (k : Nat) : leastL rate g (k + 1) = if leastL rate g k < tckF rate g k then tckF rate g k else leastL rate g k := rfl
theorem peakL_s (rate q tot : Int) (g : Nat → Int) (k : Nat) : peakL rate q tot g (k + 1) = if peakL rate q tot g k < camF rate ((q + (k : Int)) + 1) tot - sumF g k then camF rate ((q + (k : Int)) + 1) tot - sumF g k else peakL rate q tot g k := rfl
theorem sumF_b {g : Nat → Int} {t : Int} (hg : ∀ j : Nat, (j : Int) < t → 0 ≤ g j ∧ g j ≤ 99) : ∀ k : Nat, (k : Int) ≤ t → 0 ≤ sumF g k ∧ sumF g k ≤ 99 * (k : Int) := by
  intro k
  induction k with
  | zero => intro _; show (0 : Int) ≤ 0 ∧ (0 : Int) ≤ 99 * ((0 : Nat) : Int); omega
  | succ k ih =>
    intro h
    have h1 := ih (by omega)
    have h2 := hg k (by omega)
    show 0 ≤ sumF g k + g k ∧ sumF g k + g k ≤ _
    omega
theorem sumF_i {g : Nat → Int} {t j : Int} (hg : ∀ j : Nat, (j : Int) < t → 0 ≤ g j ∧ g j ≤ 99) (hj : 0 ≤ j ∧ j ≤ t) : 0 ≤ sumF g j.toNat ∧ sumF g j.toNat ≤ 99 * j := by
  have h := sumF_b hg j.toNat (by omega)
  omega
theorem sumF_mono {g : Nat → Int} {t : Int} (hg : ∀ j : Nat, (j : Int) < t → 0 ≤ g j ∧ g j ≤ 99) {a : Nat} : ∀ d : Nat, ((a + d : Nat) : Int) ≤ t → sumF g a ≤ sumF g (a + d) := by
  intro d
  induction d with
  | zero => intro _; exact Int.le_refl _
  | succ d ih =>
    intro h
    have h1 := ih (by omega)
    have h2 := hg (a + d) (by omega)
    show _ ≤ sumF g (a + d) + g (a + d)
    omega
theorem zt_mulb {a b : Int} (ha : 1 ≤ a ∧ a ≤ 50) (hb : 0 ≤ b ∧ b ≤ 2100) : 0 ≤ a * b ∧ a * b ≤ 105000 := by
  refine ⟨Int.mul_nonneg (by omega) hb.1, ?_⟩
  have h1 : a * b ≤ 50 * b := Int.mul_le_mul_of_nonneg_right ha.2 hb.1
  omega
theorem camF_b {rate x tot : Int} (hr : 1 ≤ rate ∧ rate ≤ 50) (hx : 0 ≤ x ∧ x ≤ 2100) (ht : 0 ≤ tot) : 0 ≤ camF rate x tot ∧ camF rate x tot ≤ 105000 := by
  have h := zt_mulb hr hx
  unfold camF
  split <;> omega
theorem tck_lo {rate S : Int} (hr : 1 ≤ rate) : S ≤ rate * (((S + rate) - 1) / rate) := by
  have h1 := Int.mul_ediv_add_emod ((S + rate) - 1) rate
  have h2 := Int.emod_lt_of_pos ((S + rate) - 1) (show 0 < rate by omega)
  omega
theorem tck_hi {rate S : Int} (hr : 1 ≤ rate) : rate * (((S + rate) - 1) / rate - 1) < S := by
  have h1 := Int.mul_ediv_add_emod ((S + rate) - 1) rate
  have h2 := Int.emod_nonneg ((S + rate) - 1) (show rate ≠ 0 by omega)
  rw [Int.mul_sub]
  omega
theorem tck_b {rate S : Int} (hr : 1 ≤ rate) (hS : 0 ≤ S) : 0 ≤ ((S + rate) - 1) / rate ∧ ((S + rate) - 1) / rate ≤ S := by
  refine ⟨Int.ediv_nonneg (by omega) (by omega), ?_⟩
  have h := tck_hi (S := S) hr
  by_cases q : ((S + rate) - 1) / rate ≤ S
  · exact q
  · have h3 : 1 * (((S + rate) - 1) / rate - 1) ≤ rate * (((S + rate) - 1) / rate - 1) := Int.mul_le_mul_of_nonneg_right hr (by omega)
    omega
theorem leastL_b {rate : Int} {g : Nat → Int} {t : Int} (hr : 1 ≤ rate) (hg : ∀ j : Nat, (j : Int) < t → 0 ≤ g j ∧ g j ≤ 99) : ∀ k : Nat, (k : Int) ≤ t → 0 ≤ leastL rate g k ∧ leastL rate g k ≤ 99 * (k : Int) := by
  intro k
  induction k with
  | zero => intro _; show (0 : Int) ≤ 0 ∧ (0 : Int) ≤ 99 * ((0 : Nat) : Int); omega
  | succ k ih =>
    intro h
    have h1 := ih (by omega)
    have h2 := sumF_b hg (k + 1) h
    have h3 := tck_b (S := sumF g (k + 1)) hr h2.1
    rw [leastL_s]
    unfold tckF
    split <;> omega
theorem leastL_i {rate : Int} {g : Nat → Int} {t j : Int} (hr : 1 ≤ rate ∧ rate ≤ 50) (hg : ∀ j : Nat, (j : Int) < t → 0 ≤ g j ∧ g j ≤ 99) (hj : 0 ≤ j ∧ j ≤ t) : 0 ≤ leastL rate g j.toNat ∧ leastL rate g j.toNat ≤ 99 * j := by
  have h := leastL_b hr.1 hg j.toNat (by omega)
  omega
theorem leastL_ge {rate : Int} {g : Nat → Int} : ∀ (n k : Nat), k < n → tckF rate g k ≤ leastL rate g n := by
  intro n
  induction n with
  | zero => intro k h; omega
  | succ n ih =>
    intro k h
    rw [leastL_s]
    by_cases q : k = n
    · subst q
      split <;> omega
    · have h1 := ih k (by omega)
      split <;> omega
theorem leastL_at {rate : Int} {g : Nat → Int} : ∀ n : Nat, leastL rate g n = 0 ∨ ∃ k : Nat, k < n ∧ leastL rate g n = tckF rate g k := by
  intro n
  induction n with
  | zero => exact Or.inl rfl
  | succ n ih =>
    rw [leastL_s]
    by_cases q : leastL rate g n < tckF rate g n
    · rw [if_pos q]
      exact Or.inr ⟨n, by omega, rfl⟩
    · rw [if_neg q]
      rcases ih with h | ⟨k, h1, h2⟩
      · exact Or.inl h
      · exact Or.inr ⟨k, by omega, h2⟩
theorem dryF_no {rate q tot : Int} {g : Nat → Int} {N : Nat} (h : ∀ k : Nat, k < N → sumF g (k + 1) ≤ camF rate ((q + (k : Int)) + 1) tot) : ∀ (n j : Nat), j + n = N → dryF rate q tot g n (j : Int) (sumF g j) = -1 := by
  intro n
  induction n with
  | zero => intro j _; rfl
  | succ n ih =>
    intro j hj
    have h1 := h j (by omega)
    have e1 : sumF g j + g (j : Int).toNat = sumF g (j + 1) := by rw [Int.toNat_natCast]; rfl
    rw [dryF_s, e1, if_neg (by omega)]
    exact ih (j + 1) (by omega)
theorem dryF_yes {rate q tot : Int} {g : Nat → Int} {N k : Nat} (hk : k < N) (h : camF rate ((q + (k : Int)) + 1) tot < sumF g (k + 1)) : ∀ (n j : Nat), j + n = N → j ≤ k → dryF rate q tot g n (j : Int) (sumF g j) ≠ -1 := by
  intro n
  induction n with
  | zero => intro j h1 h2; omega
  | succ n ih =>
    intro j hj hjk
    have e1 : sumF g j + g (j : Int).toNat = sumF g (j + 1) := by rw [Int.toNat_natCast]; rfl
    rw [dryF_s, e1]
    by_cases q : camF rate ((q + (j : Int)) + 1) tot < sumF g (j + 1)
    · rw [if_pos q]
      omega
    · rw [if_neg q]
      by_cases e : j = k
      · subst e; exact absurd h q
      · exact ih (j + 1) (by omega) (by omega)
/-- by the least delay the buffer never runs dry, by one less it does -/
theorem dry_least {rate : Int} {g : Nat → Int} {t : Int} (hr : 1 ≤ rate ∧ rate ≤ 50) (ht : 0 ≤ t ∧ t ≤ 20) (hg : ∀ j : Nat, (j : Int) < t → 0 ≤ g j ∧ g j ≤ 99) : dryF rate (leastL rate g t.toNat) (sumF g t.toNat) g t.toNat 0 0 = -1 := by
  refine dryF_no (N := t.toNat) (fun k hk => ?_) t.toNat 0 (by omega)
  have h1 := leastL_ge (rate := rate) (g := g) t.toNat k hk
  have h2 := tck_lo (S := sumF g (k + 1)) hr.1
  have h3 : sumF g (k + 1) ≤ sumF g t.toNat := by
    have := sumF_mono hg (a := k + 1) (t.toNat - (k + 1)) (by omega)
    rw [show k + 1 + (t.toNat - (k + 1)) = t.toNat by omega] at this
    exact this
  unfold tckF at h1
  have h4 : rate * (((sumF g (k + 1) + rate) - 1) / rate) ≤ rate * ((leastL rate g t.toNat + (k : Int)) + 1) := Int.mul_le_mul_of_nonneg_left (by omega) (by omega)
  unfold camF
  split <;> omega
theorem dry_less {rate : Int} {g : Nat → Int} {t : Int} (hr : 1 ≤ rate ∧ rate ≤ 50) (ht : 0 ≤ t ∧ t ≤ 20) (hg : ∀ j : Nat, (j : Int) < t → 0 ≤ g j ∧ g j ≤ 99) (h0 : 0 < leastL rate g t.toNat) : dryF rate (leastL rate g t.toNat - 1) (sumF g t.toNat) g t.toNat 0 0 ≠ -1 := by
  rcases leastL_at (rate := rate) (g := g) t.toNat with h | ⟨k, hk, h⟩
  · omega
  · refine dryF_yes (N := t.toNat) hk ?_ t.toNat 0 (by omega) (by omega)
    have h2 := tck_hi (S := sumF g (k + 1)) hr.1
    have e : (leastL rate g t.toNat - 1 + (k : Int)) + 1 = ((sumF g (k + 1) + rate) - 1) / rate - 1 := by
      rw [h]
      unfold tckF
      omega
    rw [e]
    unfold camF
    split <;> omega
theorem dryF_bd {rate q tot : Int} {g : Nat → Int} {N : Nat} (hN : N ≤ 20) : ∀ (n j : Nat) (y : Int), j + n = N → -1 ≤ dryF rate q tot g n (j : Int) y ∧ dryF rate q tot g n (j : Int) y ≤ 20 := by
  intro n
  induction n with
  | zero => intro j y _; rw [dryF_0]; omega
  | succ n ih =>
    intro j y hj
    rw [dryF_s]
    have h := ih (j + 1) (y + g (j : Int).toNat) (by omega)
    split
    · omega
    · exact h
theorem peakL_b {rate q tot : Int} {g : Nat → Int} {t : Int} (hr : 1 ≤ rate ∧ rate ≤ 50) (hq : 0 ≤ q ∧ q ≤ 2000) (htot : 0 ≤ tot) (hg : ∀ j : Nat, (j : Int) < t → 0 ≤ g j ∧ g j ≤ 99) (ht : t ≤ 20) : ∀ k : Nat, (k : Int) ≤ t → 0 ≤ peakL rate q tot g k ∧ peakL rate q tot g k ≤ 105000 := by
  intro k
  induction k with
  | zero => intro _; show (0 : Int) ≤ 0 ∧ (0 : Int) ≤ 105000; omega
  | succ k ih =>
    intro h
    have h1 := ih (by omega)
    have h2 := sumF_b hg k (by omega)
    have h3 := camF_b (x := (q + (k : Int)) + 1) hr (by omega) htot
    rw [peakL_s]
    split <;> omega
theorem peakL_i {rate q tot : Int} {g : Nat → Int} {t j : Int} (hr : 1 ≤ rate ∧ rate ≤ 50) (hq : 0 ≤ q ∧ q ≤ 2000) (htot : 0 ≤ tot) (hg : ∀ j : Nat, (j : Int) < t → 0 ≤ g j ∧ g j ≤ 99) (ht : t ≤ 20) (hj : 0 ≤ j ∧ j ≤ t) : 0 ≤ peakL rate q tot g j.toNat ∧ peakL rate q tot g j.toNat ≤ 105000 := peakL_b hr hq htot hg ht j.toNat (by omega)

set_option maxHeartbeats 4000000 in
set_option maxRecDepth 100000 in
theorem c_X0_sumOfSizes (l : Launch) (D : va_G) (gi gc gr : ClassId) (b : Nat) (r : Nat) (a : Nat) (rate : Int) (t : Int) (g : Nat → Int) (hr : 1 ≤ rate ∧ rate ≤ 50) (ht : 0 ≤ t ∧ t ≤ 20) (hg : ∀ j : Nat, (j : Int) < t → 0 ≤ g j ∧ g j ≤ 99) : Met l yX0_sumOfSizes wsX0_sumOfSizes { frames := 1, cells := 0, slots := 0, locals := 21 } (zPr D gi gc gr [(b, .inr (0, [.ref r, .int (iI rate)])), (r, .inr (3, [.ref a, .int (iI t)])), (a, aI gi 20 g)] [.ref b]) (vp_Si (fun v => v = iI (sumF g t.toNat))) 0 0 (fun _ => False) := by
  refine zt_metRi (own := RX0) (cc := cX0_sumOfSizes) (maxL := 3) (by decide) rfl rfl (Nat.le_of_ble_eq_true rfl) ?_
  intro p e s m args below meth c Q C hK hP hQ ls hl
  have hx := C.1
  have hb := C.2.1
  have hml := C.2.2.1
  have hown := C.2.2.2.1
  have hts := C.2.2.2.2
  have i0 : ∀ w ∈ u_ws RX0 TX0 2, w ∈ wsX0_sumOfSizes := by decide +kernel
  have f14 := hts (.fieldLink RX0 14 "Threetwo$Buffer" "sizes" "LThreetwo$Row;") (by decide +kernel)
  have hl : lv_has ls 3 [(0, .ref b)] := hl
  refine lv_iconst (v := iI (0)) hx hb dX0_sumOfSizes_0 (by decide +kernel) ?_
  refine lv_istore_n (lv' := [(1, .int (iI 0)), (0, .ref b)]) hx hb dX0_sumOfSizes_1 rfl hl (by decide) rfl (fun ls hl => ?_)
  refine lv_iconst (v := iI (0)) hx hb dX0_sumOfSizes_2 (by decide +kernel) ?_
  refine lv_istore_n (lv' := [(2, .int (iI 0)), (1, .int (iI 0)), (0, .ref b)]) hx hb dX0_sumOfSizes_3 rfl hl (by decide) rfl (fun ls hl => ?_)
  have loop_4 : ∀ (n_4 : Nat) (y : Int) (j : Int) (hj : 0 ≤ j ∧ j ≤ t) (hy : y = sumF g j.toNat) (hm_4 : t - j < (n_4 : Int)) (ls : Array Slot) (hl : lv_has ls 3 [(0, .ref b), (1, .int (iI y)), (2, .int (iI j))]), W p l e { frames := 1, cells := 0, slots := 0, locals := 21 } s m args below meth c s.heap [] 0 0 Q (F0 m 4 ls []) := by
    intro n_4
    induction n_4 with
    | zero => intro y j hj hy hm_4 ls hl; exact absurd hm_4 (by omega)
    | succ n_4 ih_4 =>
      intro y j hj hy hm_4 ls hl
      refine lv_iload_n hx hb dX0_sumOfSizes_4 rfl (lv_at hl 2 rfl) ?_
      refine lv_aload_n hx hb dX0_sumOfSizes_5 rfl (lv_at hl 0 rfl) ?_
      refine va_get (D := D) (ci := 0) (v := .ref r) (C := RX0) (T := TX0) (N := 2) hx hb hts i0 hown hK.1 hP 0 rfl rfl 0 (by decide) f14 (fun _ h9 => h9) rfl dX0_sumOfSizes_6 ?_
      refine zt_callV C (As := []) (rest := [.int (iI j)]) (c_X4_many l D gi gc gr r a t) (cwV 0 hts gX0_sumOfSizes_X4_many rfl rfl rfl (by decide +kernel) ⟨Nat.le_of_ble_eq_true rfl, Nat.le_of_ble_eq_true rfl⟩) (zt_preV hK (hP.sub (ws' := [(r, .inr (3, [.ref a, .int (iI t)]))]) [1] rfl) [] 0 rfl rfl) rfl hl.1 rfl (Nat.le_of_ble_eq_true rfl) dX0_sumOfSizes_9 ⟨Nat.le_of_ble_eq_true rfl, Nat.le_of_ble_eq_true rfl⟩ (fun r_1 hr_1 => ?_)
      obtain rfl := hr_1
      refine zt_icmp_ge (tgt := 32) hx hb dX0_sumOfSizes_12 (by decide) (by omega) (fun c_2 => ?_) (fun c_2 => ?_)
      · refine lv_iload_n hx hb dX0_sumOfSizes_32 rfl (lv_at hl 1 rfl) ?_
        exact hQ _ _ _ (by rw [hy, show j = t by omega]) dX0_sumOfSizes_33
      · refine lv_iload_n hx hb dX0_sumOfSizes_15 rfl (lv_at hl 1 rfl) ?_
        refine lv_aload_n hx hb dX0_sumOfSizes_16 rfl (lv_at hl 0 rfl) ?_
        refine va_get (D := D) (ci := 0) (v := .ref r) (C := RX0) (T := TX0) (N := 2) hx hb hts i0 hown hK.1 hP 0 rfl rfl 0 (by decide) f14 (fun _ h9 => h9) rfl dX0_sumOfSizes_17 ?_
        refine lv_iload_n hx hb dX0_sumOfSizes_20 rfl (lv_at hl 2 rfl) ?_
        refine zt_callV C (As := [.int (iI j)]) (rest := [.int (iI y)]) (c_X4_at l D gi gc gr r a 20 t g j (by first | omega | assumption) (by first | omega | assumption) (by first | omega | assumption)) (cwV 1 hts gX0_sumOfSizes_X4_at rfl rfl rfl (by decide +kernel) ⟨Nat.le_of_ble_eq_true rfl, Nat.le_of_ble_eq_true rfl⟩) (zt_preV hK (hP.sub (ws' := [(r, .inr (3, [.ref a, .int (iI t)])), (a, aI gi 20 g)]) [1, 2] rfl) [.int (iI j)] 0 rfl rfl) rfl hl.1 rfl (Nat.le_of_ble_eq_true rfl) dX0_sumOfSizes_21 ⟨Nat.le_of_ble_eq_true rfl, Nat.le_of_ble_eq_true rfl⟩ (fun r_3 hr_3 => ?_)
        obtain rfl := hr_3
        refine zt_iadd hx hb dX0_sumOfSizes_24 ?_
        refine lv_istore_n (lv' := [(1, .int (iI (y + (g j.toNat)))), (0, .ref b), (2, .int (iI j))]) hx hb dX0_sumOfSizes_25 rfl hl (by decide) rfl (fun ls hl => ?_)
        refine lv_iinc (v := iI (j + 1)) (lv' := [(2, .int (iI (j + 1))), (1, .int (iI (y + (g j.toNat)))), (0, .ref b)]) hx hb dX0_sumOfSizes_26 hl (k := 2) rfl (iI_add _ _) (by decide) rfl (fun ls hl => ?_)
        refine lv_goto (tgt := 4) hx hb dX0_sumOfSizes_29 (by decide) ?_
        exact ih_4 (y + (g j.toNat)) (j + 1) (by omega) (by rw [hy, show (j + 1).toNat = j.toNat + 1 by omega]; rfl) (by omega) ls (lv_sub hl [2, 1, 0] rfl)
  exact loop_4 ((t - 0).toNat + 1) 0 0 (by omega) (rfl) (by omega) ls (lv_sub hl [2, 1, 0] rfl)
set_option maxHeartbeats 4000000 in
set_option maxRecDepth 100000 in
theorem c_X0_cameIn (l : Launch) (D : va_G) (gi gc gr : ClassId) (b : Nat) (r : Nat) (rate : Int) (x : Int) (tot : Int) (hr : 1 ≤ rate ∧ rate ≤ 50) (hx1 : 0 ≤ x ∧ x ≤ 2100) (htot : 0 ≤ tot ∧ tot ≤ 10000) : Met l yX0_cameIn wsX0_cameIn { frames := 1, cells := 0, slots := 0, locals := 21 } (zPr D gi gc gr [(b, .inr (0, [.ref r, .int (iI rate)]))] [.ref b, .int (iI x), .int (iI tot)]) (vp_Si (fun v => v = iI (camF rate x tot))) 0 0 (fun _ => False) := by
  refine zt_metRi (own := RX0) (cc := cX0_cameIn) (maxL := 3) (by decide) rfl rfl (Nat.le_of_ble_eq_true rfl) ?_
  intro p e s m args below meth c Q C hK hP hQ ls hl
  have hx := C.1
  have hb := C.2.1
  have hml := C.2.2.1
  have hown := C.2.2.2.1
  have hts := C.2.2.2.2
  have i0 : ∀ w ∈ u_ws RX0 TX0 2, w ∈ wsX0_cameIn := by decide +kernel
  have f20 := hts (.fieldLink RX0 20 "Threetwo$Buffer" "rateNow" "I") (by decide +kernel)
  have hl : lv_has ls 3 [(0, .ref b), (1, .int (iI x)), (2, .int (iI tot))] := hl
  have hm := zt_mulb hr hx1
  refine lv_aload_n hx hb dX0_cameIn_0 rfl (lv_at hl 0 rfl) ?_
  refine va_get (D := D) (ci := 0) (v := .int (iI rate)) (C := RX0) (T := TX0) (N := 2) hx hb hts i0 hown hK.1 hP 0 rfl rfl 1 (by decide) f20 (fun _ h9 => h9) rfl dX0_cameIn_1 ?_
  refine lv_iload_n hx hb dX0_cameIn_4 rfl (lv_at hl 1 rfl) ?_
  refine zt_imul hx hb dX0_cameIn_5 ?_
  refine lv_iload_n hx hb dX0_cameIn_6 rfl (lv_at hl 2 rfl) ?_
  refine zt_mmin hx hb (hml.trans hl.1.symm) hown (hts (.methodLink RX0 47 Lib.Math.min.name) (by decide +kernel)) (hts (.static Lib.Math.min.name) (by decide +kernel)) (hts (.initialized "java/lang/Math") (by decide +kernel)) (hts (.code Lib.Math.min.name Lib.Math.min.code 2 (some .int)) (by decide +kernel)) (Nat.le_of_ble_eq_true rfl) (Nat.le_of_ble_eq_true rfl) (Nat.le_of_ble_eq_true rfl) (Nat.le_of_ble_eq_true rfl) (by omega) dX0_cameIn_7 (fun m_1 em_1 => ?_)
  exact hQ _ _ _ (congrArg iI em_1) dX0_cameIn_10
set_option maxHeartbeats 4000000 in
set_option maxRecDepth 100000 in
theorem c_X0_firstDry (l : Launch) (D : va_G) (gi gc gr : ClassId) (b : Nat) (r : Nat) (a : Nat) (rate : Int) (t : Int) (g : Nat → Int) (q : Int) (hr : 1 ≤ rate ∧ rate ≤ 50) (ht : 0 ≤ t ∧ t ≤ 20) (hg : ∀ j : Nat, (j : Int) < t → 0 ≤ g j ∧ g j ≤ 99) (hq : 0 ≤ q ∧ q ≤ 2000) : Met l yX0_firstDry wsX0_firstDry { frames := 2, cells := 0, slots := 0, locals := 43 } (zPr D gi gc gr [(b, .inr (0, [.ref r, .int (iI rate)])), (r, .inr (3, [.ref a, .int (iI t)])), (a, aI gi 20 g)] [.ref b, .int (iI q)]) (vp_Si (fun v => v = iI (dryF rate q (sumF g t.toNat) g t.toNat 0 0))) 0 0 (fun _ => False) := by
  refine zt_metRi (own := RX0) (cc := cX0_firstDry) (maxL := 5) (by decide) rfl rfl (Nat.le_of_ble_eq_true rfl) ?_
  intro p e s m args below meth c Q C hK hP hQ ls hl
  have hx := C.1
  have hb := C.2.1
  have hml := C.2.2.1
  have hown := C.2.2.2.1
  have hts := C.2.2.2.2
  have i0 : ∀ w ∈ u_ws RX0 TX0 2, w ∈ wsX0_firstDry := by decide +kernel
  have f14 := hts (.fieldLink RX0 14 "Threetwo$Buffer" "sizes" "LThreetwo$Row;") (by decide +kernel)
  have hl : lv_has ls 5 [(0, .ref b), (1, .int (iI q))] := hl
  have hS := sumF_i hg (j := t) (by omega)
  refine lv_aload_n hx hb dX0_firstDry_0 rfl (lv_at hl 0 rfl) ?_
  refine zt_callV C (As := []) (rest := []) (c_X0_sumOfSizes l D gi gc gr b r a rate t g (by first | omega | assumption) (by first | omega | assumption) (by first | omega | assumption)) (cwV 0 hts gX0_firstDry_X0_sumOfSizes rfl rfl rfl (by decide +kernel) ⟨Nat.le_of_ble_eq_true rfl, Nat.le_of_ble_eq_true rfl⟩) (zt_preV hK (hP.sub (ws' := [(b, .inr (0, [.ref r, .int (iI rate)])), (r, .inr (3, [.ref a, .int (iI t)])), (a, aI gi 20 g)]) [0, 1, 2] rfl) [] 0 rfl rfl) rfl hl.1 rfl (Nat.le_of_ble_eq_true rfl) dX0_firstDry_1 ⟨Nat.le_of_ble_eq_true rfl, Nat.le_of_ble_eq_true rfl⟩ (fun r_1 hr_1 => ?_)
  obtain rfl := hr_1
  refine lv_istore_n (lv' := [(2, .int (iI (sumF g t.toNat))), (0, .ref b), (1, .int (iI q))]) hx hb dX0_firstDry_4 rfl hl (by decide) rfl (fun ls hl => ?_)
  refine lv_iconst (v := iI (0)) hx hb dX0_firstDry_5 (by decide +kernel) ?_
  refine lv_istore_n (lv' := [(3, .int (iI 0)), (2, .int (iI (sumF g t.toNat))), (0, .ref b), (1, .int (iI q))]) hx hb dX0_firstDry_6 rfl hl (by decide) rfl (fun ls hl => ?_)
  refine lv_iconst (v := iI (0)) hx hb dX0_firstDry_7 (by decide +kernel) ?_
  refine lv_istore (lv' := [(4, .int (iI 0)), (3, .int (iI 0)), (2, .int (iI (sumF g t.toNat))), (0, .ref b), (1, .int (iI q))]) hx hb dX0_firstDry_8 hl (by decide) rfl (fun ls hl => ?_)
  have loop_10 : ∀ (n_10 : Nat) (y : Int) (j : Int) (hj : 0 ≤ j ∧ j ≤ t) (hy : y = sumF g j.toNat) (hf : dryF rate q (sumF g t.toNat) g t.toNat 0 0 = dryF rate q (sumF g t.toNat) g (t - j).toNat j y) (hm_10 : t - j < (n_10 : Int)) (ls : Array Slot) (hl : lv_has ls 5 [(0, .ref b), (1, .int (iI q)), (2, .int (iI (sumF g t.toNat))), (3, .int (iI y)), (4, .int (iI j))]), W p l e { frames := 2, cells := 0, slots := 0, locals := 43 } s m args below meth c s.heap [] 0 0 Q (F0 m 10 ls []) := by
    intro n_10
    induction n_10 with
    | zero => intro y j hj hy hf hm_10 ls hl; exact absurd hm_10 (by omega)
    | succ n_10 ih_10 =>
      intro y j hj hy hf hm_10 ls hl
      refine lv_iload hx hb dX0_firstDry_10 (lv_at hl 4 rfl) ?_
      refine lv_aload_n hx hb dX0_firstDry_12 rfl (lv_at hl 0 rfl) ?_
      refine va_get (D := D) (ci := 0) (v := .ref r) (C := RX0) (T := TX0) (N := 2) hx hb hts i0 hown hK.1 hP 0 rfl rfl 0 (by decide) f14 (fun _ h9 => h9) rfl dX0_firstDry_13 ?_
      refine zt_callV C (As := []) (rest := [.int (iI j)]) (c_X4_many l D gi gc gr r a t) (cwV 0 hts gX0_firstDry_X4_many rfl rfl rfl (by decide +kernel) ⟨Nat.le_of_ble_eq_true rfl, Nat.le_of_ble_eq_true rfl⟩) (zt_preV hK (hP.sub (ws' := [(r, .inr (3, [.ref a, .int (iI t)]))]) [1] rfl) [] 0 rfl rfl) rfl hl.1 rfl (Nat.le_of_ble_eq_true rfl) dX0_firstDry_16 ⟨Nat.le_of_ble_eq_true rfl, Nat.le_of_ble_eq_true rfl⟩ (fun r_2 hr_2 => ?_)
      obtain rfl := hr_2
      refine zt_icmp_ge (tgt := 58) hx hb dX0_firstDry_19 (by decide) (by omega) (fun c_3 => ?_) (fun c_3 => ?_)
      · refine lv_iconst (v := iI (-1)) hx hb dX0_firstDry_58 (by decide +kernel) ?_
        exact hQ _ _ _ (congrArg iI (by rw [hf, show (t - j).toNat = 0 by omega]; rfl)) dX0_firstDry_59
      · have hs1 := sumF_i hg (j := j) (by omega)
        have hgj := hg j.toNat (by omega)
        have hcb := camF_b (rate := rate) (x := (q + j) + 1) (tot := sumF g t.toNat) hr (by omega) (by omega)
        refine lv_iload_n hx hb dX0_firstDry_22 rfl (lv_at hl 3 rfl) ?_
        refine lv_aload_n hx hb dX0_firstDry_23 rfl (lv_at hl 0 rfl) ?_
        refine va_get (D := D) (ci := 0) (v := .ref r) (C := RX0) (T := TX0) (N := 2) hx hb hts i0 hown hK.1 hP 0 rfl rfl 0 (by decide) f14 (fun _ h9 => h9) rfl dX0_firstDry_24 ?_
        refine lv_iload hx hb dX0_firstDry_27 (lv_at hl 4 rfl) ?_
        refine zt_callV C (As := [.int (iI j)]) (rest := [.int (iI y)]) (c_X4_at l D gi gc gr r a 20 t g j (by first | omega | assumption) (by first | omega | assumption) (by first | omega | assumption)) (cwV 1 hts gX0_firstDry_X4_at rfl rfl rfl (by decide +kernel) ⟨Nat.le_of_ble_eq_true rfl, Nat.le_of_ble_eq_true rfl⟩) (zt_preV hK (hP.sub (ws' := [(r, .inr (3, [.ref a, .int (iI t)])), (a, aI gi 20 g)]) [1, 2] rfl) [.int (iI j)] 0 rfl rfl) rfl hl.1 rfl (Nat.le_of_ble_eq_true rfl) dX0_firstDry_29 ⟨Nat.le_of_ble_eq_true rfl, Nat.le_of_ble_eq_true rfl⟩ (fun r_4 hr_4 => ?_)
        obtain rfl := hr_4
        refine zt_iadd hx hb dX0_firstDry_32 ?_
        refine lv_istore_n (lv' := [(3, .int (iI (y + (g j.toNat)))), (0, .ref b), (1, .int (iI q)), (2, .int (iI (sumF g t.toNat))), (4, .int (iI j))]) hx hb dX0_firstDry_33 rfl hl (by decide) rfl (fun ls hl => ?_)
        refine lv_aload_n hx hb dX0_firstDry_34 rfl (lv_at hl 1 rfl) ?_
        refine lv_iload_n hx hb dX0_firstDry_35 rfl (lv_at hl 2 rfl) ?_
        refine lv_iload hx hb dX0_firstDry_36 (lv_at hl 4 rfl) ?_
        refine zt_iadd hx hb dX0_firstDry_38 ?_
        refine lv_iconst (v := iI (1)) hx hb dX0_firstDry_39 (by decide +kernel) ?_
        refine zt_iadd hx hb dX0_firstDry_40 ?_
        refine lv_iload_n hx hb dX0_firstDry_41 rfl (lv_at hl 3 rfl) ?_
        refine zt_callV C (As := [.int (iI ((q + j) + 1)), .int (iI (sumF g t.toNat))]) (rest := []) (c_X0_cameIn l D gi gc gr b r rate ((q + j) + 1) (sumF g t.toNat) (by first | omega | assumption) (by first | omega | assumption) (by first | omega | assumption)) (cwV 2 hts gX0_firstDry_X0_cameIn rfl rfl rfl (by decide +kernel) ⟨Nat.le_of_ble_eq_true rfl, Nat.le_of_ble_eq_true rfl⟩) (zt_preV hK (hP.sub (ws' := [(b, .inr (0, [.ref r, .int (iI rate)]))]) [0] rfl) [.int (iI ((q + j) + 1)), .int (iI (sumF g t.toNat))] 0 rfl rfl) rfl hl.1 rfl (Nat.le_of_ble_eq_true rfl) dX0_firstDry_42 ⟨Nat.le_of_ble_eq_true rfl, Nat.le_of_ble_eq_true rfl⟩ (fun r_5 hr_5 => ?_)
        obtain rfl := hr_5
        refine lv_iload_n hx hb dX0_firstDry_45 rfl (lv_at hl 0 rfl) ?_
        refine zt_icmp_ge (tgt := 52) hx hb dX0_firstDry_46 (by decide) (by omega) (fun c_6 => ?_) (fun c_6 => ?_)
        · refine lv_iinc (v := iI (j + 1)) (lv' := [(4, .int (iI (j + 1))), (3, .int (iI (y + (g j.toNat)))), (0, .ref b), (1, .int (iI q)), (2, .int (iI (sumF g t.toNat)))]) hx hb dX0_firstDry_52 hl (k := 4) rfl (iI_add _ _) (by decide) rfl (fun ls hl => ?_)
          refine lv_goto (tgt := 10) hx hb dX0_firstDry_55 (by decide) ?_
          exact ih_10 (y + (g j.toNat)) (j + 1) (by omega) (by rw [hy, show (j + 1).toNat = j.toNat + 1 by omega]; rfl) (by rw [hf, show (t - j).toNat = (t - (j + 1)).toNat + 1 by omega]; rw [dryF_s, if_neg (by omega)]) (by omega) ls (lv_sub hl [2, 3, 4, 1, 0] rfl)
        · refine lv_iload hx hb dX0_firstDry_49 (lv_at hl 4 rfl) ?_
          exact hQ _ _ _ (congrArg iI (by rw [hf, show (t - j).toNat = (t - (j + 1)).toNat + 1 by omega]; rw [dryF_s, if_pos (by omega)])) dX0_firstDry_51
  exact loop_10 ((t - 0).toNat + 1) 0 0 (by omega) (rfl) (by rw [show t - 0 = t by omega]) (by omega) ls (lv_sub hl [3, 4, 2, 1, 0] rfl)
set_option maxHeartbeats 4000000 in
set_option maxRecDepth 100000 in
theorem c_X0_leastDelay (l : Launch) (D : va_G) (gi gc gr : ClassId) (b : Nat) (r : Nat) (a : Nat) (rate : Int) (t : Int) (g : Nat → Int) (hr : 1 ≤ rate ∧ rate ≤ 50) (ht : 0 ≤ t ∧ t ≤ 20) (hg : ∀ j : Nat, (j : Int) < t → 0 ≤ g j ∧ g j ≤ 99) : Met l yX0_leastDelay wsX0_leastDelay { frames := 1, cells := 0, slots := 0, locals := 21 } (zPr D gi gc gr [(b, .inr (0, [.ref r, .int (iI rate)])), (r, .inr (3, [.ref a, .int (iI t)])), (a, aI gi 20 g)] [.ref b]) (vp_Si (fun v => v = iI (leastL rate g t.toNat))) 0 0 (fun _ => False) := by
  refine zt_metRi (own := RX0) (cc := cX0_leastDelay) (maxL := 5) (by decide) rfl rfl (Nat.le_of_ble_eq_true rfl) ?_
  intro p e s m args below meth c Q C hK hP hQ ls hl
  have hx := C.1
  have hb := C.2.1
  have hml := C.2.2.1
  have hown := C.2.2.2.1
  have hts := C.2.2.2.2
  have i0 : ∀ w ∈ u_ws RX0 TX0 2, w ∈ wsX0_leastDelay := by decide +kernel
  have f14 := hts (.fieldLink RX0 14 "Threetwo$Buffer" "sizes" "LThreetwo$Row;") (by decide +kernel)
  have f20 := hts (.fieldLink RX0 20 "Threetwo$Buffer" "rateNow" "I") (by decide +kernel)
  have hl : lv_has ls 5 [(0, .ref b)] := hl
  refine lv_iconst (v := iI (0)) hx hb dX0_leastDelay_0 (by decide +kernel) ?_
  refine lv_istore_n (lv' := [(1, .int (iI 0)), (0, .ref b)]) hx hb dX0_leastDelay_1 rfl hl (by decide) rfl (fun ls hl => ?_)
  refine lv_iconst (v := iI (0)) hx hb dX0_leastDelay_2 (by decide +kernel) ?_
  refine lv_istore_n (lv' := [(2, .int (iI 0)), (1, .int (iI 0)), (0, .ref b)]) hx hb dX0_leastDelay_3 rfl hl (by decide) rfl (fun ls hl => ?_)
  refine lv_iconst (v := iI (0)) hx hb dX0_leastDelay_4 (by decide +kernel) ?_
  refine lv_istore_n (lv' := [(3, .int (iI 0)), (2, .int (iI 0)), (1, .int (iI 0)), (0, .ref b)]) hx hb dX0_leastDelay_5 rfl hl (by decide) rfl (fun ls hl => ?_)
  have loop_6 : ∀ (n_6 : Nat) (x : Int) (y : Int) (j : Int) (hj : 0 ≤ j ∧ j ≤ t) (hy : y = sumF g j.toNat) (hx1 : x = leastL rate g j.toNat) (hm_6 : t - j < (n_6 : Int)) (ls : Array Slot) (hl : lv_has ls 5 [(0, .ref b), (1, .int (iI x)), (2, .int (iI y)), (3, .int (iI j))]), W p l e { frames := 1, cells := 0, slots := 0, locals := 21 } s m args below meth c s.heap [] 0 0 Q (F0 m 6 ls []) := by
    intro n_6
    induction n_6 with
    | zero => intro x y j hj hy hx1 hm_6 ls hl; exact absurd hm_6 (by omega)
    | succ n_6 ih_6 =>
      intro x y j hj hy hx1 hm_6 ls hl
      refine lv_iload_n hx hb dX0_leastDelay_6 rfl (lv_at hl 3 rfl) ?_
      refine lv_aload_n hx hb dX0_leastDelay_7 rfl (lv_at hl 0 rfl) ?_
      refine va_get (D := D) (ci := 0) (v := .ref r) (C := RX0) (T := TX0) (N := 2) hx hb hts i0 hown hK.1 hP 0 rfl rfl 0 (by decide) f14 (fun _ h9 => h9) rfl dX0_leastDelay_8 ?_
      refine zt_callV C (As := []) (rest := [.int (iI j)]) (c_X4_many l D gi gc gr r a t) (cwV 0 hts gX0_leastDelay_X4_many rfl rfl rfl (by decide +kernel) ⟨Nat.le_of_ble_eq_true rfl, Nat.le_of_ble_eq_true rfl⟩) (zt_preV hK (hP.sub (ws' := [(r, .inr (3, [.ref a, .int (iI t)]))]) [1] rfl) [] 0 rfl rfl) rfl hl.1 rfl (Nat.le_of_ble_eq_true rfl) dX0_leastDelay_11 ⟨Nat.le_of_ble_eq_true rfl, Nat.le_of_ble_eq_true rfl⟩ (fun r_1 hr_1 => ?_)
      obtain rfl := hr_1
      refine zt_icmp_ge (tgt := 64) hx hb dX0_leastDelay_14 (by decide) (by omega) (fun c_2 => ?_) (fun c_2 => ?_)
      · refine lv_iload_n hx hb dX0_leastDelay_64 rfl (lv_at hl 1 rfl) ?_
        exact hQ _ _ _ (by rw [hx1, show j = t by omega]) dX0_leastDelay_65
      · have hs1 := sumF_i hg (j := j) (by omega)
        have hgj := hg j.toNat (by omega)
        have hl1 := leastL_i hr hg (j := j) (by omega)
        refine lv_iload_n hx hb dX0_leastDelay_17 rfl (lv_at hl 2 rfl) ?_
        refine lv_aload_n hx hb dX0_leastDelay_18 rfl (lv_at hl 0 rfl) ?_
        refine va_get (D := D) (ci := 0) (v := .ref r) (C := RX0) (T := TX0) (N := 2) hx hb hts i0 hown hK.1 hP 0 rfl rfl 0 (by decide) f14 (fun _ h9 => h9) rfl dX0_leastDelay_19 ?_
        refine lv_iload_n hx hb dX0_leastDelay_22 rfl (lv_at hl 3 rfl) ?_
        refine zt_callV C (As := [.int (iI j)]) (rest := [.int (iI y)]) (c_X4_at l D gi gc gr r a 20 t g j (by first | omega | assumption) (by first | omega | assumption) (by first | omega | assumption)) (cwV 1 hts gX0_leastDelay_X4_at rfl rfl rfl (by decide +kernel) ⟨Nat.le_of_ble_eq_true rfl, Nat.le_of_ble_eq_true rfl⟩) (zt_preV hK (hP.sub (ws' := [(r, .inr (3, [.ref a, .int (iI t)])), (a, aI gi 20 g)]) [1, 2] rfl) [.int (iI j)] 0 rfl rfl) rfl hl.1 rfl (Nat.le_of_ble_eq_true rfl) dX0_leastDelay_23 ⟨Nat.le_of_ble_eq_true rfl, Nat.le_of_ble_eq_true rfl⟩ (fun r_3 hr_3 => ?_)
        obtain rfl := hr_3
        refine zt_iadd hx hb dX0_leastDelay_26 ?_
        refine lv_istore_n (lv' := [(2, .int (iI (y + (g j.toNat)))), (0, .ref b), (1, .int (iI x)), (3, .int (iI j))]) hx hb dX0_leastDelay_27 rfl hl (by decide) rfl (fun ls hl => ?_)
        refine lv_iload_n hx hb dX0_leastDelay_28 rfl (lv_at hl 0 rfl) ?_
        refine lv_aload_n hx hb dX0_leastDelay_29 rfl (lv_at hl 1 rfl) ?_
        refine va_get (D := D) (ci := 0) (v := .int (iI rate)) (C := RX0) (T := TX0) (N := 2) hx hb hts i0 hown hK.1 hP 0 rfl rfl 1 (by decide) f20 (fun _ h9 => h9) rfl dX0_leastDelay_30 ?_
        refine zt_iadd hx hb dX0_leastDelay_33 ?_
        refine lv_iconst (v := iI (1)) hx hb dX0_leastDelay_34 (by decide +kernel) ?_
        refine zt_isub hx hb dX0_leastDelay_35 ?_
        refine lv_aload_n hx hb dX0_leastDelay_36 rfl (lv_at hl 1 rfl) ?_
        refine va_get (D := D) (ci := 0) (v := .int (iI rate)) (C := RX0) (T := TX0) (N := 2) hx hb hts i0 hown hK.1 hP 0 rfl rfl 1 (by decide) f20 (fun _ h9 => h9) rfl dX0_leastDelay_37 ?_
        refine lv_iconst (v := iI (1)) hx hb dX0_leastDelay_40 (by decide +kernel) ?_
        refine zt_mmax hx hb (hml.trans hl.1.symm) hown (hts (.methodLink RX0 39 Lib.Math.max.name) (by decide +kernel)) (hts (.static Lib.Math.max.name) (by decide +kernel)) (hts (.initialized "java/lang/Math") (by decide +kernel)) (hts (.code Lib.Math.max.name Lib.Math.max.code 2 (some .int)) (by decide +kernel)) (Nat.le_of_ble_eq_true rfl) (Nat.le_of_ble_eq_true rfl) (Nat.le_of_ble_eq_true rfl) (Nat.le_of_ble_eq_true rfl) (by omega) dX0_leastDelay_41 (fun m_4 em_4 => ?_)
        obtain rfl : rate = m_4 := by rw [em_4, if_neg (by omega)]
        refine zt_idiv hx hb dX0_leastDelay_44 (by omega) ?_
        have htb := tck_b (rate := rate) (S := y + g j.toNat) hr.1 (by omega)
        refine lv_istore (lv' := [(4, .int (iI ((((y + (g j.toNat)) + rate) - 1) / rate))), (2, .int (iI (y + (g j.toNat)))), (0, .ref b), (1, .int (iI x)), (3, .int (iI j))]) hx hb dX0_leastDelay_45 hl (by decide) rfl (fun ls hl => ?_)
        refine lv_iload_n hx hb dX0_leastDelay_47 rfl (lv_at hl 3 rfl) ?_
        refine lv_iload hx hb dX0_leastDelay_48 (lv_at hl 0 rfl) ?_
        refine lv_iload_n hx hb dX0_leastDelay_50 rfl (lv_at hl 4 rfl) ?_
        refine lv_iconst (v := iI (1)) hx hb dX0_leastDelay_51 (by decide +kernel) ?_
        refine zt_iadd hx hb dX0_leastDelay_52 ?_
        refine zt_isub hx hb dX0_leastDelay_53 ?_
        refine zt_mmax hx hb (hml.trans hl.1.symm) hown (hts (.methodLink RX0 39 Lib.Math.max.name) (by decide +kernel)) (hts (.static Lib.Math.max.name) (by decide +kernel)) (hts (.initialized "java/lang/Math") (by decide +kernel)) (hts (.code Lib.Math.max.name Lib.Math.max.code 2 (some .int)) (by decide +kernel)) (Nat.le_of_ble_eq_true rfl) (Nat.le_of_ble_eq_true rfl) (Nat.le_of_ble_eq_true rfl) (Nat.le_of_ble_eq_true rfl) (by omega) dX0_leastDelay_54 (fun m_5 em_5 => ?_)
        refine lv_istore_n (lv' := [(1, .int (iI m_5)), (4, .int (iI ((((y + (g j.toNat)) + rate) - 1) / rate))), (2, .int (iI (y + (g j.toNat)))), (0, .ref b), (3, .int (iI j))]) hx hb dX0_leastDelay_57 rfl hl (by decide) rfl (fun ls hl => ?_)
        refine lv_iinc (v := iI (j + 1)) (lv' := [(3, .int (iI (j + 1))), (1, .int (iI m_5)), (4, .int (iI ((((y + (g j.toNat)) + rate) - 1) / rate))), (2, .int (iI (y + (g j.toNat)))), (0, .ref b)]) hx hb dX0_leastDelay_58 hl (k := 4) rfl (iI_add _ _) (by decide) rfl (fun ls hl => ?_)
        refine lv_goto (tgt := 6) hx hb dX0_leastDelay_61 (by decide) ?_
        exact ih_6 m_5 (y + (g j.toNat)) (j + 1) (by omega) (by rw [hy, show (j + 1).toNat = j.toNat + 1 by omega]; rfl) (by rw [em_5, hx1, hy, show (j + 1).toNat = j.toNat + 1 by omega]; rw [leastL_s]; unfold tckF; rw [show ((j.toNat : Nat) : Int) = j by omega]; rfl) (by omega) ls (lv_sub hl [4, 1, 3, 0] rfl)
  exact loop_6 ((t - 0).toNat + 1) 0 0 0 (by omega) (rfl) (rfl) (by omega) ls (lv_sub hl [3, 2, 1, 0] rfl)
set_option maxHeartbeats 4000000 in
set_option maxRecDepth 100000 in
theorem c_X0_peak (l : Launch) (D : va_G) (gi gc gr : ClassId) (b : Nat) (r : Nat) (a : Nat) (rate : Int) (t : Int) (g : Nat → Int) (hr : 1 ≤ rate ∧ rate ≤ 50) (ht : 0 ≤ t ∧ t ≤ 20) (hg : ∀ j : Nat, (j : Int) < t → 0 ≤ g j ∧ g j ≤ 99) : Met l yX0_peak wsX0_peak { frames := 2, cells := 0, slots := 0, locals := 45 } (zPr D gi gc gr [(b, .inr (0, [.ref r, .int (iI rate)])), (r, .inr (3, [.ref a, .int (iI t)])), (a, aI gi 20 g)] [.ref b]) (vp_Si (fun v => v = iI (peakL rate (leastL rate g t.toNat) (sumF g t.toNat) g t.toNat))) 0 0 (fun _ => False) := by
  refine zt_metRi (own := RX0) (cc := cX0_peak) (maxL := 6) (by decide) rfl rfl (Nat.le_of_ble_eq_true rfl) ?_
  intro p e s m args below meth c Q C hK hP hQ ls hl
  have hx := C.1
  have hb := C.2.1
  have hml := C.2.2.1
  have hown := C.2.2.2.1
  have hts := C.2.2.2.2
  have i0 : ∀ w ∈ u_ws RX0 TX0 2, w ∈ wsX0_peak := by decide +kernel
  have f14 := hts (.fieldLink RX0 14 "Threetwo$Buffer" "sizes" "LThreetwo$Row;") (by decide +kernel)
  have hl : lv_has ls 6 [(0, .ref b)] := hl
  have hS := sumF_i hg (j := t) (by omega)
  have hL := leastL_i hr hg (j := t) (by omega)
  refine lv_aload_n hx hb dX0_peak_0 rfl (lv_at hl 0 rfl) ?_
  refine zt_callV C (As := []) (rest := []) (c_X0_leastDelay l D gi gc gr b r a rate t g (by first | omega | assumption) (by first | omega | assumption) (by first | omega | assumption)) (cwV 0 hts gX0_peak_X0_leastDelay rfl rfl rfl (by decide +kernel) ⟨Nat.le_of_ble_eq_true rfl, Nat.le_of_ble_eq_true rfl⟩) (zt_preV hK (hP.sub (ws' := [(b, .inr (0, [.ref r, .int (iI rate)])), (r, .inr (3, [.ref a, .int (iI t)])), (a, aI gi 20 g)]) [0, 1, 2] rfl) [] 0 rfl rfl) rfl hl.1 rfl (Nat.le_of_ble_eq_true rfl) dX0_peak_1 ⟨Nat.le_of_ble_eq_true rfl, Nat.le_of_ble_eq_true rfl⟩ (fun r_1 hr_1 => ?_)
  obtain rfl := hr_1
  refine lv_istore_n (lv' := [(1, .int (iI (leastL rate g t.toNat))), (0, .ref b)]) hx hb dX0_peak_4 rfl hl (by decide) rfl (fun ls hl => ?_)
  refine lv_aload_n hx hb dX0_peak_5 rfl (lv_at hl 1 rfl) ?_
  refine zt_callV C (As := []) (rest := []) (c_X0_sumOfSizes l D gi gc gr b r a rate t g (by first | omega | assumption) (by first | omega | assumption) (by first | omega | assumption)) (cwV 0 hts gX0_peak_X0_sumOfSizes rfl rfl rfl (by decide +kernel) ⟨Nat.le_of_ble_eq_true rfl, Nat.le_of_ble_eq_true rfl⟩) (zt_preV hK (hP.sub (ws' := [(b, .inr (0, [.ref r, .int (iI rate)])), (r, .inr (3, [.ref a, .int (iI t)])), (a, aI gi 20 g)]) [0, 1, 2] rfl) [] 0 rfl rfl) rfl hl.1 rfl (Nat.le_of_ble_eq_true rfl) dX0_peak_6 ⟨Nat.le_of_ble_eq_true rfl, Nat.le_of_ble_eq_true rfl⟩ (fun r_2 hr_2 => ?_)
  obtain rfl := hr_2
  refine lv_istore_n (lv' := [(2, .int (iI (sumF g t.toNat))), (1, .int (iI (leastL rate g t.toNat))), (0, .ref b)]) hx hb dX0_peak_9 rfl hl (by decide) rfl (fun ls hl => ?_)
  refine lv_iconst (v := iI (0)) hx hb dX0_peak_10 (by decide +kernel) ?_
  refine lv_istore_n (lv' := [(3, .int (iI 0)), (2, .int (iI (sumF g t.toNat))), (1, .int (iI (leastL rate g t.toNat))), (0, .ref b)]) hx hb dX0_peak_11 rfl hl (by decide) rfl (fun ls hl => ?_)
  refine lv_iconst (v := iI (0)) hx hb dX0_peak_12 (by decide +kernel) ?_
  refine lv_istore (lv' := [(4, .int (iI 0)), (3, .int (iI 0)), (2, .int (iI (sumF g t.toNat))), (1, .int (iI (leastL rate g t.toNat))), (0, .ref b)]) hx hb dX0_peak_13 hl (by decide) rfl (fun ls hl => ?_)
  refine lv_iconst (v := iI (0)) hx hb dX0_peak_15 (by decide +kernel) ?_
  refine lv_istore (lv' := [(5, .int (iI 0)), (4, .int (iI 0)), (3, .int (iI 0)), (2, .int (iI (sumF g t.toNat))), (1, .int (iI (leastL rate g t.toNat))), (0, .ref b)]) hx hb dX0_peak_16 hl (by decide) rfl (fun ls hl => ?_)
  have loop_18 : ∀ (n_18 : Nat) (x : Int) (y : Int) (j : Int) (hj : 0 ≤ j ∧ j ≤ t) (hy : y = sumF g j.toNat) (hx1 : x = peakL rate (leastL rate g t.toNat) (sumF g t.toNat) g j.toNat) (hm_18 : t - j < (n_18 : Int)) (ls : Array Slot) (hl : lv_has ls 6 [(0, .ref b), (1, .int (iI (leastL rate g t.toNat))), (2, .int (iI (sumF g t.toNat))), (3, .int (iI x)), (4, .int (iI y)), (5, .int (iI j))]), W p l e { frames := 2, cells := 0, slots := 0, locals := 45 } s m args below meth c s.heap [] 0 0 Q (F0 m 18 ls []) := by
    intro n_18
    induction n_18 with
    | zero => intro x y j hj hy hx1 hm_18 ls hl; exact absurd hm_18 (by omega)
    | succ n_18 ih_18 =>
      intro x y j hj hy hx1 hm_18 ls hl
      refine lv_iload hx hb dX0_peak_18 (lv_at hl 5 rfl) ?_
      refine lv_aload_n hx hb dX0_peak_20 rfl (lv_at hl 0 rfl) ?_
      refine va_get (D := D) (ci := 0) (v := .ref r) (C := RX0) (T := TX0) (N := 2) hx hb hts i0 hown hK.1 hP 0 rfl rfl 0 (by decide) f14 (fun _ h9 => h9) rfl dX0_peak_21 ?_
      refine zt_callV C (As := []) (rest := [.int (iI j)]) (c_X4_many l D gi gc gr r a t) (cwV 0 hts gX0_peak_X4_many rfl rfl rfl (by decide +kernel) ⟨Nat.le_of_ble_eq_true rfl, Nat.le_of_ble_eq_true rfl⟩) (zt_preV hK (hP.sub (ws' := [(r, .inr (3, [.ref a, .int (iI t)]))]) [1] rfl) [] 0 rfl rfl) rfl hl.1 rfl (Nat.le_of_ble_eq_true rfl) dX0_peak_24 ⟨Nat.le_of_ble_eq_true rfl, Nat.le_of_ble_eq_true rfl⟩ (fun r_3 hr_3 => ?_)
      obtain rfl := hr_3
      refine zt_icmp_ge (tgt := 69) hx hb dX0_peak_27 (by decide) (by omega) (fun c_4 => ?_) (fun c_4 => ?_)
      · refine lv_iload_n hx hb dX0_peak_69 rfl (lv_at hl 3 rfl) ?_
        exact hQ _ _ _ (by rw [hx1, show j = t by omega]) dX0_peak_70
      · have hs1 := sumF_i hg (j := j) (by omega)
        have hgj := hg j.toNat (by omega)
        have hcb := camF_b (rate := rate) (x := (leastL rate g t.toNat + j) + 1) (tot := sumF g t.toNat) hr (by omega) (by omega)
        have hpb := peakL_i (rate := rate) (q := leastL rate g t.toNat) (tot := sumF g t.toNat) hr (by omega) (by omega) hg ht.2 (j := j) (by omega)
        refine lv_iload_n hx hb dX0_peak_30 rfl (lv_at hl 3 rfl) ?_
        refine lv_aload_n hx hb dX0_peak_31 rfl (lv_at hl 0 rfl) ?_
        refine lv_iload_n hx hb dX0_peak_32 rfl (lv_at hl 1 rfl) ?_
        refine lv_iload hx hb dX0_peak_33 (lv_at hl 5 rfl) ?_
        refine zt_iadd hx hb dX0_peak_35 ?_
        refine lv_iconst (v := iI (1)) hx hb dX0_peak_36 (by decide +kernel) ?_
        refine zt_iadd hx hb dX0_peak_37 ?_
        refine lv_iload_n hx hb dX0_peak_38 rfl (lv_at hl 2 rfl) ?_
        refine zt_callV C (As := [.int (iI (((leastL rate g t.toNat) + j) + 1)), .int (iI (sumF g t.toNat))]) (rest := [.int (iI x)]) (c_X0_cameIn l D gi gc gr b r rate (((leastL rate g t.toNat) + j) + 1) (sumF g t.toNat) (by first | omega | assumption) (by first | omega | assumption) (by first | omega | assumption)) (cwV 2 hts gX0_peak_X0_cameIn rfl rfl rfl (by decide +kernel) ⟨Nat.le_of_ble_eq_true rfl, Nat.le_of_ble_eq_true rfl⟩) (zt_preV hK (hP.sub (ws' := [(b, .inr (0, [.ref r, .int (iI rate)]))]) [0] rfl) [.int (iI (((leastL rate g t.toNat) + j) + 1)), .int (iI (sumF g t.toNat))] 0 rfl rfl) rfl hl.1 rfl (Nat.le_of_ble_eq_true rfl) dX0_peak_39 ⟨Nat.le_of_ble_eq_true rfl, Nat.le_of_ble_eq_true rfl⟩ (fun r_5 hr_5 => ?_)
        obtain rfl := hr_5
        refine lv_iload hx hb dX0_peak_42 (lv_at hl 4 rfl) ?_
        refine zt_isub hx hb dX0_peak_44 ?_
        refine zt_mmax hx hb (hml.trans hl.1.symm) hown (hts (.methodLink RX0 39 Lib.Math.max.name) (by decide +kernel)) (hts (.static Lib.Math.max.name) (by decide +kernel)) (hts (.initialized "java/lang/Math") (by decide +kernel)) (hts (.code Lib.Math.max.name Lib.Math.max.code 2 (some .int)) (by decide +kernel)) (Nat.le_of_ble_eq_true rfl) (Nat.le_of_ble_eq_true rfl) (Nat.le_of_ble_eq_true rfl) (Nat.le_of_ble_eq_true rfl) (by omega) dX0_peak_45 (fun m_6 em_6 => ?_)
        refine lv_istore_n (lv' := [(3, .int (iI m_6)), (0, .ref b), (1, .int (iI (leastL rate g t.toNat))), (2, .int (iI (sumF g t.toNat))), (4, .int (iI y)), (5, .int (iI j))]) hx hb dX0_peak_48 rfl hl (by decide) rfl (fun ls hl => ?_)
        refine lv_iload hx hb dX0_peak_49 (lv_at hl 4 rfl) ?_
        refine lv_aload_n hx hb dX0_peak_51 rfl (lv_at hl 1 rfl) ?_
        refine va_get (D := D) (ci := 0) (v := .ref r) (C := RX0) (T := TX0) (N := 2) hx hb hts i0 hown hK.1 hP 0 rfl rfl 0 (by decide) f14 (fun _ h9 => h9) rfl dX0_peak_52 ?_
        refine lv_iload hx hb dX0_peak_55 (lv_at hl 5 rfl) ?_
        refine zt_callV C (As := [.int (iI j)]) (rest := [.int (iI y)]) (c_X4_at l D gi gc gr r a 20 t g j (by first | omega | assumption) (by first | omega | assumption) (by first | omega | assumption)) (cwV 1 hts gX0_peak_X4_at rfl rfl rfl (by decide +kernel) ⟨Nat.le_of_ble_eq_true rfl, Nat.le_of_ble_eq_true rfl⟩) (zt_preV hK (hP.sub (ws' := [(r, .inr (3, [.ref a, .int (iI t)])), (a, aI gi 20 g)]) [1, 2] rfl) [.int (iI j)] 0 rfl rfl) rfl hl.1 rfl (Nat.le_of_ble_eq_true rfl) dX0_peak_57 ⟨Nat.le_of_ble_eq_true rfl, Nat.le_of_ble_eq_true rfl⟩ (fun r_7 hr_7 => ?_)
        obtain rfl := hr_7
        refine zt_iadd hx hb dX0_peak_60 ?_
        refine lv_istore (lv' := [(4, .int (iI (y + (g j.toNat)))), (3, .int (iI m_6)), (0, .ref b), (1, .int (iI (leastL rate g t.toNat))), (2, .int (iI (sumF g t.toNat))), (5, .int (iI j))]) hx hb dX0_peak_61 hl (by decide) rfl (fun ls hl => ?_)
        refine lv_iinc (v := iI (j + 1)) (lv' := [(5, .int (iI (j + 1))), (4, .int (iI (y + (g j.toNat)))), (3, .int (iI m_6)), (0, .ref b), (1, .int (iI (leastL rate g t.toNat))), (2, .int (iI (sumF g t.toNat)))]) hx hb dX0_peak_63 hl (k := 5) rfl (iI_add _ _) (by decide) rfl (fun ls hl => ?_)
        refine lv_goto (tgt := 18) hx hb dX0_peak_66 (by decide) ?_
        exact ih_18 m_6 (y + (g j.toNat)) (j + 1) (by omega) (by rw [hy, show (j + 1).toNat = j.toNat + 1 by omega]; rfl) (by rw [em_6, hx1, hy, show (j + 1).toNat = j.toNat + 1 by omega]; rw [peakL_s]; rw [show ((j.toNat : Nat) : Int) = j by omega]) (by omega) ls (lv_sub hl [3, 4, 5, 2, 1, 0] rfl)
  exact loop_18 ((t - 0).toNat + 1) 0 0 0 (by omega) (rfl) (rfl) (by omega) ls (lv_sub hl [5, 4, 3, 2, 1, 0] rfl)
end
section
/-! ===== the rhythm: what is needed of it: the found frames cover the fields, one behind the other ===== -/
def Cov (F j : Int) (fi le : Nat → Int) : Prop := ((F = 0 ∧ j = 0) ∨ (0 < F ∧ F ≤ j ∧ fi 0 = 0 ∧ fi (F - 1).toNat + le (F - 1).toNat = j)) ∧ (∀ k : Nat, (k : Int) + 1 < F → fi (k + 1) = fi k + le k) ∧ ∀ k : Nat, (k : Int) < F → 0 ≤ fi k ∧ 1 ≤ le k ∧ fi k + le k ≤ j
theorem Cov_0 (fi le : Nat → Int) : Cov 0 0 fi le := ⟨Or.inl ⟨rfl, rfl⟩, fun k h => absurd h (by omega), fun k h => absurd h (by omega)⟩
theorem Cov_new {F j : Int} {fi le : Nat → Int} (h : Cov F j fi le) (hj : 0 ≤ j) : Cov (F + 1) (j + 1) (uP fi F.toNat j) (uP le ((F + 1) - 1).toNat ((j - j) + 1)) := by
  obtain ⟨h1, h2, h3⟩ := h
  have hF : 0 ≤ F := by omega
  have e1 : ((F + 1) - 1).toNat = F.toNat := by rw [show (F + 1) - 1 = F by omega]
  rw [e1]
  refine ⟨Or.inr ⟨by omega, by omega, ?_, ?_⟩, fun k hk => ?_, fun k hk => ?_⟩
  · by_cases e : (0 : Nat) = F.toNat
    · rw [← e, uP_s]
      omega
    · rw [uP_n e]
      omega
  · rw [e1, uP_s, uP_s]
    omega
  · have e2 : k ≠ F.toNat := by omega
    rw [uP_n e2, uP_n e2]
    by_cases e : k + 1 = F.toNat
    · rw [e, uP_s]
      have e3 : (F - 1).toNat = k := by omega
      rw [e3] at h1
      omega
    · rw [uP_n e]
      exact h2 k (by omega)
  · by_cases e : k = F.toNat
    · rw [e, uP_s, uP_s]
      omega
    · rw [uP_n e, uP_n e]
      have := h3 k (by omega)
      omega
theorem Cov_more {F j st : Int} {fi le : Nat → Int} (h : Cov F j fi le) (hF : 0 < F) (hst : st = fi (F - 1).toNat) : Cov F (j + 1) fi (uP le (F - 1).toNat ((j - st) + 1)) := by
  obtain ⟨h1, h2, h3⟩ := h
  refine ⟨Or.inr ⟨hF, by omega, by omega, ?_⟩, fun k hk => ?_, fun k hk => ?_⟩
  · rw [uP_s]
    omega
  · rw [uP_n (show k ≠ (F - 1).toNat by omega)]
    exact h2 k hk
  · have h4 := h3 k hk
    by_cases e : k = (F - 1).toNat
    · rw [e, uP_s]
      rw [e] at h4
      omega
    · rw [uP_n e]
      omega
theorem uP_all {g : Nat → Int} {lo hi j z : Int} (hj : 0 ≤ j) (h : ∀ k : Nat, (k : Int) < j → lo ≤ g k ∧ g k < hi) (hz : lo ≤ z ∧ z < hi) : ∀ k : Nat, (k : Int) < j + 1 → lo ≤ uP g j.toNat z k ∧ uP g j.toNat z k < hi := by
  intro k hk
  by_cases e : k = j.toNat
  · rw [e, uP_s]
    exact hz
  · rw [uP_n e]
    exact h k (by omega)

set_option maxHeartbeats 4000000 in
set_option maxRecDepth 100000 in
theorem c_X3_forget (l : Launch) (D : va_G) (gi gc gr : ClassId) (sz : Nat) (o : Nat) (q1 : Nat) (q2 : Nat) (q3 : Nat) (q4 : Nat) (q5 : Nat) (q6 : Nat) (cst : Int) (F : Int) (kn : Int) : Met l yX3_forget wsX3_forget { frames := 0, cells := 0, slots := 0, locals := 0 } (zPw D gi gc gr [(o, .inr (2, [.ref q1, .ref q2, .ref q3, .ref q4, .ref q5, .ref q6, .int (iI cst), .int (iI F), .int (iI kn)]))] sz [.ref o]) (va_Qv (S := Unit) (fun _ => True) (zB D (va_A [(o, .inr (2, [.ref q1, .ref q2, .ref q3, .ref q4, .ref q5, .ref q6, .int (iI cst), .int (iI F), .int (iI kn)]))] sz) (fun _ => [(o, .inr (2, [.ref q1, .ref q2, .ref q3, .ref q4, .ref q5, .ref q6, .int (iI cst), .int (iI F), .int (iI 0)]))])) (va_A [(o, .inr (2, [.ref q1, .ref q2, .ref q3, .ref q4, .ref q5, .ref q6, .int (iI cst), .int (iI F), .int (iI kn)]))] sz)) 0 0 (va_A [(o, .inr (2, [.ref q1, .ref q2, .ref q3, .ref q4, .ref q5, .ref q6, .int (iI cst), .int (iI F), .int (iI kn)]))] sz) := by
  refine zt_metWv (own := RX3) (cc := cX3_forget) (maxL := 1) (by decide) rfl rfl (Nat.le_of_ble_eq_true rfl) ?_
  intro p e s m args below meth c Q A C hK hP hD hS hA _ hQ ls hl
  have hx := C.1
  have hb := C.2.1
  have hml := C.2.2.1
  have hown := C.2.2.2.1
  have hts := C.2.2.2.2
  have i3 : ∀ w ∈ u_ws RX3 TX3 9, w ∈ wsX3_forget := by decide +kernel
  have f37 := hts (.fieldLink RX3 37 "Threetwo$Rhythm" "known" "Z") (by decide +kernel)
  have hl : lv_has ls 1 [(0, .ref o)] := hl
  refine lv_aload_n hx hb dX3_forget_0 rfl (lv_at hl 0 rfl) ?_
  refine lv_iconst (v := iI (0)) hx hb dX3_forget_1 (by decide +kernel) ?_
  refine va_put (D := D) (ci := 2) (v := .int (iI 0)) (ty := .boolean) (C := RX3) (T := TX3) (N := 9) hx hb hts i3 tyX3 tyX3_ok nmX3 hown hK.1 hP hD hS 0 rfl rfl 8 (by decide) f37 (fun _ h9 => h9) rfl (by decide +kernel) rfl rfl (Nat.le_of_ble_eq_true rfl) dX3_forget_2 (fun H locs hP hD hS => ?_)
  have hP : va_P D vwCl [(o, .inr (2, [.ref q1, .ref q2, .ref q3, .ref q4, .ref q5, .ref q6, .int (iI cst), .int (iI F), .int (iI 0)]))] H := hP
  have hD : va_D A [(o, .inr (2, [.ref q1, .ref q2, .ref q3, .ref q4, .ref q5, .ref q6, .int (iI cst), .int (iI F), .int (iI 0)]))] := hD
  exact hQ () _ _ _ _ (by trivial) hP hD hS dX3_forget_5
set_option maxHeartbeats 4000000 in
set_option maxRecDepth 100000 in
theorem c_X3_step (l : Launch) (D : va_G) (gi gc gr : ClassId) (x1 : Int) (x2 : Int) (al : Int) (ch : Int) (h1 : 0 ≤ x1 ∧ x1 < 5) (h2 : 0 ≤ x2 ∧ x2 < 5) (hal : al = 0 ∨ al = 1) : Met l yX3_step wsX3_step { frames := 0, cells := 0, slots := 0, locals := 0 } (zPr D gi gc gr [] [.int (iI x1), .int (iI x2), .int (iI al), .int (iI ch)]) (vp_Si (fun v => ∃ z : Int, v = iI z ∧ True)) 0 0 (fun _ => False) := by
  refine zt_metRi (own := RX3) (cc := cX3_step) (maxL := 4) (by decide) rfl rfl (Nat.le_of_ble_eq_true rfl) ?_
  intro p e s m args below meth c Q C hK hP hQ ls hl
  have hx := C.1
  have hb := C.2.1
  have hml := C.2.2.1
  have hown := C.2.2.2.1
  have hts := C.2.2.2.2
  have hl : lv_has ls 4 [(0, .int (iI x1)), (1, .int (iI x2)), (2, .int (iI al)), (3, .int (iI ch))] := hl
  refine lv_iload_n hx hb dX3_step_0 rfl (lv_at hl 1 rfl) ?_
  refine lv_iload_n hx hb dX3_step_1 rfl (lv_at hl 0 rfl) ?_
  refine lv_iconst (v := iI (1)) hx hb dX3_step_2 (by decide +kernel) ?_
  refine zt_iadd hx hb dX3_step_3 ?_
  refine lv_iconst (v := iI (5)) hx hb dX3_step_4 (by decide +kernel) ?_
  refine zt_irem hx hb dX3_step_5 (by omega) ?_
  refine zt_icmp_eq (tgt := 11) hx hb dX3_step_6 (by decide) (by omega) (fun c_1 => ?_) (fun c_1 => ?_)
  · refine lv_iload_n hx hb dX3_step_11 rfl (lv_at hl 1 rfl) ?_
    refine zt_if_eq (tgt := 20) hx hb dX3_step_12 (by decide) (by omega) (fun c_2 => ?_) (fun c_2 => ?_)
    · refine lv_iload_n hx hb dX3_step_20 rfl (lv_at hl 2 rfl) ?_
      refine zt_if_eq (tgt := 28) hx hb dX3_step_21 (by decide) (by omega) (fun c_3 => ?_) (fun c_3 => ?_)
      · refine lv_iconst (v := iI (0)) hx hb dX3_step_28 (by decide +kernel) ?_
        exact hQ _ _ _ (⟨_, rfl, trivial⟩) dX3_step_29
      · refine lv_iconst (v := iI (1)) hx hb dX3_step_24 (by decide +kernel) ?_
        refine lv_goto (tgt := 29) hx hb dX3_step_25 (by decide) ?_
        exact hQ _ _ _ (⟨_, rfl, trivial⟩) dX3_step_29
    · refine lv_iload_n hx hb dX3_step_15 rfl (lv_at hl 1 rfl) ?_
      refine lv_iconst (v := iI (2)) hx hb dX3_step_16 (by decide +kernel) ?_
      refine zt_icmp_ne (tgt := 30) hx hb dX3_step_17 (by decide) (by omega) (fun c_4 => ?_) (fun c_4 => ?_)
      · refine lv_iload_n hx hb dX3_step_30 rfl (lv_at hl 2 rfl) ?_
        refine zt_if_eq (tgt := 38) hx hb dX3_step_31 (by decide) (by omega) (fun c_5 => ?_) (fun c_5 => ?_)
        · refine lv_iconst (v := iI (3)) hx hb dX3_step_38 (by decide +kernel) ?_
          exact hQ _ _ _ (⟨_, rfl, trivial⟩) dX3_step_39
        · refine lv_iconst (v := iI (0)) hx hb dX3_step_34 (by decide +kernel) ?_
          refine lv_goto (tgt := 39) hx hb dX3_step_35 (by decide) ?_
          exact hQ _ _ _ (⟨_, rfl, trivial⟩) dX3_step_39
      · refine lv_iload_n hx hb dX3_step_20 rfl (lv_at hl 2 rfl) ?_
        refine zt_if_eq (tgt := 28) hx hb dX3_step_21 (by decide) (by omega) (fun c_6 => ?_) (fun c_6 => ?_)
        · refine lv_iconst (v := iI (0)) hx hb dX3_step_28 (by decide +kernel) ?_
          exact hQ _ _ _ (⟨_, rfl, trivial⟩) dX3_step_29
        · refine lv_iconst (v := iI (1)) hx hb dX3_step_24 (by decide +kernel) ?_
          refine lv_goto (tgt := 29) hx hb dX3_step_25 (by decide) ?_
          exact hQ _ _ _ (⟨_, rfl, trivial⟩) dX3_step_29
  · refine lv_iload_n hx hb dX3_step_9 rfl (lv_at hl 3 rfl) ?_
    exact hQ _ _ _ (⟨_, rfl, trivial⟩) dX3_step_10
set_option maxHeartbeats 4000000 in
set_option maxRecDepth 100000 in
theorem c_X3_bestFirst (l : Launch) (D : va_G) (gi gc gr : ClassId) (o : Nat) (q1 : Nat) (q2 : Nat) (q3 : Nat) (q4 : Nat) (q5 : Nat) (q6 : Nat) (cst : Int) (F : Int) (kn : Int) (bh : Nat → Int) : Met l yX3_bestFirst wsX3_bestFirst { frames := 0, cells := 0, slots := 0, locals := 0 } (zPr D gi gc gr [(o, .inr (2, [.ref q1, .ref q2, .ref q3, .ref q4, .ref q5, .ref q6, .int (iI cst), .int (iI F), .int (iI kn)])), (q1, aI gi 300 bh)] [.ref o]) (vp_Si (fun v => ∃ z : Int, v = iI z ∧ (0 ≤ z ∧ z < 5))) 0 0 (fun _ => False) := by
  refine zt_metRi (own := RX3) (cc := cX3_bestFirst) (maxL := 3) (by decide) rfl rfl (Nat.le_of_ble_eq_true rfl) ?_
  intro p e s m args below meth c Q C hK hP hQ ls hl
  have hx := C.1
  have hb := C.2.1
  have hml := C.2.2.1
  have hown := C.2.2.2.1
  have hts := C.2.2.2.2
  have i3 : ∀ w ∈ u_ws RX3 TX3 9, w ∈ wsX3_bestFirst := by decide +kernel
  have f11 := hts (.fieldLink RX3 11 "Threetwo$Rhythm" "behind" "[I") (by decide +kernel)
  have hl : lv_has ls 3 [(0, .ref o)] := hl
  refine lv_iconst (v := iI (0)) hx hb dX3_bestFirst_0 (by decide +kernel) ?_
  refine lv_istore_n (lv' := [(1, .int (iI 0)), (0, .ref o)]) hx hb dX3_bestFirst_1 rfl hl (by decide) rfl (fun ls hl => ?_)
  refine lv_iconst (v := iI (1)) hx hb dX3_bestFirst_2 (by decide +kernel) ?_
  refine lv_istore_n (lv' := [(2, .int (iI 1)), (1, .int (iI 0)), (0, .ref o)]) hx hb dX3_bestFirst_3 rfl hl (by decide) rfl (fun ls hl => ?_)
  have loop_4 : ∀ (n_4 : Nat) (x : Int) (y : Int) (hxy : (0 ≤ x ∧ x < 5) ∧ 1 ≤ y ∧ y ≤ 5) (hm_4 : 5 - y < (n_4 : Int)) (ls : Array Slot) (hl : lv_has ls 3 [(0, .ref o), (1, .int (iI x)), (2, .int (iI y))]), W p l e { frames := 0, cells := 0, slots := 0, locals := 0 } s m args below meth c s.heap [] 0 0 Q (F0 m 4 ls []) := by
    intro n_4
    induction n_4 with
    | zero => intro x y hxy hm_4 ls hl; exact absurd hm_4 (by omega)
    | succ n_4 ih_4 =>
      intro x y hxy hm_4 ls hl
      refine lv_iload_n hx hb dX3_bestFirst_4 rfl (lv_at hl 2 rfl) ?_
      refine lv_iconst (v := iI (5)) hx hb dX3_bestFirst_5 (by decide +kernel) ?_
      refine zt_icmp_ge (tgt := 32) hx hb dX3_bestFirst_6 (by decide) (by omega) (fun c_1 => ?_) (fun c_1 => ?_)
      · refine lv_iload_n hx hb dX3_bestFirst_32 rfl (lv_at hl 1 rfl) ?_
        exact hQ _ _ _ (⟨_, rfl, by omega⟩) dX3_bestFirst_33
      · refine lv_aload_n hx hb dX3_bestFirst_9 rfl (lv_at hl 0 rfl) ?_
        refine va_get (D := D) (ci := 2) (v := .ref q1) (C := RX3) (T := TX3) (N := 9) hx hb hts i3 hown hK.1 hP 0 rfl rfl 0 (by decide) f11 (fun _ h9 => h9) rfl dX3_bestFirst_10 ?_
        refine lv_iload_n hx hb dX3_bestFirst_13 rfl (lv_at hl 2 rfl) ?_
        refine zt_iald hx hb hK.1 hP 1 0 rfl rfl (by omega) (by omega) dX3_bestFirst_14 ?_
        refine lv_aload_n hx hb dX3_bestFirst_15 rfl (lv_at hl 0 rfl) ?_
        refine va_get (D := D) (ci := 2) (v := .ref q1) (C := RX3) (T := TX3) (N := 9) hx hb hts i3 hown hK.1 hP 0 rfl rfl 0 (by decide) f11 (fun _ h9 => h9) rfl dX3_bestFirst_16 ?_
        refine lv_iload_n hx hb dX3_bestFirst_19 rfl (lv_at hl 1 rfl) ?_
        refine zt_iald hx hb hK.1 hP 1 0 rfl rfl (by omega) (by omega) dX3_bestFirst_20 ?_
        refine lv_icmp_ge (tgt := 26) hx hb dX3_bestFirst_21 (by decide) (fun c_2 => ?_) (fun c_2 => ?_)
        · refine lv_iinc (v := iI (y + 1)) (lv' := [(2, .int (iI (y + 1))), (0, .ref o), (1, .int (iI x))]) hx hb dX3_bestFirst_26 hl (k := 2) rfl (iI_add _ _) (by decide) rfl (fun ls hl => ?_)
          refine lv_goto (tgt := 4) hx hb dX3_bestFirst_29 (by decide) ?_
          exact ih_4 x (y + 1) (by omega) (by omega) ls (lv_sub hl [1, 2, 0] rfl)
        · refine lv_iload_n hx hb dX3_bestFirst_24 rfl (lv_at hl 2 rfl) ?_
          refine lv_istore_n (lv' := [(1, .int (iI y)), (0, .ref o), (2, .int (iI y))]) hx hb dX3_bestFirst_25 rfl hl (by decide) rfl (fun ls hl => ?_)
          refine lv_iinc (v := iI (y + 1)) (lv' := [(2, .int (iI (y + 1))), (1, .int (iI y)), (0, .ref o)]) hx hb dX3_bestFirst_26 hl (k := 2) rfl (iI_add _ _) (by decide) rfl (fun ls hl => ?_)
          refine lv_goto (tgt := 4) hx hb dX3_bestFirst_29 (by decide) ?_
          exact ih_4 y (y + 1) (by omega) (by omega) ls (lv_sub hl [2, 1, 0] rfl)
  exact loop_4 ((5 - 1 : Int).toNat + 1) 0 1 (by omega) (by omega) ls (lv_sub hl [2, 1, 0] rfl)
set_option maxHeartbeats 4000000 in
set_option maxRecDepth 100000 in
theorem c_X3_bestNext (l : Launch) (D : va_G) (gi gc gr : ClassId) (o : Nat) (q1 : Nat) (q2 : Nat) (q3 : Nat) (q4 : Nat) (q5 : Nat) (q6 : Nat) (cst : Int) (F : Int) (kn : Int) (bh : Nat → Int) (f : Int) (x1 : Int) (al : Int) (ch : Int) (hf : 0 ≤ f ∧ f ≤ 58) (h1 : 0 ≤ x1 ∧ x1 < 5) (hal : al = 0 ∨ al = 1) : Met l yX3_bestNext wsX3_bestNext { frames := 1, cells := 0, slots := 0, locals := 23 } (zPr D gi gc gr [(o, .inr (2, [.ref q1, .ref q2, .ref q3, .ref q4, .ref q5, .ref q6, .int (iI cst), .int (iI F), .int (iI kn)])), (q1, aI gi 300 bh)] [.ref o, .int (iI f), .int (iI x1), .int (iI al), .int (iI ch)]) (vp_Si (fun v => ∃ z : Int, v = iI z ∧ (0 ≤ z ∧ z < 5))) 0 0 (fun _ => False) := by
  refine zt_metRi (own := RX3) (cc := cX3_bestNext) (maxL := 10) (by decide) rfl rfl (Nat.le_of_ble_eq_true rfl) ?_
  intro p e s m args below meth c Q C hK hP hQ ls hl
  have hx := C.1
  have hb := C.2.1
  have hml := C.2.2.1
  have hown := C.2.2.2.1
  have hts := C.2.2.2.2
  have i3 : ∀ w ∈ u_ws RX3 TX3 9, w ∈ wsX3_bestNext := by decide +kernel
  have f11 := hts (.fieldLink RX3 11 "Threetwo$Rhythm" "behind" "[I") (by decide +kernel)
  have hl : lv_has ls 10 [(0, .ref o), (1, .int (iI f)), (2, .int (iI x1)), (3, .int (iI al)), (4, .int (iI ch))] := hl
  refine lv_iload_n hx hb dX3_bestNext_0 rfl (lv_at hl 1 rfl) ?_
  refine lv_iconst (v := iI (1)) hx hb dX3_bestNext_1 (by decide +kernel) ?_
  refine zt_iadd hx hb dX3_bestNext_2 ?_
  refine lv_iconst (v := iI (5)) hx hb dX3_bestNext_3 (by decide +kernel) ?_
  refine zt_imul hx hb dX3_bestNext_4 ?_
  refine lv_istore (lv' := [(5, .int (iI ((f + 1) * 5))), (0, .ref o), (1, .int (iI f)), (2, .int (iI x1)), (3, .int (iI al)), (4, .int (iI ch))]) hx hb dX3_bestNext_5 hl (by decide) rfl (fun ls hl => ?_)
  refine lv_iconst (v := iI (0)) hx hb dX3_bestNext_7 (by decide +kernel) ?_
  refine lv_istore (lv' := [(6, .int (iI 0)), (5, .int (iI ((f + 1) * 5))), (0, .ref o), (1, .int (iI f)), (2, .int (iI x1)), (3, .int (iI al)), (4, .int (iI ch))]) hx hb dX3_bestNext_8 hl (by decide) rfl (fun ls hl => ?_)
  refine lv_iload_n hx hb dX3_bestNext_10 rfl (lv_at hl 4 rfl) ?_
  refine lv_iconst (v := iI (0)) hx hb dX3_bestNext_11 (by decide +kernel) ?_
  refine lv_iload_n hx hb dX3_bestNext_12 rfl (lv_at hl 5 rfl) ?_
  refine lv_iload hx hb dX3_bestNext_13 (lv_at hl 6 rfl) ?_
  refine zt_callS C (As := [.int (iI x1), .int (iI 0), .int (iI al), .int (iI ch)]) (rest := []) (c_X3_step l D gi gc gr x1 0 al ch (by first | omega | assumption) (by first | omega | assumption) (by first | omega | assumption)) (va_cwS 4 hts gX3_bestNext_X3_step rfl rfl rfl (by decide +kernel) ⟨Nat.le_of_ble_eq_true rfl, Nat.le_of_ble_eq_true rfl⟩) (zt_preS hK (hP.sub (ws' := []) [] rfl) [.int (iI x1), .int (iI 0), .int (iI al), .int (iI ch)]) rfl hl.1 rfl (Nat.le_of_ble_eq_true rfl) dX3_bestNext_15 ⟨Nat.le_of_ble_eq_true rfl, Nat.le_of_ble_eq_true rfl⟩ (fun r_1 hr_1 => ?_)
  obtain ⟨z_2, rfl, hz_2⟩ := hr_1
  refine lv_aload_n hx hb dX3_bestNext_18 rfl (lv_at hl 2 rfl) ?_
  refine va_get (D := D) (ci := 2) (v := .ref q1) (C := RX3) (T := TX3) (N := 9) hx hb hts i3 hown hK.1 hP 0 rfl rfl 0 (by decide) f11 (fun _ h9 => h9) rfl dX3_bestNext_19 ?_
  refine lv_iload hx hb dX3_bestNext_22 (lv_at hl 1 rfl) ?_
  refine zt_iald hx hb hK.1 hP 1 0 rfl rfl (by omega) (by omega) dX3_bestNext_24 ?_
  refine zt_iadd hx hb dX3_bestNext_25 ?_
  refine lv_istore (lv' := [(7, .int (iI (z_2 + (bh ((f + 1) * 5).toNat)))), (6, .int (iI 0)), (5, .int (iI ((f + 1) * 5))), (0, .ref o), (1, .int (iI f)), (2, .int (iI x1)), (3, .int (iI al)), (4, .int (iI ch))]) hx hb dX3_bestNext_26 hl (by decide) rfl (fun ls hl => ?_)
  refine lv_iconst (v := iI (1)) hx hb dX3_bestNext_28 (by decide +kernel) ?_
  refine lv_istore (lv' := [(8, .int (iI 1)), (7, .int (iI (z_2 + (bh ((f + 1) * 5).toNat)))), (6, .int (iI 0)), (5, .int (iI ((f + 1) * 5))), (0, .ref o), (1, .int (iI f)), (2, .int (iI x1)), (3, .int (iI al)), (4, .int (iI ch))]) hx hb dX3_bestNext_29 hl (by decide) rfl (fun ls hl => ?_)
  have loop_31 : ∀ (n_31 : Nat) (x : Int) (w : Int) (y : Int) (hxy : (0 ≤ x ∧ x < 5) ∧ 1 ≤ y ∧ y ≤ 5) (hm_31 : 5 - y < (n_31 : Int)) (ls : Array Slot) (hl : lv_has ls 10 [(0, .ref o), (1, .int (iI f)), (2, .int (iI x1)), (3, .int (iI al)), (4, .int (iI ch)), (5, .int (iI ((f + 1) * 5))), (6, .int (iI x)), (7, .int (iI w)), (8, .int (iI y))]), W p l e { frames := 1, cells := 0, slots := 0, locals := 23 } s m args below meth c s.heap [] 0 0 Q (F0 m 31 ls []) := by
    intro n_31
    induction n_31 with
    | zero => intro x w y hxy hm_31 ls hl; exact absurd hm_31 (by omega)
    | succ n_31 ih_31 =>
      intro x w y hxy hm_31 ls hl
      refine lv_iload hx hb dX3_bestNext_31 (lv_at hl 8 rfl) ?_
      refine lv_iconst (v := iI (5)) hx hb dX3_bestNext_33 (by decide +kernel) ?_
      refine zt_icmp_ge (tgt := 80) hx hb dX3_bestNext_34 (by decide) (by omega) (fun c_3 => ?_) (fun c_3 => ?_)
      · refine lv_iload hx hb dX3_bestNext_80 (lv_at hl 6 rfl) ?_
        exact hQ _ _ _ (⟨_, rfl, by omega⟩) dX3_bestNext_82
      · refine lv_iload_n hx hb dX3_bestNext_37 rfl (lv_at hl 2 rfl) ?_
        refine lv_iload hx hb dX3_bestNext_38 (lv_at hl 8 rfl) ?_
        refine lv_iload_n hx hb dX3_bestNext_40 rfl (lv_at hl 3 rfl) ?_
        refine lv_iload hx hb dX3_bestNext_41 (lv_at hl 4 rfl) ?_
        refine zt_callS C (As := [.int (iI x1), .int (iI y), .int (iI al), .int (iI ch)]) (rest := []) (c_X3_step l D gi gc gr x1 y al ch (by first | omega | assumption) (by first | omega | assumption) (by first | omega | assumption)) (va_cwS 4 hts gX3_bestNext_X3_step rfl rfl rfl (by decide +kernel) ⟨Nat.le_of_ble_eq_true rfl, Nat.le_of_ble_eq_true rfl⟩) (zt_preS hK (hP.sub (ws' := []) [] rfl) [.int (iI x1), .int (iI y), .int (iI al), .int (iI ch)]) rfl hl.1 rfl (Nat.le_of_ble_eq_true rfl) dX3_bestNext_43 ⟨Nat.le_of_ble_eq_true rfl, Nat.le_of_ble_eq_true rfl⟩ (fun r_4 hr_4 => ?_)
        obtain ⟨z_5, rfl, hz_5⟩ := hr_4
        refine lv_aload_n hx hb dX3_bestNext_46 rfl (lv_at hl 0 rfl) ?_
        refine va_get (D := D) (ci := 2) (v := .ref q1) (C := RX3) (T := TX3) (N := 9) hx hb hts i3 hown hK.1 hP 0 rfl rfl 0 (by decide) f11 (fun _ h9 => h9) rfl dX3_bestNext_47 ?_
        refine lv_iload hx hb dX3_bestNext_50 (lv_at hl 5 rfl) ?_
        refine lv_iload hx hb dX3_bestNext_52 (lv_at hl 8 rfl) ?_
        refine zt_iadd hx hb dX3_bestNext_54 ?_
        refine zt_iald hx hb hK.1 hP 1 0 rfl rfl (by omega) (by omega) dX3_bestNext_55 ?_
        refine zt_iadd hx hb dX3_bestNext_56 ?_
        refine lv_istore (lv' := [(9, .int (iI (z_5 + (bh (((f + 1) * 5) + y).toNat)))), (0, .ref o), (1, .int (iI f)), (2, .int (iI x1)), (3, .int (iI al)), (4, .int (iI ch)), (5, .int (iI ((f + 1) * 5))), (6, .int (iI x)), (7, .int (iI w)), (8, .int (iI y))]) hx hb dX3_bestNext_57 hl (by decide) rfl (fun ls hl => ?_)
        refine lv_iload hx hb dX3_bestNext_59 (lv_at hl 0 rfl) ?_
        refine lv_iload hx hb dX3_bestNext_61 (lv_at hl 8 rfl) ?_
        refine lv_icmp_ge (tgt := 74) hx hb dX3_bestNext_63 (by decide) (fun c_6 => ?_) (fun c_6 => ?_)
        · refine lv_iinc (v := iI (y + 1)) (lv' := [(8, .int (iI (y + 1))), (9, .int (iI (z_5 + (bh (((f + 1) * 5) + y).toNat)))), (0, .ref o), (1, .int (iI f)), (2, .int (iI x1)), (3, .int (iI al)), (4, .int (iI ch)), (5, .int (iI ((f + 1) * 5))), (6, .int (iI x)), (7, .int (iI w))]) hx hb dX3_bestNext_74 hl (k := 9) rfl (iI_add _ _) (by decide) rfl (fun ls hl => ?_)
          refine lv_goto (tgt := 31) hx hb dX3_bestNext_77 (by decide) ?_
          exact ih_31 x w (y + 1) (by omega) (by omega) ls (lv_sub hl [2, 3, 4, 5, 6, 7, 8, 9, 0] rfl)
        · refine lv_iload hx hb dX3_bestNext_66 (lv_at hl 9 rfl) ?_
          refine lv_istore (lv' := [(6, .int (iI y)), (9, .int (iI (z_5 + (bh (((f + 1) * 5) + y).toNat)))), (0, .ref o), (1, .int (iI f)), (2, .int (iI x1)), (3, .int (iI al)), (4, .int (iI ch)), (5, .int (iI ((f + 1) * 5))), (7, .int (iI w)), (8, .int (iI y))]) hx hb dX3_bestNext_68 hl (by decide) rfl (fun ls hl => ?_)
          refine lv_iload hx hb dX3_bestNext_70 (lv_at hl 1 rfl) ?_
          refine lv_istore (lv' := [(7, .int (iI (z_5 + (bh (((f + 1) * 5) + y).toNat)))), (6, .int (iI y)), (9, .int (iI (z_5 + (bh (((f + 1) * 5) + y).toNat)))), (0, .ref o), (1, .int (iI f)), (2, .int (iI x1)), (3, .int (iI al)), (4, .int (iI ch)), (5, .int (iI ((f + 1) * 5))), (8, .int (iI y))]) hx hb dX3_bestNext_72 hl (by decide) rfl (fun ls hl => ?_)
          refine lv_iinc (v := iI (y + 1)) (lv' := [(8, .int (iI (y + 1))), (7, .int (iI (z_5 + (bh (((f + 1) * 5) + y).toNat)))), (6, .int (iI y)), (9, .int (iI (z_5 + (bh (((f + 1) * 5) + y).toNat)))), (0, .ref o), (1, .int (iI f)), (2, .int (iI x1)), (3, .int (iI al)), (4, .int (iI ch)), (5, .int (iI ((f + 1) * 5)))]) hx hb dX3_bestNext_74 hl (k := 9) rfl (iI_add _ _) (by decide) rfl (fun ls hl => ?_)
          refine lv_goto (tgt := 31) hx hb dX3_bestNext_77 (by decide) ?_
          exact ih_31 y (z_5 + (bh (((f + 1) * 5) + y).toNat)) (y + 1) (by omega) (by omega) ls (lv_sub hl [4, 5, 6, 7, 8, 9, 2, 1, 0] rfl)
  exact loop_31 ((5 - 1 : Int).toNat + 1) 0 (z_2 + (bh ((f + 1) * 5).toNat)) 1 (by omega) (by omega) ls (lv_sub hl [4, 5, 6, 7, 8, 3, 2, 1, 0] rfl)
set_option maxHeartbeats 16000000 in
set_option maxRecDepth 100000 in
theorem c_X3_leastCost (l : Launch) (D : va_G) (gi gc gr : ClassId) (sz : Nat) (o : Nat) (q1 : Nat) (q2 : Nat) (q3 : Nat) (q4 : Nat) (q5 : Nat) (q6 : Nat) (cst : Int) (F : Int) (kn : Int) (bh : Nat → Int) (r : Nat) (a : Nat) (t : Int) (g : Nat → Int) (ch : Int) (ht : 0 ≤ t ∧ t ≤ 60) : Met l yX3_leastCost wsX3_leastCost { frames := 2, cells := 0, slots := 0, locals := 52 } (zPw D gi gc gr [(o, .inr (2, [.ref q1, .ref q2, .ref q3, .ref q4, .ref q5, .ref q6, .int (iI cst), .int (iI F), .int (iI kn)])), (q1, aI gi 300 bh), (r, .inr (3, [.ref a, .int (iI t)])), (a, aI gi 60 g)] sz [.ref o, .ref r, .int (iI ch)]) (va_Qi (S := Nat → Int) (fun v _ => ∃ z : Int, v = iI z) (zB D (va_A [(o, .inr (2, [.ref q1, .ref q2, .ref q3, .ref q4, .ref q5, .ref q6, .int (iI cst), .int (iI F), .int (iI kn)])), (q1, aI gi 300 bh), (r, .inr (3, [.ref a, .int (iI t)])), (a, aI gi 60 g)] sz) (fun u => [(o, .inr (2, [.ref q1, .ref q2, .ref q3, .ref q4, .ref q5, .ref q6, .int (iI cst), .int (iI F), .int (iI kn)])), (q1, aI gi 300 u), (r, .inr (3, [.ref a, .int (iI t)])), (a, aI gi 60 g)])) (va_A [(o, .inr (2, [.ref q1, .ref q2, .ref q3, .ref q4, .ref q5, .ref q6, .int (iI cst), .int (iI F), .int (iI kn)])), (q1, aI gi 300 bh), (r, .inr (3, [.ref a, .int (iI t)])), (a, aI gi 60 g)] sz)) 0 0 (va_A [(o, .inr (2, [.ref q1, .ref q2, .ref q3, .ref q4, .ref q5, .ref q6, .int (iI cst), .int (iI F), .int (iI kn)])), (q1, aI gi 300 bh), (r, .inr (3, [.ref a, .int (iI t)])), (a, aI gi 60 g)] sz) := by
  refine zt_metWi (own := RX3) (cc := cX3_leastCost) (maxL := 8) (by decide) rfl rfl (Nat.le_of_ble_eq_true rfl) ?_
  intro p e s m args below meth c Q A C hK hP hD hS hA _ hQ ls hl
  have hx := C.1
  have hb := C.2.1
  have hml := C.2.2.1
  have hown := C.2.2.2.1
  have hts := C.2.2.2.2
  have i3 : ∀ w ∈ u_ws RX3 TX3 9, w ∈ wsX3_leastCost := by decide +kernel
  have f11 := hts (.fieldLink RX3 11 "Threetwo$Rhythm" "behind" "[I") (by decide +kernel)
  have hl : lv_has ls 8 [(0, .ref o), (1, .ref r), (2, .int (iI ch))] := hl
  refine lv_aload_n hx hb dX3_leastCost_0 rfl (lv_at hl 1 rfl) ?_
  refine zt_callV C (As := []) (rest := []) (c_X4_many l D gi gc gr r a t) (cwV 0 hts gX3_leastCost_X4_many rfl rfl rfl (by decide +kernel) ⟨Nat.le_of_ble_eq_true rfl, Nat.le_of_ble_eq_true rfl⟩) (zt_preV hK (hP.sub (ws' := [(r, .inr (3, [.ref a, .int (iI t)]))]) [2] rfl) [] 0 rfl rfl) rfl hl.1 rfl (Nat.le_of_ble_eq_true rfl) dX3_leastCost_1 ⟨Nat.le_of_ble_eq_true rfl, Nat.le_of_ble_eq_true rfl⟩ (fun r_1 hr_1 => ?_)
  obtain rfl := hr_1
  refine lv_iconst (v := iI (1)) hx hb dX3_leastCost_4 (by decide +kernel) ?_
  refine zt_isub hx hb dX3_leastCost_5 ?_
  refine lv_istore_n (lv' := [(3, .int (iI (t - 1))), (0, .ref o), (1, .ref r), (2, .int (iI ch))]) hx hb dX3_leastCost_6 rfl hl (by decide) rfl (fun ls hl => ?_)
  refine lv_iload_n hx hb dX3_leastCost_7 rfl (lv_at hl 0 rfl) ?_
  refine zt_if_ge (tgt := 13) hx hb dX3_leastCost_8 (by decide) (by omega) (fun c_2 => ?_) (fun c_2 => ?_)
  · refine lv_iconst (v := iI (0)) hx hb dX3_leastCost_13 (by decide +kernel) ?_
    refine lv_istore (lv' := [(4, .int (iI 0)), (3, .int (iI (t - 1))), (0, .ref o), (1, .ref r), (2, .int (iI ch))]) hx hb dX3_leastCost_14 hl (by decide) rfl (fun ls hl => ?_)
    have loop_16 : ∀ (n_16 : Nat) (x : Int) (b1 : Nat → Int) (hx0 : 0 ≤ x ∧ x ≤ 5) (hm_16 : 5 - x < (n_16 : Int)) (H : Heap) (locs : List Loc) (hP : va_P D vwCl [(o, .inr (2, [.ref q1, .ref q2, .ref q3, .ref q4, .ref q5, .ref q6, .int (iI cst), .int (iI F), .int (iI kn)])), (q1, aI gi 300 b1), (r, .inr (3, [.ref a, .int (iI t)])), (a, aI gi 60 g)] H) (hD : va_D A [(o, .inr (2, [.ref q1, .ref q2, .ref q3, .ref q4, .ref q5, .ref q6, .int (iI cst), .int (iI F), .int (iI kn)])), (q1, aI gi 300 b1), (r, .inr (3, [.ref a, .int (iI t)])), (a, aI gi 60 g)]) (hS : va_S A s.heap H locs) (ls : Array Slot) (hl : lv_has ls 8 [(0, .ref o), (1, .ref r), (2, .int (iI ch)), (3, .int (iI (t - 1))), (4, .int (iI x))]), W p l e { frames := 2, cells := 0, slots := 0, locals := 52 } s m args below meth c H locs 0 0 Q (F0 m 16 ls []) := by
      intro n_16
      induction n_16 with
      | zero => intro x b1 hx0 hm_16 H locs hP hD hS ls hl; exact absurd hm_16 (by omega)
      | succ n_16 ih_16 =>
        intro x b1 hx0 hm_16 H locs hP hD hS ls hl
        refine lv_iload hx hb dX3_leastCost_16 (lv_at hl 4 rfl) ?_
        refine lv_iconst (v := iI (5)) hx hb dX3_leastCost_18 (by decide +kernel) ?_
        refine zt_icmp_ge (tgt := 40) hx hb dX3_leastCost_19 (by decide) (by omega) (fun c_3 => ?_) (fun c_3 => ?_)
        · refine lv_iload_n hx hb dX3_leastCost_40 rfl (lv_at hl 3 rfl) ?_
          refine lv_iconst (v := iI (1)) hx hb dX3_leastCost_41 (by decide +kernel) ?_
          refine zt_isub hx hb dX3_leastCost_42 ?_
          refine lv_istore (lv' := [(4, .int (iI ((t - 1) - 1))), (0, .ref o), (1, .ref r), (2, .int (iI ch)), (3, .int (iI (t - 1)))]) hx hb dX3_leastCost_43 hl (by decide) rfl (fun ls hl => ?_)
          have loop_45 : ∀ (n_45 : Nat) (f : Int) (b2 : Nat → Int) (hf0 : -1 ≤ f ∧ f < t - 1) (hm_45 : f + 1 < (n_45 : Int)) (H : Heap) (locs : List Loc) (hP : va_P D vwCl [(o, .inr (2, [.ref q1, .ref q2, .ref q3, .ref q4, .ref q5, .ref q6, .int (iI cst), .int (iI F), .int (iI kn)])), (q1, aI gi 300 b2), (r, .inr (3, [.ref a, .int (iI t)])), (a, aI gi 60 g)] H) (hD : va_D A [(o, .inr (2, [.ref q1, .ref q2, .ref q3, .ref q4, .ref q5, .ref q6, .int (iI cst), .int (iI F), .int (iI kn)])), (q1, aI gi 300 b2), (r, .inr (3, [.ref a, .int (iI t)])), (a, aI gi 60 g)]) (hS : va_S A s.heap H locs) (ls : Array Slot) (hl : lv_has ls 8 [(0, .ref o), (1, .ref r), (2, .int (iI ch)), (4, .int (iI f))]), W p l e { frames := 2, cells := 0, slots := 0, locals := 52 } s m args below meth c H locs 0 0 Q (F0 m 45 ls []) := by
            intro n_45
            induction n_45 with
            | zero => intro f b2 hf0 hm_45 H locs hP hD hS ls hl; exact absurd hm_45 (by omega)
            | succ n_45 ih_45 =>
              intro f b2 hf0 hm_45 H locs hP hD hS ls hl
              refine lv_iload hx hb dX3_leastCost_45 (lv_at hl 3 rfl) ?_
              refine zt_if_lt (tgt := 145) hx hb dX3_leastCost_47 (by decide) (by omega) (fun c_4 => ?_) (fun c_4 => ?_)
              · refine lv_aload_n hx hb dX3_leastCost_145 rfl (lv_at hl 0 rfl) ?_
                refine va_get (D := D) (ci := 2) (v := .ref q1) (C := RX3) (T := TX3) (N := 9) hx hb hts i3 hown hK.1 hP 0 rfl rfl 0 (by decide) f11 (fun _ h9 => h9) rfl dX3_leastCost_146 ?_
                refine lv_aload_n hx hb dX3_leastCost_149 rfl (lv_at hl 0 rfl) ?_
                refine zt_callV C (As := []) (rest := [.ref q1]) (c_X3_bestFirst l D gi gc gr o q1 q2 q3 q4 q5 q6 cst F kn b2) (cwV 0 hts gX3_leastCost_X3_bestFirst rfl rfl rfl (by decide +kernel) ⟨Nat.le_of_ble_eq_true rfl, Nat.le_of_ble_eq_true rfl⟩) (zt_preV hK (hP.sub (ws' := [(o, .inr (2, [.ref q1, .ref q2, .ref q3, .ref q4, .ref q5, .ref q6, .int (iI cst), .int (iI F), .int (iI kn)])), (q1, aI gi 300 b2)]) [0, 1] rfl) [] 0 rfl rfl) rfl hl.1 rfl (Nat.le_of_ble_eq_true rfl) dX3_leastCost_150 ⟨Nat.le_of_ble_eq_true rfl, Nat.le_of_ble_eq_true rfl⟩ (fun r_5 hr_5 => ?_)
                obtain ⟨z_6, rfl, hz_6⟩ := hr_5
                refine zt_iald hx hb hK.1 hP 1 0 rfl rfl (by omega) (by omega) dX3_leastCost_153 ?_
                exact hQ b2 _ _ _ _ _ (⟨_, rfl⟩) hP hD hS dX3_leastCost_154
              · refine lv_aload_n hx hb dX3_leastCost_50 rfl (lv_at hl 1 rfl) ?_
                refine lv_iload hx hb dX3_leastCost_51 (lv_at hl 3 rfl) ?_
                refine zt_callV C (As := [.int (iI f)]) (rest := []) (c_X4_at l D gi gc gr r a 60 t g f (by first | omega | assumption) (by first | omega | assumption) (by first | omega | assumption)) (cwV 1 hts gX3_leastCost_X4_at rfl rfl rfl (by decide +kernel) ⟨Nat.le_of_ble_eq_true rfl, Nat.le_of_ble_eq_true rfl⟩) (zt_preV hK (hP.sub (ws' := [(r, .inr (3, [.ref a, .int (iI t)])), (a, aI gi 60 g)]) [2, 3] rfl) [.int (iI f)] 0 rfl rfl) rfl hl.1 rfl (Nat.le_of_ble_eq_true rfl) dX3_leastCost_53 ⟨Nat.le_of_ble_eq_true rfl, Nat.le_of_ble_eq_true rfl⟩ (fun r_7 hr_7 => ?_)
                obtain rfl := hr_7
                refine lv_aload_n hx hb dX3_leastCost_56 rfl (lv_at hl 1 rfl) ?_
                refine lv_iload hx hb dX3_leastCost_57 (lv_at hl 3 rfl) ?_
                refine lv_iconst (v := iI (1)) hx hb dX3_leastCost_59 (by decide +kernel) ?_
                refine zt_iadd hx hb dX3_leastCost_60 ?_
                refine zt_callV C (As := [.int (iI (f + 1))]) (rest := [.int (iI (g f.toNat))]) (c_X4_at l D gi gc gr r a 60 t g (f + 1) (by first | omega | assumption) (by first | omega | assumption) (by first | omega | assumption)) (cwV 1 hts gX3_leastCost_X4_at rfl rfl rfl (by decide +kernel) ⟨Nat.le_of_ble_eq_true rfl, Nat.le_of_ble_eq_true rfl⟩) (zt_preV hK (hP.sub (ws' := [(r, .inr (3, [.ref a, .int (iI t)])), (a, aI gi 60 g)]) [2, 3] rfl) [.int (iI (f + 1))] 0 rfl rfl) rfl hl.1 rfl (Nat.le_of_ble_eq_true rfl) dX3_leastCost_61 ⟨Nat.le_of_ble_eq_true rfl, Nat.le_of_ble_eq_true rfl⟩ (fun r_8 hr_8 => ?_)
                obtain rfl := hr_8
                refine lv_icmp_ne (tgt := 71) hx hb dX3_leastCost_64 (by decide) (fun c_9 => ?_) (fun c_9 => ?_)
                · refine lv_iconst (v := iI (0)) hx hb dX3_leastCost_71 (by decide +kernel) ?_
                  refine lv_istore (lv' := [(5, .int (iI 0)), (0, .ref o), (1, .ref r), (2, .int (iI ch)), (4, .int (iI f))]) hx hb dX3_leastCost_72 hl (by decide) rfl (fun ls hl => ?_)
                  refine lv_iconst (v := iI (0)) hx hb dX3_leastCost_74 (by decide +kernel) ?_
                  refine lv_istore (lv' := [(6, .int (iI 0)), (5, .int (iI 0)), (0, .ref o), (1, .ref r), (2, .int (iI ch)), (4, .int (iI f))]) hx hb dX3_leastCost_75 hl (by decide) rfl (fun ls hl => ?_)
                  have loop_77 : ∀ (n_77 : Nat) (al : Int) (x : Int) (b3 : Nat → Int) (hal : al = 0 ∨ al = 1) (hx0 : 0 ≤ x ∧ x ≤ 5) (hm_77 : 5 - x < (n_77 : Int)) (H : Heap) (locs : List Loc) (hP : va_P D vwCl [(o, .inr (2, [.ref q1, .ref q2, .ref q3, .ref q4, .ref q5, .ref q6, .int (iI cst), .int (iI F), .int (iI kn)])), (q1, aI gi 300 b3), (r, .inr (3, [.ref a, .int (iI t)])), (a, aI gi 60 g)] H) (hD : va_D A [(o, .inr (2, [.ref q1, .ref q2, .ref q3, .ref q4, .ref q5, .ref q6, .int (iI cst), .int (iI F), .int (iI kn)])), (q1, aI gi 300 b3), (r, .inr (3, [.ref a, .int (iI t)])), (a, aI gi 60 g)]) (hS : va_S A s.heap H locs) (ls : Array Slot) (hl : lv_has ls 8 [(0, .ref o), (1, .ref r), (2, .int (iI ch)), (4, .int (iI f)), (5, .int (iI al)), (6, .int (iI x))]), W p l e { frames := 2, cells := 0, slots := 0, locals := 52 } s m args below meth c H locs 0 0 Q (F0 m 77 ls []) := by
                    intro n_77
                    induction n_77 with
                    | zero => intro al x b3 hal hx0 hm_77 H locs hP hD hS ls hl; exact absurd hm_77 (by omega)
                    | succ n_77 ih_77 =>
                      intro al x b3 hal hx0 hm_77 H locs hP hD hS ls hl
                      refine lv_iload hx hb dX3_leastCost_77 (lv_at hl 5 rfl) ?_
                      refine lv_iconst (v := iI (5)) hx hb dX3_leastCost_79 (by decide +kernel) ?_
                      refine zt_icmp_ge (tgt := 139) hx hb dX3_leastCost_80 (by decide) (by omega) (fun c_10 => ?_) (fun c_10 => ?_)
                      · refine lv_iinc (v := iI (f + (-1))) (lv' := [(4, .int (iI (f + (-1)))), (0, .ref o), (1, .ref r), (2, .int (iI ch)), (5, .int (iI al)), (6, .int (iI x))]) hx hb dX3_leastCost_139 hl (k := 3) rfl (iI_add _ _) (by decide) rfl (fun ls hl => ?_)
                        refine lv_goto (tgt := 45) hx hb dX3_leastCost_142 (by decide) ?_
                        exact ih_45 (f + (-1)) b3 (by omega) (by omega) H locs hP hD hS ls (lv_sub hl [1, 2, 3, 0] rfl)
                      · refine lv_aload_n hx hb dX3_leastCost_83 rfl (lv_at hl 0 rfl) ?_
                        refine lv_iload hx hb dX3_leastCost_84 (lv_at hl 3 rfl) ?_
                        refine lv_iload hx hb dX3_leastCost_86 (lv_at hl 5 rfl) ?_
                        refine lv_iload hx hb dX3_leastCost_88 (lv_at hl 4 rfl) ?_
                        refine lv_iload_n hx hb dX3_leastCost_90 rfl (lv_at hl 2 rfl) ?_
                        refine zt_callV C (As := [.int (iI f), .int (iI x), .int (iI al), .int (iI ch)]) (rest := []) (c_X3_bestNext l D gi gc gr o q1 q2 q3 q4 q5 q6 cst F kn b3 f x al ch (by first | omega | assumption) (by first | omega | assumption) (by first | omega | assumption)) (cwV 4 hts gX3_leastCost_X3_bestNext rfl rfl rfl (by decide +kernel) ⟨Nat.le_of_ble_eq_true rfl, Nat.le_of_ble_eq_true rfl⟩) (zt_preV hK (hP.sub (ws' := [(o, .inr (2, [.ref q1, .ref q2, .ref q3, .ref q4, .ref q5, .ref q6, .int (iI cst), .int (iI F), .int (iI kn)])), (q1, aI gi 300 b3)]) [0, 1] rfl) [.int (iI f), .int (iI x), .int (iI al), .int (iI ch)] 0 rfl rfl) rfl hl.1 rfl (Nat.le_of_ble_eq_true rfl) dX3_leastCost_91 ⟨Nat.le_of_ble_eq_true rfl, Nat.le_of_ble_eq_true rfl⟩ (fun r_11 hr_11 => ?_)
                        obtain ⟨z_12, rfl, hz_12⟩ := hr_11
                        refine lv_istore (lv' := [(7, .int (iI z_12)), (0, .ref o), (1, .ref r), (2, .int (iI ch)), (4, .int (iI f)), (5, .int (iI al)), (6, .int (iI x))]) hx hb dX3_leastCost_94 hl (by decide) rfl (fun ls hl => ?_)
                        refine lv_aload_n hx hb dX3_leastCost_96 rfl (lv_at hl 1 rfl) ?_
                        refine va_get (D := D) (ci := 2) (v := .ref q1) (C := RX3) (T := TX3) (N := 9) hx hb hts i3 hown hK.1 hP 0 rfl rfl 0 (by decide) f11 (fun _ h9 => h9) rfl dX3_leastCost_97 ?_
                        refine lv_iload hx hb dX3_leastCost_100 (lv_at hl 4 rfl) ?_
                        refine lv_iconst (v := iI (5)) hx hb dX3_leastCost_102 (by decide +kernel) ?_
                        refine zt_imul hx hb dX3_leastCost_103 ?_
                        refine lv_iload hx hb dX3_leastCost_104 (lv_at hl 6 rfl) ?_
                        refine zt_iadd hx hb dX3_leastCost_106 ?_
                        refine lv_iload hx hb dX3_leastCost_107 (lv_at hl 6 rfl) ?_
                        refine lv_iload hx hb dX3_leastCost_109 (lv_at hl 0 rfl) ?_
                        refine lv_iload hx hb dX3_leastCost_111 (lv_at hl 5 rfl) ?_
                        refine lv_iload_n hx hb dX3_leastCost_113 rfl (lv_at hl 3 rfl) ?_
                        refine zt_callS C (As := [.int (iI x), .int (iI z_12), .int (iI al), .int (iI ch)]) (rest := [.int (iI ((f * 5) + x)), .ref q1]) (c_X3_step l D gi gc gr x z_12 al ch (by first | omega | assumption) (by first | omega | assumption) (by first | omega | assumption)) (va_cwS 4 hts gX3_leastCost_X3_step rfl rfl rfl (by decide +kernel) ⟨Nat.le_of_ble_eq_true rfl, Nat.le_of_ble_eq_true rfl⟩) (zt_preS hK (hP.sub (ws' := []) [] rfl) [.int (iI x), .int (iI z_12), .int (iI al), .int (iI ch)]) rfl hl.1 rfl (Nat.le_of_ble_eq_true rfl) dX3_leastCost_114 ⟨Nat.le_of_ble_eq_true rfl, Nat.le_of_ble_eq_true rfl⟩ (fun r_13 hr_13 => ?_)
                        obtain ⟨z_14, rfl, hz_14⟩ := hr_13
                        refine lv_aload_n hx hb dX3_leastCost_117 rfl (lv_at hl 1 rfl) ?_
                        refine va_get (D := D) (ci := 2) (v := .ref q1) (C := RX3) (T := TX3) (N := 9) hx hb hts i3 hown hK.1 hP 0 rfl rfl 0 (by decide) f11 (fun _ h9 => h9) rfl dX3_leastCost_118 ?_
                        refine lv_iload hx hb dX3_leastCost_121 (lv_at hl 4 rfl) ?_
                        refine lv_iconst (v := iI (1)) hx hb dX3_leastCost_123 (by decide +kernel) ?_
                        refine zt_iadd hx hb dX3_leastCost_124 ?_
                        refine lv_iconst (v := iI (5)) hx hb dX3_leastCost_125 (by decide +kernel) ?_
                        refine zt_imul hx hb dX3_leastCost_126 ?_
                        refine lv_iload hx hb dX3_leastCost_127 (lv_at hl 0 rfl) ?_
                        refine zt_iadd hx hb dX3_leastCost_129 ?_
                        refine zt_iald hx hb hK.1 hP 1 0 rfl rfl (by omega) (by omega) dX3_leastCost_130 ?_
                        refine zt_iadd hx hb dX3_leastCost_131 ?_
                        refine zt_iast (g := b3) (x := z_14 + (b3 (((f + 1) * 5) + z_12).toNat)) hx hb hK.1 hP hD hS 1 0 rfl rfl (by omega) (by omega) dX3_leastCost_132 (fun H locs hP hD hS => ?_)
                        have hP : va_P D vwCl [(o, .inr (2, [.ref q1, .ref q2, .ref q3, .ref q4, .ref q5, .ref q6, .int (iI cst), .int (iI F), .int (iI kn)])), (q1, aI gi 300 (uP b3 ((f * 5) + x).toNat (z_14 + (b3 (((f + 1) * 5) + z_12).toNat)))), (r, .inr (3, [.ref a, .int (iI t)])), (a, aI gi 60 g)] H := hP
                        have hD : va_D A [(o, .inr (2, [.ref q1, .ref q2, .ref q3, .ref q4, .ref q5, .ref q6, .int (iI cst), .int (iI F), .int (iI kn)])), (q1, aI gi 300 (uP b3 ((f * 5) + x).toNat (z_14 + (b3 (((f + 1) * 5) + z_12).toNat)))), (r, .inr (3, [.ref a, .int (iI t)])), (a, aI gi 60 g)] := hD
                        refine lv_iinc (v := iI (x + 1)) (lv' := [(6, .int (iI (x + 1))), (7, .int (iI z_12)), (0, .ref o), (1, .ref r), (2, .int (iI ch)), (4, .int (iI f)), (5, .int (iI al))]) hx hb dX3_leastCost_133 hl (k := 6) rfl (iI_add _ _) (by decide) rfl (fun ls hl => ?_)
                        refine lv_goto (tgt := 77) hx hb dX3_leastCost_136 (by decide) ?_
                        exact ih_77 al (x + 1) (uP b3 ((f * 5) + x).toNat (z_14 + (b3 (((f + 1) * 5) + z_12).toNat))) (by omega) (by omega) (by omega) H locs hP hD hS ls (lv_sub hl [2, 3, 4, 5, 6, 0] rfl)
                  exact loop_77 ((5 - 0 : Int).toNat + 1) 0 0 b2 (by omega) (by omega) (by omega) H locs hP hD hS ls (lv_sub hl [2, 3, 4, 5, 1, 0] rfl)
                · refine lv_iconst (v := iI (1)) hx hb dX3_leastCost_67 (by decide +kernel) ?_
                  refine lv_goto (tgt := 72) hx hb dX3_leastCost_68 (by decide) ?_
                  refine lv_istore (lv' := [(5, .int (iI 1)), (0, .ref o), (1, .ref r), (2, .int (iI ch)), (4, .int (iI f))]) hx hb dX3_leastCost_72 hl (by decide) rfl (fun ls hl => ?_)
                  refine lv_iconst (v := iI (0)) hx hb dX3_leastCost_74 (by decide +kernel) ?_
                  refine lv_istore (lv' := [(6, .int (iI 0)), (5, .int (iI 1)), (0, .ref o), (1, .ref r), (2, .int (iI ch)), (4, .int (iI f))]) hx hb dX3_leastCost_75 hl (by decide) rfl (fun ls hl => ?_)
                  have loop_77 : ∀ (n_77 : Nat) (al : Int) (x : Int) (b3 : Nat → Int) (hal : al = 0 ∨ al = 1) (hx0 : 0 ≤ x ∧ x ≤ 5) (hm_77 : 5 - x < (n_77 : Int)) (H : Heap) (locs : List Loc) (hP : va_P D vwCl [(o, .inr (2, [.ref q1, .ref q2, .ref q3, .ref q4, .ref q5, .ref q6, .int (iI cst), .int (iI F), .int (iI kn)])), (q1, aI gi 300 b3), (r, .inr (3, [.ref a, .int (iI t)])), (a, aI gi 60 g)] H) (hD : va_D A [(o, .inr (2, [.ref q1, .ref q2, .ref q3, .ref q4, .ref q5, .ref q6, .int (iI cst), .int (iI F), .int (iI kn)])), (q1, aI gi 300 b3), (r, .inr (3, [.ref a, .int (iI t)])), (a, aI gi 60 g)]) (hS : va_S A s.heap H locs) (ls : Array Slot) (hl : lv_has ls 8 [(0, .ref o), (1, .ref r), (2, .int (iI ch)), (4, .int (iI f)), (5, .int (iI al)), (6, .int (iI x))]), W p l e { frames := 2, cells := 0, slots := 0, locals := 52 } s m args below meth c H locs 0 0 Q (F0 m 77 ls []) := by
                    intro n_77
                    induction n_77 with
                    | zero => intro al x b3 hal hx0 hm_77 H locs hP hD hS ls hl; exact absurd hm_77 (by omega)
                    | succ n_77 ih_77 =>
                      intro al x b3 hal hx0 hm_77 H locs hP hD hS ls hl
                      refine lv_iload hx hb dX3_leastCost_77 (lv_at hl 5 rfl) ?_
                      refine lv_iconst (v := iI (5)) hx hb dX3_leastCost_79 (by decide +kernel) ?_
                      refine zt_icmp_ge (tgt := 139) hx hb dX3_leastCost_80 (by decide) (by omega) (fun c_15 => ?_) (fun c_15 => ?_)
                      · refine lv_iinc (v := iI (f + (-1))) (lv' := [(4, .int (iI (f + (-1)))), (0, .ref o), (1, .ref r), (2, .int (iI ch)), (5, .int (iI al)), (6, .int (iI x))]) hx hb dX3_leastCost_139 hl (k := 3) rfl (iI_add _ _) (by decide) rfl (fun ls hl => ?_)
                        refine lv_goto (tgt := 45) hx hb dX3_leastCost_142 (by decide) ?_
                        exact ih_45 (f + (-1)) b3 (by omega) (by omega) H locs hP hD hS ls (lv_sub hl [1, 2, 3, 0] rfl)
                      · refine lv_aload_n hx hb dX3_leastCost_83 rfl (lv_at hl 0 rfl) ?_
                        refine lv_iload hx hb dX3_leastCost_84 (lv_at hl 3 rfl) ?_
                        refine lv_iload hx hb dX3_leastCost_86 (lv_at hl 5 rfl) ?_
                        refine lv_iload hx hb dX3_leastCost_88 (lv_at hl 4 rfl) ?_
                        refine lv_iload_n hx hb dX3_leastCost_90 rfl (lv_at hl 2 rfl) ?_
                        refine zt_callV C (As := [.int (iI f), .int (iI x), .int (iI al), .int (iI ch)]) (rest := []) (c_X3_bestNext l D gi gc gr o q1 q2 q3 q4 q5 q6 cst F kn b3 f x al ch (by first | omega | assumption) (by first | omega | assumption) (by first | omega | assumption)) (cwV 4 hts gX3_leastCost_X3_bestNext rfl rfl rfl (by decide +kernel) ⟨Nat.le_of_ble_eq_true rfl, Nat.le_of_ble_eq_true rfl⟩) (zt_preV hK (hP.sub (ws' := [(o, .inr (2, [.ref q1, .ref q2, .ref q3, .ref q4, .ref q5, .ref q6, .int (iI cst), .int (iI F), .int (iI kn)])), (q1, aI gi 300 b3)]) [0, 1] rfl) [.int (iI f), .int (iI x), .int (iI al), .int (iI ch)] 0 rfl rfl) rfl hl.1 rfl (Nat.le_of_ble_eq_true rfl) dX3_leastCost_91 ⟨Nat.le_of_ble_eq_true rfl, Nat.le_of_ble_eq_true rfl⟩ (fun r_16 hr_16 => ?_)
                        obtain ⟨z_17, rfl, hz_17⟩ := hr_16
                        refine lv_istore (lv' := [(7, .int (iI z_17)), (0, .ref o), (1, .ref r), (2, .int (iI ch)), (4, .int (iI f)), (5, .int (iI al)), (6, .int (iI x))]) hx hb dX3_leastCost_94 hl (by decide) rfl (fun ls hl => ?_)
                        refine lv_aload_n hx hb dX3_leastCost_96 rfl (lv_at hl 1 rfl) ?_
                        refine va_get (D := D) (ci := 2) (v := .ref q1) (C := RX3) (T := TX3) (N := 9) hx hb hts i3 hown hK.1 hP 0 rfl rfl 0 (by decide) f11 (fun _ h9 => h9) rfl dX3_leastCost_97 ?_
                        refine lv_iload hx hb dX3_leastCost_100 (lv_at hl 4 rfl) ?_
                        refine lv_iconst (v := iI (5)) hx hb dX3_leastCost_102 (by decide +kernel) ?_
                        refine zt_imul hx hb dX3_leastCost_103 ?_
                        refine lv_iload hx hb dX3_leastCost_104 (lv_at hl 6 rfl) ?_
                        refine zt_iadd hx hb dX3_leastCost_106 ?_
                        refine lv_iload hx hb dX3_leastCost_107 (lv_at hl 6 rfl) ?_
                        refine lv_iload hx hb dX3_leastCost_109 (lv_at hl 0 rfl) ?_
                        refine lv_iload hx hb dX3_leastCost_111 (lv_at hl 5 rfl) ?_
                        refine lv_iload_n hx hb dX3_leastCost_113 rfl (lv_at hl 3 rfl) ?_
                        refine zt_callS C (As := [.int (iI x), .int (iI z_17), .int (iI al), .int (iI ch)]) (rest := [.int (iI ((f * 5) + x)), .ref q1]) (c_X3_step l D gi gc gr x z_17 al ch (by first | omega | assumption) (by first | omega | assumption) (by first | omega | assumption)) (va_cwS 4 hts gX3_leastCost_X3_step rfl rfl rfl (by decide +kernel) ⟨Nat.le_of_ble_eq_true rfl, Nat.le_of_ble_eq_true rfl⟩) (zt_preS hK (hP.sub (ws' := []) [] rfl) [.int (iI x), .int (iI z_17), .int (iI al), .int (iI ch)]) rfl hl.1 rfl (Nat.le_of_ble_eq_true rfl) dX3_leastCost_114 ⟨Nat.le_of_ble_eq_true rfl, Nat.le_of_ble_eq_true rfl⟩ (fun r_18 hr_18 => ?_)
                        obtain ⟨z_19, rfl, hz_19⟩ := hr_18
                        refine lv_aload_n hx hb dX3_leastCost_117 rfl (lv_at hl 1 rfl) ?_
                        refine va_get (D := D) (ci := 2) (v := .ref q1) (C := RX3) (T := TX3) (N := 9) hx hb hts i3 hown hK.1 hP 0 rfl rfl 0 (by decide) f11 (fun _ h9 => h9) rfl dX3_leastCost_118 ?_
                        refine lv_iload hx hb dX3_leastCost_121 (lv_at hl 4 rfl) ?_
                        refine lv_iconst (v := iI (1)) hx hb dX3_leastCost_123 (by decide +kernel) ?_
                        refine zt_iadd hx hb dX3_leastCost_124 ?_
                        refine lv_iconst (v := iI (5)) hx hb dX3_leastCost_125 (by decide +kernel) ?_
                        refine zt_imul hx hb dX3_leastCost_126 ?_
                        refine lv_iload hx hb dX3_leastCost_127 (lv_at hl 0 rfl) ?_
                        refine zt_iadd hx hb dX3_leastCost_129 ?_
                        refine zt_iald hx hb hK.1 hP 1 0 rfl rfl (by omega) (by omega) dX3_leastCost_130 ?_
                        refine zt_iadd hx hb dX3_leastCost_131 ?_
                        refine zt_iast (g := b3) (x := z_19 + (b3 (((f + 1) * 5) + z_17).toNat)) hx hb hK.1 hP hD hS 1 0 rfl rfl (by omega) (by omega) dX3_leastCost_132 (fun H locs hP hD hS => ?_)
                        have hP : va_P D vwCl [(o, .inr (2, [.ref q1, .ref q2, .ref q3, .ref q4, .ref q5, .ref q6, .int (iI cst), .int (iI F), .int (iI kn)])), (q1, aI gi 300 (uP b3 ((f * 5) + x).toNat (z_19 + (b3 (((f + 1) * 5) + z_17).toNat)))), (r, .inr (3, [.ref a, .int (iI t)])), (a, aI gi 60 g)] H := hP
                        have hD : va_D A [(o, .inr (2, [.ref q1, .ref q2, .ref q3, .ref q4, .ref q5, .ref q6, .int (iI cst), .int (iI F), .int (iI kn)])), (q1, aI gi 300 (uP b3 ((f * 5) + x).toNat (z_19 + (b3 (((f + 1) * 5) + z_17).toNat)))), (r, .inr (3, [.ref a, .int (iI t)])), (a, aI gi 60 g)] := hD
                        refine lv_iinc (v := iI (x + 1)) (lv' := [(6, .int (iI (x + 1))), (7, .int (iI z_17)), (0, .ref o), (1, .ref r), (2, .int (iI ch)), (4, .int (iI f)), (5, .int (iI al))]) hx hb dX3_leastCost_133 hl (k := 6) rfl (iI_add _ _) (by decide) rfl (fun ls hl => ?_)
                        refine lv_goto (tgt := 77) hx hb dX3_leastCost_136 (by decide) ?_
                        exact ih_77 al (x + 1) (uP b3 ((f * 5) + x).toNat (z_19 + (b3 (((f + 1) * 5) + z_17).toNat))) (by omega) (by omega) (by omega) H locs hP hD hS ls (lv_sub hl [2, 3, 4, 5, 6, 0] rfl)
                  exact loop_77 ((5 - 0 : Int).toNat + 1) 1 0 b2 (by omega) (by omega) (by omega) H locs hP hD hS ls (lv_sub hl [2, 3, 4, 5, 1, 0] rfl)
          exact loop_45 ((((t - 1) - 1) + 1 : Int).toNat + 1) ((t - 1) - 1) b1 (by omega) (by omega) H locs hP hD hS ls (lv_sub hl [1, 2, 3, 0] rfl)
        · refine lv_aload_n hx hb dX3_leastCost_22 rfl (lv_at hl 0 rfl) ?_
          refine va_get (D := D) (ci := 2) (v := .ref q1) (C := RX3) (T := TX3) (N := 9) hx hb hts i3 hown hK.1 hP 0 rfl rfl 0 (by decide) f11 (fun _ h9 => h9) rfl dX3_leastCost_23 ?_
          refine lv_iload_n hx hb dX3_leastCost_26 rfl (lv_at hl 3 rfl) ?_
          refine lv_iconst (v := iI (5)) hx hb dX3_leastCost_27 (by decide +kernel) ?_
          refine zt_imul hx hb dX3_leastCost_28 ?_
          refine lv_iload hx hb dX3_leastCost_29 (lv_at hl 4 rfl) ?_
          refine zt_iadd hx hb dX3_leastCost_31 ?_
          refine lv_iconst (v := iI (0)) hx hb dX3_leastCost_32 (by decide +kernel) ?_
          refine zt_iast (g := b1) (x := 0) hx hb hK.1 hP hD hS 1 0 rfl rfl (by omega) (by omega) dX3_leastCost_33 (fun H locs hP hD hS => ?_)
          have hP : va_P D vwCl [(o, .inr (2, [.ref q1, .ref q2, .ref q3, .ref q4, .ref q5, .ref q6, .int (iI cst), .int (iI F), .int (iI kn)])), (q1, aI gi 300 (uP b1 (((t - 1) * 5) + x).toNat 0)), (r, .inr (3, [.ref a, .int (iI t)])), (a, aI gi 60 g)] H := hP
          have hD : va_D A [(o, .inr (2, [.ref q1, .ref q2, .ref q3, .ref q4, .ref q5, .ref q6, .int (iI cst), .int (iI F), .int (iI kn)])), (q1, aI gi 300 (uP b1 (((t - 1) * 5) + x).toNat 0)), (r, .inr (3, [.ref a, .int (iI t)])), (a, aI gi 60 g)] := hD
          refine lv_iinc (v := iI (x + 1)) (lv' := [(4, .int (iI (x + 1))), (0, .ref o), (1, .ref r), (2, .int (iI ch)), (3, .int (iI (t - 1)))]) hx hb dX3_leastCost_34 hl (k := 4) rfl (iI_add _ _) (by decide) rfl (fun ls hl => ?_)
          refine lv_goto (tgt := 16) hx hb dX3_leastCost_37 (by decide) ?_
          exact ih_16 (x + 1) (uP b1 (((t - 1) * 5) + x).toNat 0) (by omega) (by omega) H locs hP hD hS ls (lv_sub hl [1, 2, 3, 4, 0] rfl)
    exact loop_16 ((5 - 0 : Int).toNat + 1) 0 bh (by omega) (by omega) s.heap [] hP hD hS ls (lv_sub hl [2, 3, 4, 1, 0] rfl)
  · refine lv_iconst (v := iI (0)) hx hb dX3_leastCost_11 (by decide +kernel) ?_
    exact hQ bh _ _ _ _ _ (⟨_, rfl⟩) hP hD hS dX3_leastCost_12
set_option maxHeartbeats 16000000 in
set_option maxRecDepth 100000 in
theorem c_X3_tracePath (l : Launch) (D : va_G) (gi gc gr : ClassId) (sz : Nat) (o : Nat) (q1 : Nat) (q2 : Nat) (q3 : Nat) (q4 : Nat) (q5 : Nat) (q6 : Nat) (cst : Int) (F : Int) (kn : Int) (bh : Nat → Int) (pl : Nat → Int) (r : Nat) (a : Nat) (t : Int) (g : Nat → Int) (ch : Int) (ht : 0 ≤ t ∧ t ≤ 60) : Met l yX3_tracePath wsX3_tracePath { frames := 2, cells := 0, slots := 0, locals := 52 } (zPw D gi gc gr [(o, .inr (2, [.ref q1, .ref q2, .ref q3, .ref q4, .ref q5, .ref q6, .int (iI cst), .int (iI F), .int (iI kn)])), (q1, aI gi 300 bh), (q2, aI gi 60 pl), (r, .inr (3, [.ref a, .int (iI t)])), (a, aI gi 60 g)] sz [.ref o, .ref r, .int (iI ch)]) (va_Qv (S := Nat → Int) (fun u => ∀ k : Nat, (k : Int) < t → 0 ≤ u k ∧ u k < 5) (zB D (va_A [(o, .inr (2, [.ref q1, .ref q2, .ref q3, .ref q4, .ref q5, .ref q6, .int (iI cst), .int (iI F), .int (iI kn)])), (q1, aI gi 300 bh), (q2, aI gi 60 pl), (r, .inr (3, [.ref a, .int (iI t)])), (a, aI gi 60 g)] sz) (fun u => [(o, .inr (2, [.ref q1, .ref q2, .ref q3, .ref q4, .ref q5, .ref q6, .int (iI cst), .int (iI F), .int (iI kn)])), (q1, aI gi 300 bh), (q2, aI gi 60 u), (r, .inr (3, [.ref a, .int (iI t)])), (a, aI gi 60 g)])) (va_A [(o, .inr (2, [.ref q1, .ref q2, .ref q3, .ref q4, .ref q5, .ref q6, .int (iI cst), .int (iI F), .int (iI kn)])), (q1, aI gi 300 bh), (q2, aI gi 60 pl), (r, .inr (3, [.ref a, .int (iI t)])), (a, aI gi 60 g)] sz)) 0 0 (va_A [(o, .inr (2, [.ref q1, .ref q2, .ref q3, .ref q4, .ref q5, .ref q6, .int (iI cst), .int (iI F), .int (iI kn)])), (q1, aI gi 300 bh), (q2, aI gi 60 pl), (r, .inr (3, [.ref a, .int (iI t)])), (a, aI gi 60 g)] sz) := by
  refine zt_metWv (own := RX3) (cc := cX3_tracePath) (maxL := 5) (by decide) rfl rfl (Nat.le_of_ble_eq_true rfl) ?_
  intro p e s m args below meth c Q A C hK hP hD hS hA _ hQ ls hl
  have hx := C.1
  have hb := C.2.1
  have hml := C.2.2.1
  have hown := C.2.2.2.1
  have hts := C.2.2.2.2
  have i3 : ∀ w ∈ u_ws RX3 TX3 9, w ∈ wsX3_tracePath := by decide +kernel
  have f15 := hts (.fieldLink RX3 15 "Threetwo$Rhythm" "places" "[I") (by decide +kernel)
  have hl : lv_has ls 5 [(0, .ref o), (1, .ref r), (2, .int (iI ch))] := hl
  refine lv_iconst (v := iI (0)) hx hb dX3_tracePath_0 (by decide +kernel) ?_
  refine lv_istore_n (lv' := [(3, .int (iI 0)), (0, .ref o), (1, .ref r), (2, .int (iI ch))]) hx hb dX3_tracePath_1 rfl hl (by decide) rfl (fun ls hl => ?_)
  have loop_2 : ∀ (n_2 : Nat) (j : Int) (p1 : Nat → Int) (hj : 0 ≤ j ∧ j ≤ t) (hpl : ∀ k : Nat, (k : Int) < j → 0 ≤ p1 k ∧ p1 k < 5) (hm_2 : t - j < (n_2 : Int)) (H : Heap) (locs : List Loc) (hP : va_P D vwCl [(o, .inr (2, [.ref q1, .ref q2, .ref q3, .ref q4, .ref q5, .ref q6, .int (iI cst), .int (iI F), .int (iI kn)])), (q1, aI gi 300 bh), (q2, aI gi 60 p1), (r, .inr (3, [.ref a, .int (iI t)])), (a, aI gi 60 g)] H) (hD : va_D A [(o, .inr (2, [.ref q1, .ref q2, .ref q3, .ref q4, .ref q5, .ref q6, .int (iI cst), .int (iI F), .int (iI kn)])), (q1, aI gi 300 bh), (q2, aI gi 60 p1), (r, .inr (3, [.ref a, .int (iI t)])), (a, aI gi 60 g)]) (hS : va_S A s.heap H locs) (ls : Array Slot) (hl : lv_has ls 5 [(0, .ref o), (1, .ref r), (2, .int (iI ch)), (3, .int (iI j))]), W p l e { frames := 2, cells := 0, slots := 0, locals := 52 } s m args below meth c H locs 0 0 Q (F0 m 2 ls []) := by
    intro n_2
    induction n_2 with
    | zero => intro j p1 hj hpl hm_2 H locs hP hD hS ls hl; exact absurd hm_2 (by omega)
    | succ n_2 ih_2 =>
      intro j p1 hj hpl hm_2 H locs hP hD hS ls hl
      refine lv_iload_n hx hb dX3_tracePath_2 rfl (lv_at hl 3 rfl) ?_
      refine lv_aload_n hx hb dX3_tracePath_3 rfl (lv_at hl 1 rfl) ?_
      refine zt_callV C (As := []) (rest := [.int (iI j)]) (c_X4_many l D gi gc gr r a t) (cwV 0 hts gX3_tracePath_X4_many rfl rfl rfl (by decide +kernel) ⟨Nat.le_of_ble_eq_true rfl, Nat.le_of_ble_eq_true rfl⟩) (zt_preV hK (hP.sub (ws' := [(r, .inr (3, [.ref a, .int (iI t)]))]) [3] rfl) [] 0 rfl rfl) rfl hl.1 rfl (Nat.le_of_ble_eq_true rfl) dX3_tracePath_4 ⟨Nat.le_of_ble_eq_true rfl, Nat.le_of_ble_eq_true rfl⟩ (fun r_1 hr_1 => ?_)
      obtain rfl := hr_1
      refine zt_icmp_ge (tgt := 79) hx hb dX3_tracePath_7 (by decide) (by omega) (fun c_2 => ?_) (fun c_2 => ?_)
      · exact hQ p1 _ _ _ _ (by intro k hk; exact hpl k (by omega)) hP hD hS dX3_tracePath_79
      · refine lv_iload_n hx hb dX3_tracePath_10 rfl (lv_at hl 3 rfl) ?_
        refine zt_if_ne (tgt := 27) hx hb dX3_tracePath_11 (by decide) (by omega) (fun c_3 => ?_) (fun c_3 => ?_)
        · refine lv_aload_n hx hb dX3_tracePath_27 rfl (lv_at hl 1 rfl) ?_
          refine lv_iload_n hx hb dX3_tracePath_28 rfl (lv_at hl 3 rfl) ?_
          refine lv_iconst (v := iI (1)) hx hb dX3_tracePath_29 (by decide +kernel) ?_
          refine zt_isub hx hb dX3_tracePath_30 ?_
          refine zt_callV C (As := [.int (iI (j - 1))]) (rest := []) (c_X4_at l D gi gc gr r a 60 t g (j - 1) (by first | omega | assumption) (by first | omega | assumption) (by first | omega | assumption)) (cwV 1 hts gX3_tracePath_X4_at rfl rfl rfl (by decide +kernel) ⟨Nat.le_of_ble_eq_true rfl, Nat.le_of_ble_eq_true rfl⟩) (zt_preV hK (hP.sub (ws' := [(r, .inr (3, [.ref a, .int (iI t)])), (a, aI gi 60 g)]) [3, 4] rfl) [.int (iI (j - 1))] 0 rfl rfl) rfl hl.1 rfl (Nat.le_of_ble_eq_true rfl) dX3_tracePath_31 ⟨Nat.le_of_ble_eq_true rfl, Nat.le_of_ble_eq_true rfl⟩ (fun r_4 hr_4 => ?_)
          obtain rfl := hr_4
          refine lv_aload_n hx hb dX3_tracePath_34 rfl (lv_at hl 1 rfl) ?_
          refine lv_iload_n hx hb dX3_tracePath_35 rfl (lv_at hl 3 rfl) ?_
          refine zt_callV C (As := [.int (iI j)]) (rest := [.int (iI (g (j - 1).toNat))]) (c_X4_at l D gi gc gr r a 60 t g j (by first | omega | assumption) (by first | omega | assumption) (by first | omega | assumption)) (cwV 1 hts gX3_tracePath_X4_at rfl rfl rfl (by decide +kernel) ⟨Nat.le_of_ble_eq_true rfl, Nat.le_of_ble_eq_true rfl⟩) (zt_preV hK (hP.sub (ws' := [(r, .inr (3, [.ref a, .int (iI t)])), (a, aI gi 60 g)]) [3, 4] rfl) [.int (iI j)] 0 rfl rfl) rfl hl.1 rfl (Nat.le_of_ble_eq_true rfl) dX3_tracePath_36 ⟨Nat.le_of_ble_eq_true rfl, Nat.le_of_ble_eq_true rfl⟩ (fun r_5 hr_5 => ?_)
          obtain rfl := hr_5
          refine lv_icmp_ne (tgt := 46) hx hb dX3_tracePath_39 (by decide) (fun c_6 => ?_) (fun c_6 => ?_)
          · refine lv_iconst (v := iI (0)) hx hb dX3_tracePath_46 (by decide +kernel) ?_
            refine lv_istore (lv' := [(4, .int (iI 0)), (0, .ref o), (1, .ref r), (2, .int (iI ch)), (3, .int (iI j))]) hx hb dX3_tracePath_47 hl (by decide) rfl (fun ls hl => ?_)
            refine lv_aload_n hx hb dX3_tracePath_49 rfl (lv_at hl 1 rfl) ?_
            refine va_get (D := D) (ci := 2) (v := .ref q2) (C := RX3) (T := TX3) (N := 9) hx hb hts i3 hown hK.1 hP 0 rfl rfl 1 (by decide) f15 (fun _ h9 => h9) rfl dX3_tracePath_50 ?_
            refine lv_iload_n hx hb dX3_tracePath_53 rfl (lv_at hl 4 rfl) ?_
            refine lv_aload_n hx hb dX3_tracePath_54 rfl (lv_at hl 1 rfl) ?_
            refine lv_iload_n hx hb dX3_tracePath_55 rfl (lv_at hl 4 rfl) ?_
            refine lv_iconst (v := iI (1)) hx hb dX3_tracePath_56 (by decide +kernel) ?_
            refine zt_isub hx hb dX3_tracePath_57 ?_
            have hpj := hpl (j - 1).toNat (by omega)
            refine lv_aload_n hx hb dX3_tracePath_58 rfl (lv_at hl 1 rfl) ?_
            refine va_get (D := D) (ci := 2) (v := .ref q2) (C := RX3) (T := TX3) (N := 9) hx hb hts i3 hown hK.1 hP 0 rfl rfl 1 (by decide) f15 (fun _ h9 => h9) rfl dX3_tracePath_59 ?_
            refine lv_iload_n hx hb dX3_tracePath_62 rfl (lv_at hl 4 rfl) ?_
            refine lv_iconst (v := iI (1)) hx hb dX3_tracePath_63 (by decide +kernel) ?_
            refine zt_isub hx hb dX3_tracePath_64 ?_
            refine zt_iald hx hb hK.1 hP 2 0 rfl rfl (by omega) (by omega) dX3_tracePath_65 ?_
            refine lv_iload hx hb dX3_tracePath_66 (lv_at hl 0 rfl) ?_
            refine lv_iload_n hx hb dX3_tracePath_68 rfl (lv_at hl 3 rfl) ?_
            refine zt_callV C (As := [.int (iI (j - 1)), .int (iI (p1 (j - 1).toNat)), .int (iI 0), .int (iI ch)]) (rest := [.int (iI j), .ref q2]) (c_X3_bestNext l D gi gc gr o q1 q2 q3 q4 q5 q6 cst F kn bh (j - 1) (p1 (j - 1).toNat) 0 ch (by first | omega | assumption) (by first | omega | assumption) (by first | omega | assumption)) (cwV 4 hts gX3_tracePath_X3_bestNext rfl rfl rfl (by decide +kernel) ⟨Nat.le_of_ble_eq_true rfl, Nat.le_of_ble_eq_true rfl⟩) (zt_preV hK (hP.sub (ws' := [(o, .inr (2, [.ref q1, .ref q2, .ref q3, .ref q4, .ref q5, .ref q6, .int (iI cst), .int (iI F), .int (iI kn)])), (q1, aI gi 300 bh)]) [0, 1] rfl) [.int (iI (j - 1)), .int (iI (p1 (j - 1).toNat)), .int (iI 0), .int (iI ch)] 0 rfl rfl) rfl hl.1 rfl (Nat.le_of_ble_eq_true rfl) dX3_tracePath_69 ⟨Nat.le_of_ble_eq_true rfl, Nat.le_of_ble_eq_true rfl⟩ (fun r_7 hr_7 => ?_)
            obtain ⟨z_8, rfl, hz_8⟩ := hr_7
            refine zt_iast (g := p1) (x := z_8) hx hb hK.1 hP hD hS 2 0 rfl rfl (by omega) (by omega) dX3_tracePath_72 (fun H locs hP hD hS => ?_)
            have hP : va_P D vwCl [(o, .inr (2, [.ref q1, .ref q2, .ref q3, .ref q4, .ref q5, .ref q6, .int (iI cst), .int (iI F), .int (iI kn)])), (q1, aI gi 300 bh), (q2, aI gi 60 (uP p1 j.toNat z_8)), (r, .inr (3, [.ref a, .int (iI t)])), (a, aI gi 60 g)] H := hP
            have hD : va_D A [(o, .inr (2, [.ref q1, .ref q2, .ref q3, .ref q4, .ref q5, .ref q6, .int (iI cst), .int (iI F), .int (iI kn)])), (q1, aI gi 300 bh), (q2, aI gi 60 (uP p1 j.toNat z_8)), (r, .inr (3, [.ref a, .int (iI t)])), (a, aI gi 60 g)] := hD
            refine lv_iinc (v := iI (j + 1)) (lv' := [(3, .int (iI (j + 1))), (4, .int (iI 0)), (0, .ref o), (1, .ref r), (2, .int (iI ch))]) hx hb dX3_tracePath_73 hl (k := 4) rfl (iI_add _ _) (by decide) rfl (fun ls hl => ?_)
            refine lv_goto (tgt := 2) hx hb dX3_tracePath_76 (by decide) ?_
            exact ih_2 (j + 1) (uP p1 j.toNat z_8) (by omega) (uP_all hj.1 hpl (by omega)) (by omega) H locs hP hD hS ls (lv_sub hl [2, 3, 4, 0] rfl)
          · refine lv_iconst (v := iI (1)) hx hb dX3_tracePath_42 (by decide +kernel) ?_
            refine lv_goto (tgt := 47) hx hb dX3_tracePath_43 (by decide) ?_
            refine lv_istore (lv' := [(4, .int (iI 1)), (0, .ref o), (1, .ref r), (2, .int (iI ch)), (3, .int (iI j))]) hx hb dX3_tracePath_47 hl (by decide) rfl (fun ls hl => ?_)
            refine lv_aload_n hx hb dX3_tracePath_49 rfl (lv_at hl 1 rfl) ?_
            refine va_get (D := D) (ci := 2) (v := .ref q2) (C := RX3) (T := TX3) (N := 9) hx hb hts i3 hown hK.1 hP 0 rfl rfl 1 (by decide) f15 (fun _ h9 => h9) rfl dX3_tracePath_50 ?_
            refine lv_iload_n hx hb dX3_tracePath_53 rfl (lv_at hl 4 rfl) ?_
            refine lv_aload_n hx hb dX3_tracePath_54 rfl (lv_at hl 1 rfl) ?_
            refine lv_iload_n hx hb dX3_tracePath_55 rfl (lv_at hl 4 rfl) ?_
            refine lv_iconst (v := iI (1)) hx hb dX3_tracePath_56 (by decide +kernel) ?_
            refine zt_isub hx hb dX3_tracePath_57 ?_
            have hpj := hpl (j - 1).toNat (by omega)
            refine lv_aload_n hx hb dX3_tracePath_58 rfl (lv_at hl 1 rfl) ?_
            refine va_get (D := D) (ci := 2) (v := .ref q2) (C := RX3) (T := TX3) (N := 9) hx hb hts i3 hown hK.1 hP 0 rfl rfl 1 (by decide) f15 (fun _ h9 => h9) rfl dX3_tracePath_59 ?_
            refine lv_iload_n hx hb dX3_tracePath_62 rfl (lv_at hl 4 rfl) ?_
            refine lv_iconst (v := iI (1)) hx hb dX3_tracePath_63 (by decide +kernel) ?_
            refine zt_isub hx hb dX3_tracePath_64 ?_
            refine zt_iald hx hb hK.1 hP 2 0 rfl rfl (by omega) (by omega) dX3_tracePath_65 ?_
            refine lv_iload hx hb dX3_tracePath_66 (lv_at hl 0 rfl) ?_
            refine lv_iload_n hx hb dX3_tracePath_68 rfl (lv_at hl 3 rfl) ?_
            refine zt_callV C (As := [.int (iI (j - 1)), .int (iI (p1 (j - 1).toNat)), .int (iI 1), .int (iI ch)]) (rest := [.int (iI j), .ref q2]) (c_X3_bestNext l D gi gc gr o q1 q2 q3 q4 q5 q6 cst F kn bh (j - 1) (p1 (j - 1).toNat) 1 ch (by first | omega | assumption) (by first | omega | assumption) (by first | omega | assumption)) (cwV 4 hts gX3_tracePath_X3_bestNext rfl rfl rfl (by decide +kernel) ⟨Nat.le_of_ble_eq_true rfl, Nat.le_of_ble_eq_true rfl⟩) (zt_preV hK (hP.sub (ws' := [(o, .inr (2, [.ref q1, .ref q2, .ref q3, .ref q4, .ref q5, .ref q6, .int (iI cst), .int (iI F), .int (iI kn)])), (q1, aI gi 300 bh)]) [0, 1] rfl) [.int (iI (j - 1)), .int (iI (p1 (j - 1).toNat)), .int (iI 1), .int (iI ch)] 0 rfl rfl) rfl hl.1 rfl (Nat.le_of_ble_eq_true rfl) dX3_tracePath_69 ⟨Nat.le_of_ble_eq_true rfl, Nat.le_of_ble_eq_true rfl⟩ (fun r_9 hr_9 => ?_)
            obtain ⟨z_10, rfl, hz_10⟩ := hr_9
            refine zt_iast (g := p1) (x := z_10) hx hb hK.1 hP hD hS 2 0 rfl rfl (by omega) (by omega) dX3_tracePath_72 (fun H locs hP hD hS => ?_)
            have hP : va_P D vwCl [(o, .inr (2, [.ref q1, .ref q2, .ref q3, .ref q4, .ref q5, .ref q6, .int (iI cst), .int (iI F), .int (iI kn)])), (q1, aI gi 300 bh), (q2, aI gi 60 (uP p1 j.toNat z_10)), (r, .inr (3, [.ref a, .int (iI t)])), (a, aI gi 60 g)] H := hP
            have hD : va_D A [(o, .inr (2, [.ref q1, .ref q2, .ref q3, .ref q4, .ref q5, .ref q6, .int (iI cst), .int (iI F), .int (iI kn)])), (q1, aI gi 300 bh), (q2, aI gi 60 (uP p1 j.toNat z_10)), (r, .inr (3, [.ref a, .int (iI t)])), (a, aI gi 60 g)] := hD
            refine lv_iinc (v := iI (j + 1)) (lv' := [(3, .int (iI (j + 1))), (4, .int (iI 1)), (0, .ref o), (1, .ref r), (2, .int (iI ch))]) hx hb dX3_tracePath_73 hl (k := 4) rfl (iI_add _ _) (by decide) rfl (fun ls hl => ?_)
            refine lv_goto (tgt := 2) hx hb dX3_tracePath_76 (by decide) ?_
            exact ih_2 (j + 1) (uP p1 j.toNat z_10) (by omega) (uP_all hj.1 hpl (by omega)) (by omega) H locs hP hD hS ls (lv_sub hl [2, 3, 4, 0] rfl)
        · refine lv_aload_n hx hb dX3_tracePath_14 rfl (lv_at hl 0 rfl) ?_
          refine va_get (D := D) (ci := 2) (v := .ref q2) (C := RX3) (T := TX3) (N := 9) hx hb hts i3 hown hK.1 hP 0 rfl rfl 1 (by decide) f15 (fun _ h9 => h9) rfl dX3_tracePath_15 ?_
          refine lv_iload_n hx hb dX3_tracePath_18 rfl (lv_at hl 3 rfl) ?_
          refine lv_aload_n hx hb dX3_tracePath_19 rfl (lv_at hl 0 rfl) ?_
          refine zt_callV C (As := []) (rest := [.int (iI j), .ref q2]) (c_X3_bestFirst l D gi gc gr o q1 q2 q3 q4 q5 q6 cst F kn bh) (cwV 0 hts gX3_tracePath_X3_bestFirst rfl rfl rfl (by decide +kernel) ⟨Nat.le_of_ble_eq_true rfl, Nat.le_of_ble_eq_true rfl⟩) (zt_preV hK (hP.sub (ws' := [(o, .inr (2, [.ref q1, .ref q2, .ref q3, .ref q4, .ref q5, .ref q6, .int (iI cst), .int (iI F), .int (iI kn)])), (q1, aI gi 300 bh)]) [0, 1] rfl) [] 0 rfl rfl) rfl hl.1 rfl (Nat.le_of_ble_eq_true rfl) dX3_tracePath_20 ⟨Nat.le_of_ble_eq_true rfl, Nat.le_of_ble_eq_true rfl⟩ (fun r_11 hr_11 => ?_)
          obtain ⟨z_12, rfl, hz_12⟩ := hr_11
          refine zt_iast (g := p1) (x := z_12) hx hb hK.1 hP hD hS 2 0 rfl rfl (by omega) (by omega) dX3_tracePath_23 (fun H locs hP hD hS => ?_)
          have hP : va_P D vwCl [(o, .inr (2, [.ref q1, .ref q2, .ref q3, .ref q4, .ref q5, .ref q6, .int (iI cst), .int (iI F), .int (iI kn)])), (q1, aI gi 300 bh), (q2, aI gi 60 (uP p1 j.toNat z_12)), (r, .inr (3, [.ref a, .int (iI t)])), (a, aI gi 60 g)] H := hP
          have hD : va_D A [(o, .inr (2, [.ref q1, .ref q2, .ref q3, .ref q4, .ref q5, .ref q6, .int (iI cst), .int (iI F), .int (iI kn)])), (q1, aI gi 300 bh), (q2, aI gi 60 (uP p1 j.toNat z_12)), (r, .inr (3, [.ref a, .int (iI t)])), (a, aI gi 60 g)] := hD
          refine lv_goto (tgt := 73) hx hb dX3_tracePath_24 (by decide) ?_
          refine lv_iinc (v := iI (j + 1)) (lv' := [(3, .int (iI (j + 1))), (0, .ref o), (1, .ref r), (2, .int (iI ch))]) hx hb dX3_tracePath_73 hl (k := 3) rfl (iI_add _ _) (by decide) rfl (fun ls hl => ?_)
          refine lv_goto (tgt := 2) hx hb dX3_tracePath_76 (by decide) ?_
          exact ih_2 (j + 1) (uP p1 j.toNat z_12) (by omega) (uP_all hj.1 hpl (by omega)) (by omega) H locs hP hD hS ls (lv_sub hl [1, 2, 3, 0] rfl)
  exact loop_2 ((t - 0 : Int).toNat + 1) 0 pl (by omega) (fun k hk => absurd hk (by omega)) (by omega) s.heap [] hP hD hS ls (lv_sub hl [1, 2, 3, 0] rfl)
set_option maxHeartbeats 4000000 in
set_option maxRecDepth 100000 in
theorem c_X3_beginsFrame (l : Launch) (D : va_G) (gi gc gr : ClassId) (o : Nat) (q1 : Nat) (q2 : Nat) (q3 : Nat) (q4 : Nat) (q5 : Nat) (q6 : Nat) (cst : Int) (F : Int) (kn : Int) (pl : Nat → Int) (f : Int) (hf : 0 ≤ f ∧ f < 60) (hp1 : 0 ≤ pl f.toNat ∧ pl f.toNat < 5) (hp2 : 0 < f → 0 ≤ pl (f - 1).toNat ∧ pl (f - 1).toNat < 5) : Met l yX3_beginsFrame wsX3_beginsFrame { frames := 0, cells := 0, slots := 0, locals := 0 } (zPr D gi gc gr [(o, .inr (2, [.ref q1, .ref q2, .ref q3, .ref q4, .ref q5, .ref q6, .int (iI cst), .int (iI F), .int (iI kn)])), (q2, aI gi 60 pl)] [.ref o, .int (iI f)]) (vp_Si (fun v => ∃ z : Int, v = iI z ∧ ((z = 0 ∧ 0 < f) ∨ z = 1))) 0 0 (fun _ => False) := by
  refine zt_metRz (own := RX3) (cc := cX3_beginsFrame) (maxL := 3) (by decide) rfl rfl (Nat.le_of_ble_eq_true rfl) ?_
  intro p e s m args below meth c Q C hK hP hQ ls hl
  have hx := C.1
  have hb := C.2.1
  have hml := C.2.2.1
  have hown := C.2.2.2.1
  have hts := C.2.2.2.2
  have i3 : ∀ w ∈ u_ws RX3 TX3 9, w ∈ wsX3_beginsFrame := by decide +kernel
  have f15 := hts (.fieldLink RX3 15 "Threetwo$Rhythm" "places" "[I") (by decide +kernel)
  have hl : lv_has ls 3 [(0, .ref o), (1, .int (iI f))] := hl
  refine lv_aload_n hx hb dX3_beginsFrame_0 rfl (lv_at hl 0 rfl) ?_
  refine va_get (D := D) (ci := 2) (v := .ref q2) (C := RX3) (T := TX3) (N := 9) hx hb hts i3 hown hK.1 hP 0 rfl rfl 1 (by decide) f15 (fun _ h9 => h9) rfl dX3_beginsFrame_1 ?_
  refine lv_iload_n hx hb dX3_beginsFrame_4 rfl (lv_at hl 1 rfl) ?_
  refine zt_iald hx hb hK.1 hP 1 0 rfl rfl (by omega) (by omega) dX3_beginsFrame_5 ?_
  refine lv_istore_n (lv' := [(2, .int (iI (pl f.toNat))), (0, .ref o), (1, .int (iI f))]) hx hb dX3_beginsFrame_6 rfl hl (by decide) rfl (fun ls hl => ?_)
  refine lv_iload_n hx hb dX3_beginsFrame_7 rfl (lv_at hl 2 rfl) ?_
  refine zt_if_eq (tgt := 36) hx hb dX3_beginsFrame_8 (by decide) (by omega) (fun c_1 => ?_) (fun c_1 => ?_)
  · refine lv_iconst (v := iI (1)) hx hb dX3_beginsFrame_36 (by decide +kernel) ?_
    refine lv_goto (tgt := 41) hx hb dX3_beginsFrame_37 (by decide) ?_
    exact hQ _ _ _ (by first | rfl | decide +kernel) (⟨_, rfl, by omega⟩) dX3_beginsFrame_41
  · refine lv_iload_n hx hb dX3_beginsFrame_11 rfl (lv_at hl 0 rfl) ?_
    refine zt_if_eq (tgt := 36) hx hb dX3_beginsFrame_12 (by decide) (by omega) (fun c_2 => ?_) (fun c_2 => ?_)
    · refine lv_iconst (v := iI (1)) hx hb dX3_beginsFrame_36 (by decide +kernel) ?_
      refine lv_goto (tgt := 41) hx hb dX3_beginsFrame_37 (by decide) ?_
      exact hQ _ _ _ (by first | rfl | decide +kernel) (⟨_, rfl, by omega⟩) dX3_beginsFrame_41
    · refine lv_iload_n hx hb dX3_beginsFrame_15 rfl (lv_at hl 0 rfl) ?_
      refine lv_iconst (v := iI (2)) hx hb dX3_beginsFrame_16 (by decide +kernel) ?_
      refine zt_icmp_eq (tgt := 36) hx hb dX3_beginsFrame_17 (by decide) (by omega) (fun c_3 => ?_) (fun c_3 => ?_)
      · refine lv_iconst (v := iI (1)) hx hb dX3_beginsFrame_36 (by decide +kernel) ?_
        refine lv_goto (tgt := 41) hx hb dX3_beginsFrame_37 (by decide) ?_
        exact hQ _ _ _ (by first | rfl | decide +kernel) (⟨_, rfl, by omega⟩) dX3_beginsFrame_41
      · refine lv_iload_n hx hb dX3_beginsFrame_20 rfl (lv_at hl 0 rfl) ?_
        refine lv_aload_n hx hb dX3_beginsFrame_21 rfl (lv_at hl 1 rfl) ?_
        refine va_get (D := D) (ci := 2) (v := .ref q2) (C := RX3) (T := TX3) (N := 9) hx hb hts i3 hown hK.1 hP 0 rfl rfl 1 (by decide) f15 (fun _ h9 => h9) rfl dX3_beginsFrame_22 ?_
        refine lv_iload_n hx hb dX3_beginsFrame_25 rfl (lv_at hl 2 rfl) ?_
        refine lv_iconst (v := iI (1)) hx hb dX3_beginsFrame_26 (by decide +kernel) ?_
        refine zt_isub hx hb dX3_beginsFrame_27 ?_
        refine zt_iald hx hb hK.1 hP 1 0 rfl rfl (by omega) (by omega) dX3_beginsFrame_28 ?_
        have hp3 := hp2 (by omega)
        refine lv_iconst (v := iI (1)) hx hb dX3_beginsFrame_29 (by decide +kernel) ?_
        refine zt_iadd hx hb dX3_beginsFrame_30 ?_
        refine lv_iconst (v := iI (5)) hx hb dX3_beginsFrame_31 (by decide +kernel) ?_
        refine zt_irem hx hb dX3_beginsFrame_32 (by omega) ?_
        refine zt_icmp_eq (tgt := 40) hx hb dX3_beginsFrame_33 (by decide) (by omega) (fun c_4 => ?_) (fun c_4 => ?_)
        · refine lv_iconst (v := iI (0)) hx hb dX3_beginsFrame_40 (by decide +kernel) ?_
          exact hQ _ _ _ (by first | rfl | decide +kernel) (⟨_, rfl, by omega⟩) dX3_beginsFrame_41
        · refine lv_iconst (v := iI (1)) hx hb dX3_beginsFrame_36 (by decide +kernel) ?_
          refine lv_goto (tgt := 41) hx hb dX3_beginsFrame_37 (by decide) ?_
          exact hQ _ _ _ (by first | rfl | decide +kernel) (⟨_, rfl, by omega⟩) dX3_beginsFrame_41
set_option maxHeartbeats 16000000 in
set_option maxRecDepth 100000 in
theorem c_X3_gatherFrames (l : Launch) (D : va_G) (gi gc gr : ClassId) (sz : Nat) (o : Nat) (q1 : Nat) (q2 : Nat) (q3 : Nat) (q4 : Nat) (q5 : Nat) (q6 : Nat) (cst : Int) (F : Int) (kn : Int) (pl : Nat → Int) (fo : Nat → Int) (fi : Nat → Int) (le : Nat → Int) (x : Int) (hx0 : 0 ≤ x ∧ x ≤ 60) (hpl : ∀ k : Nat, (k : Int) < x → 0 ≤ pl k ∧ pl k < 5) : Met l yX3_gatherFrames wsX3_gatherFrames { frames := 1, cells := 0, slots := 0, locals := 22 } (zPw D gi gc gr [(o, .inr (2, [.ref q1, .ref q2, .ref q3, .ref q4, .ref q5, .ref q6, .int (iI cst), .int (iI F), .int (iI kn)])), (q2, aI gi 60 pl), (q3, aI gi 60 fo), (q4, aI gi 60 fi), (q5, aI gi 60 le)] sz [.ref o, .int (iI x)]) (va_Qv (S := Int × (Nat → Int) × (Nat → Int) × (Nat → Int)) (fun u => Cov u.1 x u.2.2.1 u.2.2.2) (zB D (va_A [(o, .inr (2, [.ref q1, .ref q2, .ref q3, .ref q4, .ref q5, .ref q6, .int (iI cst), .int (iI F), .int (iI kn)])), (q2, aI gi 60 pl), (q3, aI gi 60 fo), (q4, aI gi 60 fi), (q5, aI gi 60 le)] sz) (fun u => [(o, .inr (2, [.ref q1, .ref q2, .ref q3, .ref q4, .ref q5, .ref q6, .int (iI cst), .int (iI u.1), .int (iI kn)])), (q2, aI gi 60 pl), (q3, aI gi 60 u.2.1), (q4, aI gi 60 u.2.2.1), (q5, aI gi 60 u.2.2.2)])) (va_A [(o, .inr (2, [.ref q1, .ref q2, .ref q3, .ref q4, .ref q5, .ref q6, .int (iI cst), .int (iI F), .int (iI kn)])), (q2, aI gi 60 pl), (q3, aI gi 60 fo), (q4, aI gi 60 fi), (q5, aI gi 60 le)] sz)) 0 0 (va_A [(o, .inr (2, [.ref q1, .ref q2, .ref q3, .ref q4, .ref q5, .ref q6, .int (iI cst), .int (iI F), .int (iI kn)])), (q2, aI gi 60 pl), (q3, aI gi 60 fo), (q4, aI gi 60 fi), (q5, aI gi 60 le)] sz) := by
  refine zt_metWv (own := RX3) (cc := cX3_gatherFrames) (maxL := 4) (by decide) rfl rfl (Nat.le_of_ble_eq_true rfl) ?_
  intro p e s m args below meth c Q A C hK hP hD hS hA _ hQ ls hl
  have hx := C.1
  have hb := C.2.1
  have hml := C.2.2.1
  have hown := C.2.2.2.1
  have hts := C.2.2.2.2
  have i3 : ∀ w ∈ u_ws RX3 TX3 9, w ∈ wsX3_gatherFrames := by decide +kernel
  have f18 := hts (.fieldLink RX3 18 "Threetwo$Rhythm" "frameOf" "[I") (by decide +kernel)
  have f21 := hts (.fieldLink RX3 21 "Threetwo$Rhythm" "firsts" "[I") (by decide +kernel)
  have f24 := hts (.fieldLink RX3 24 "Threetwo$Rhythm" "lengths" "[I") (by decide +kernel)
  have f34 := hts (.fieldLink RX3 34 "Threetwo$Rhythm" "frames" "I") (by decide +kernel)
  have hl : lv_has ls 4 [(0, .ref o), (1, .int (iI x))] := hl
  refine lv_aload_n hx hb dX3_gatherFrames_0 rfl (lv_at hl 0 rfl) ?_
  refine lv_iconst (v := iI (0)) hx hb dX3_gatherFrames_1 (by decide +kernel) ?_
  refine va_put (D := D) (ci := 2) (v := .int (iI 0)) (ty := .int) (C := RX3) (T := TX3) (N := 9) hx hb hts i3 tyX3 tyX3_ok nmX3 hown hK.1 hP hD hS 0 rfl rfl 7 (by decide) f34 (fun _ h9 => h9) rfl (by decide +kernel) rfl rfl (Nat.le_of_ble_eq_true rfl) dX3_gatherFrames_2 (fun H locs hP hD hS => ?_)
  have hP : va_P D vwCl [(o, .inr (2, [.ref q1, .ref q2, .ref q3, .ref q4, .ref q5, .ref q6, .int (iI cst), .int (iI 0), .int (iI kn)])), (q2, aI gi 60 pl), (q3, aI gi 60 fo), (q4, aI gi 60 fi), (q5, aI gi 60 le)] H := hP
  have hD : va_D A [(o, .inr (2, [.ref q1, .ref q2, .ref q3, .ref q4, .ref q5, .ref q6, .int (iI cst), .int (iI 0), .int (iI kn)])), (q2, aI gi 60 pl), (q3, aI gi 60 fo), (q4, aI gi 60 fi), (q5, aI gi 60 le)] := hD
  refine lv_iconst (v := iI (0)) hx hb dX3_gatherFrames_5 (by decide +kernel) ?_
  refine lv_istore_n (lv' := [(2, .int (iI 0)), (0, .ref o), (1, .int (iI x))]) hx hb dX3_gatherFrames_6 rfl hl (by decide) rfl (fun ls hl => ?_)
  refine lv_iconst (v := iI (0)) hx hb dX3_gatherFrames_7 (by decide +kernel) ?_
  refine lv_istore_n (lv' := [(3, .int (iI 0)), (2, .int (iI 0)), (0, .ref o), (1, .int (iI x))]) hx hb dX3_gatherFrames_8 rfl hl (by decide) rfl (fun ls hl => ?_)
  have loop_9 : ∀ (n_9 : Nat) (sta : Int) (j : Int) (F1 : Int) (o1 : Nat → Int) (i1 : Nat → Int) (l1 : Nat → Int) (hj : 0 ≤ j ∧ j ≤ x) (hcv : Cov F1 j i1 l1) (hst : 0 < F1 → sta = i1 (F1 - 1).toNat) (hm_9 : x - j < (n_9 : Int)) (H : Heap) (locs : List Loc) (hP : va_P D vwCl [(o, .inr (2, [.ref q1, .ref q2, .ref q3, .ref q4, .ref q5, .ref q6, .int (iI cst), .int (iI F1), .int (iI kn)])), (q2, aI gi 60 pl), (q3, aI gi 60 o1), (q4, aI gi 60 i1), (q5, aI gi 60 l1)] H) (hD : va_D A [(o, .inr (2, [.ref q1, .ref q2, .ref q3, .ref q4, .ref q5, .ref q6, .int (iI cst), .int (iI F1), .int (iI kn)])), (q2, aI gi 60 pl), (q3, aI gi 60 o1), (q4, aI gi 60 i1), (q5, aI gi 60 l1)]) (hS : va_S A s.heap H locs) (ls : Array Slot) (hl : lv_has ls 4 [(0, .ref o), (1, .int (iI x)), (2, .int (iI sta)), (3, .int (iI j))]), W p l e { frames := 1, cells := 0, slots := 0, locals := 22 } s m args below meth c H locs 0 0 Q (F0 m 9 ls []) := by
    intro n_9
    induction n_9 with
    | zero => intro sta j F1 o1 i1 l1 hj hcv hst hm_9 H locs hP hD hS ls hl; exact absurd hm_9 (by omega)
    | succ n_9 ih_9 =>
      intro sta j F1 o1 i1 l1 hj hcv hst hm_9 H locs hP hD hS ls hl
      refine lv_iload_n hx hb dX3_gatherFrames_9 rfl (lv_at hl 3 rfl) ?_
      refine lv_iload_n hx hb dX3_gatherFrames_10 rfl (lv_at hl 1 rfl) ?_
      refine zt_icmp_ge (tgt := 78) hx hb dX3_gatherFrames_11 (by decide) (by omega) (fun c_1 => ?_) (fun c_1 => ?_)
      · exact hQ (F1, o1, i1, l1) _ _ _ _ (by rw [show x = j by omega]; exact hcv) hP hD hS dX3_gatherFrames_78
      · refine lv_aload_n hx hb dX3_gatherFrames_14 rfl (lv_at hl 0 rfl) ?_
        refine lv_iload_n hx hb dX3_gatherFrames_15 rfl (lv_at hl 3 rfl) ?_
        have hp1 := hpl j.toNat (by omega)
        have hp2 : 0 < j → 0 ≤ pl (j - 1).toNat ∧ pl (j - 1).toNat < 5 := fun _ => hpl (j - 1).toNat (by omega)
        have hcv1 := hcv.1
        refine zt_callV C (As := [.int (iI j)]) (rest := []) (c_X3_beginsFrame l D gi gc gr o q1 q2 q3 q4 q5 q6 cst F1 kn pl j (by first | omega | assumption) (by first | omega | assumption) (by first | omega | assumption)) (cwV 1 hts gX3_gatherFrames_X3_beginsFrame rfl rfl rfl (by decide +kernel) ⟨Nat.le_of_ble_eq_true rfl, Nat.le_of_ble_eq_true rfl⟩) (zt_preV hK (hP.sub (ws' := [(o, .inr (2, [.ref q1, .ref q2, .ref q3, .ref q4, .ref q5, .ref q6, .int (iI cst), .int (iI F1), .int (iI kn)])), (q2, aI gi 60 pl)]) [0, 1] rfl) [.int (iI j)] 0 rfl rfl) rfl hl.1 rfl (Nat.le_of_ble_eq_true rfl) dX3_gatherFrames_16 ⟨Nat.le_of_ble_eq_true rfl, Nat.le_of_ble_eq_true rfl⟩ (fun r_2 hr_2 => ?_)
        obtain ⟨z_3, rfl, hz_3⟩ := hr_2
        refine zt_if_eq (tgt := 44) hx hb dX3_gatherFrames_19 (by decide) (by omega) (fun c_4 => ?_) (fun c_4 => ?_)
        · refine lv_aload_n hx hb dX3_gatherFrames_44 rfl (lv_at hl 0 rfl) ?_
          refine va_get (D := D) (ci := 2) (v := .ref q3) (C := RX3) (T := TX3) (N := 9) hx hb hts i3 hown hK.1 hP 0 rfl rfl 2 (by decide) f18 (fun _ h9 => h9) rfl dX3_gatherFrames_45 ?_
          refine lv_iload_n hx hb dX3_gatherFrames_48 rfl (lv_at hl 3 rfl) ?_
          refine lv_aload_n hx hb dX3_gatherFrames_49 rfl (lv_at hl 0 rfl) ?_
          refine va_get (D := D) (ci := 2) (v := .int (iI F1)) (C := RX3) (T := TX3) (N := 9) hx hb hts i3 hown hK.1 hP 0 rfl rfl 7 (by decide) f34 (fun _ h9 => h9) rfl dX3_gatherFrames_50 ?_
          refine lv_iconst (v := iI (1)) hx hb dX3_gatherFrames_53 (by decide +kernel) ?_
          refine zt_isub hx hb dX3_gatherFrames_54 ?_
          refine zt_iast (g := o1) (x := F1 - 1) hx hb hK.1 hP hD hS 2 0 rfl rfl (by omega) (by omega) dX3_gatherFrames_55 (fun H locs hP hD hS => ?_)
          have hP : va_P D vwCl [(o, .inr (2, [.ref q1, .ref q2, .ref q3, .ref q4, .ref q5, .ref q6, .int (iI cst), .int (iI F1), .int (iI kn)])), (q2, aI gi 60 pl), (q3, aI gi 60 (uP o1 j.toNat (F1 - 1))), (q4, aI gi 60 i1), (q5, aI gi 60 l1)] H := hP
          have hD : va_D A [(o, .inr (2, [.ref q1, .ref q2, .ref q3, .ref q4, .ref q5, .ref q6, .int (iI cst), .int (iI F1), .int (iI kn)])), (q2, aI gi 60 pl), (q3, aI gi 60 (uP o1 j.toNat (F1 - 1))), (q4, aI gi 60 i1), (q5, aI gi 60 l1)] := hD
          refine lv_aload_n hx hb dX3_gatherFrames_56 rfl (lv_at hl 0 rfl) ?_
          refine va_get (D := D) (ci := 2) (v := .ref q5) (C := RX3) (T := TX3) (N := 9) hx hb hts i3 hown hK.1 hP 0 rfl rfl 4 (by decide) f24 (fun _ h9 => h9) rfl dX3_gatherFrames_57 ?_
          refine lv_aload_n hx hb dX3_gatherFrames_60 rfl (lv_at hl 0 rfl) ?_
          refine va_get (D := D) (ci := 2) (v := .int (iI F1)) (C := RX3) (T := TX3) (N := 9) hx hb hts i3 hown hK.1 hP 0 rfl rfl 7 (by decide) f34 (fun _ h9 => h9) rfl dX3_gatherFrames_61 ?_
          refine lv_iconst (v := iI (1)) hx hb dX3_gatherFrames_64 (by decide +kernel) ?_
          refine zt_isub hx hb dX3_gatherFrames_65 ?_
          refine lv_iload_n hx hb dX3_gatherFrames_66 rfl (lv_at hl 3 rfl) ?_
          refine lv_iload_n hx hb dX3_gatherFrames_67 rfl (lv_at hl 2 rfl) ?_
          refine zt_isub hx hb dX3_gatherFrames_68 ?_
          refine lv_iconst (v := iI (1)) hx hb dX3_gatherFrames_69 (by decide +kernel) ?_
          refine zt_iadd hx hb dX3_gatherFrames_70 ?_
          refine zt_iast (g := l1) (x := (j - sta) + 1) hx hb hK.1 hP hD hS 4 0 rfl rfl (by omega) (by omega) dX3_gatherFrames_71 (fun H locs hP hD hS => ?_)
          have hP : va_P D vwCl [(o, .inr (2, [.ref q1, .ref q2, .ref q3, .ref q4, .ref q5, .ref q6, .int (iI cst), .int (iI F1), .int (iI kn)])), (q2, aI gi 60 pl), (q3, aI gi 60 (uP o1 j.toNat (F1 - 1))), (q4, aI gi 60 i1), (q5, aI gi 60 (uP l1 (F1 - 1).toNat ((j - sta) + 1)))] H := hP
          have hD : va_D A [(o, .inr (2, [.ref q1, .ref q2, .ref q3, .ref q4, .ref q5, .ref q6, .int (iI cst), .int (iI F1), .int (iI kn)])), (q2, aI gi 60 pl), (q3, aI gi 60 (uP o1 j.toNat (F1 - 1))), (q4, aI gi 60 i1), (q5, aI gi 60 (uP l1 (F1 - 1).toNat ((j - sta) + 1)))] := hD
          refine lv_iinc (v := iI (j + 1)) (lv' := [(3, .int (iI (j + 1))), (0, .ref o), (1, .int (iI x)), (2, .int (iI sta))]) hx hb dX3_gatherFrames_72 hl (k := 3) rfl (iI_add _ _) (by decide) rfl (fun ls hl => ?_)
          refine lv_goto (tgt := 9) hx hb dX3_gatherFrames_75 (by decide) ?_
          exact ih_9 sta (j + 1) F1 (uP o1 j.toNat (F1 - 1)) i1 (uP l1 (F1 - 1).toNat ((j - sta) + 1)) (by omega) (by first | exact Cov_new hcv hj.1 | exact Cov_more hcv (by omega) (hst (by omega))) (by first | (intro _; rw [show ((F1 + 1) - 1).toNat = F1.toNat by omega, uP_s]) | exact hst) (by omega) H locs hP hD hS ls (lv_sub hl [1, 2, 3, 0] rfl)
        · refine lv_iload_n hx hb dX3_gatherFrames_22 rfl (lv_at hl 3 rfl) ?_
          refine lv_istore_n (lv' := [(2, .int (iI j)), (0, .ref o), (1, .int (iI x)), (3, .int (iI j))]) hx hb dX3_gatherFrames_23 rfl hl (by decide) rfl (fun ls hl => ?_)
          refine lv_aload_n hx hb dX3_gatherFrames_24 rfl (lv_at hl 1 rfl) ?_
          refine va_get (D := D) (ci := 2) (v := .ref q4) (C := RX3) (T := TX3) (N := 9) hx hb hts i3 hown hK.1 hP 0 rfl rfl 3 (by decide) f21 (fun _ h9 => h9) rfl dX3_gatherFrames_25 ?_
          refine lv_aload_n hx hb dX3_gatherFrames_28 rfl (lv_at hl 1 rfl) ?_
          refine va_get (D := D) (ci := 2) (v := .int (iI F1)) (C := RX3) (T := TX3) (N := 9) hx hb hts i3 hown hK.1 hP 0 rfl rfl 7 (by decide) f34 (fun _ h9 => h9) rfl dX3_gatherFrames_29 ?_
          refine lv_iload_n hx hb dX3_gatherFrames_32 rfl (lv_at hl 0 rfl) ?_
          refine zt_iast (g := i1) (x := j) hx hb hK.1 hP hD hS 3 0 rfl rfl (by omega) (by omega) dX3_gatherFrames_33 (fun H locs hP hD hS => ?_)
          have hP : va_P D vwCl [(o, .inr (2, [.ref q1, .ref q2, .ref q3, .ref q4, .ref q5, .ref q6, .int (iI cst), .int (iI F1), .int (iI kn)])), (q2, aI gi 60 pl), (q3, aI gi 60 o1), (q4, aI gi 60 (uP i1 F1.toNat j)), (q5, aI gi 60 l1)] H := hP
          have hD : va_D A [(o, .inr (2, [.ref q1, .ref q2, .ref q3, .ref q4, .ref q5, .ref q6, .int (iI cst), .int (iI F1), .int (iI kn)])), (q2, aI gi 60 pl), (q3, aI gi 60 o1), (q4, aI gi 60 (uP i1 F1.toNat j)), (q5, aI gi 60 l1)] := hD
          refine lv_aload_n hx hb dX3_gatherFrames_34 rfl (lv_at hl 1 rfl) ?_
          refine lv_dup hx hb dX3_gatherFrames_35 rfl ?_
          refine va_get (D := D) (ci := 2) (v := .int (iI F1)) (C := RX3) (T := TX3) (N := 9) hx hb hts i3 hown hK.1 hP 0 rfl rfl 7 (by decide) f34 (fun _ h9 => h9) rfl dX3_gatherFrames_36 ?_
          refine lv_iconst (v := iI (1)) hx hb dX3_gatherFrames_39 (by decide +kernel) ?_
          refine zt_iadd hx hb dX3_gatherFrames_40 ?_
          refine va_put (D := D) (ci := 2) (v := .int (iI (F1 + 1))) (ty := .int) (C := RX3) (T := TX3) (N := 9) hx hb hts i3 tyX3 tyX3_ok nmX3 hown hK.1 hP hD hS 0 rfl rfl 7 (by decide) f34 (fun _ h9 => h9) rfl (by decide +kernel) rfl rfl (Nat.le_of_ble_eq_true rfl) dX3_gatherFrames_41 (fun H locs hP hD hS => ?_)
          have hP : va_P D vwCl [(o, .inr (2, [.ref q1, .ref q2, .ref q3, .ref q4, .ref q5, .ref q6, .int (iI cst), .int (iI (F1 + 1)), .int (iI kn)])), (q2, aI gi 60 pl), (q3, aI gi 60 o1), (q4, aI gi 60 (uP i1 F1.toNat j)), (q5, aI gi 60 l1)] H := hP
          have hD : va_D A [(o, .inr (2, [.ref q1, .ref q2, .ref q3, .ref q4, .ref q5, .ref q6, .int (iI cst), .int (iI (F1 + 1)), .int (iI kn)])), (q2, aI gi 60 pl), (q3, aI gi 60 o1), (q4, aI gi 60 (uP i1 F1.toNat j)), (q5, aI gi 60 l1)] := hD
          refine lv_aload_n hx hb dX3_gatherFrames_44 rfl (lv_at hl 1 rfl) ?_
          refine va_get (D := D) (ci := 2) (v := .ref q3) (C := RX3) (T := TX3) (N := 9) hx hb hts i3 hown hK.1 hP 0 rfl rfl 2 (by decide) f18 (fun _ h9 => h9) rfl dX3_gatherFrames_45 ?_
          refine lv_iload_n hx hb dX3_gatherFrames_48 rfl (lv_at hl 3 rfl) ?_
          refine lv_aload_n hx hb dX3_gatherFrames_49 rfl (lv_at hl 1 rfl) ?_
          refine va_get (D := D) (ci := 2) (v := .int (iI (F1 + 1))) (C := RX3) (T := TX3) (N := 9) hx hb hts i3 hown hK.1 hP 0 rfl rfl 7 (by decide) f34 (fun _ h9 => h9) rfl dX3_gatherFrames_50 ?_
          refine lv_iconst (v := iI (1)) hx hb dX3_gatherFrames_53 (by decide +kernel) ?_
          refine zt_isub hx hb dX3_gatherFrames_54 ?_
          refine zt_iast (g := o1) (x := (F1 + 1) - 1) hx hb hK.1 hP hD hS 2 0 rfl rfl (by omega) (by omega) dX3_gatherFrames_55 (fun H locs hP hD hS => ?_)
          have hP : va_P D vwCl [(o, .inr (2, [.ref q1, .ref q2, .ref q3, .ref q4, .ref q5, .ref q6, .int (iI cst), .int (iI (F1 + 1)), .int (iI kn)])), (q2, aI gi 60 pl), (q3, aI gi 60 (uP o1 j.toNat ((F1 + 1) - 1))), (q4, aI gi 60 (uP i1 F1.toNat j)), (q5, aI gi 60 l1)] H := hP
          have hD : va_D A [(o, .inr (2, [.ref q1, .ref q2, .ref q3, .ref q4, .ref q5, .ref q6, .int (iI cst), .int (iI (F1 + 1)), .int (iI kn)])), (q2, aI gi 60 pl), (q3, aI gi 60 (uP o1 j.toNat ((F1 + 1) - 1))), (q4, aI gi 60 (uP i1 F1.toNat j)), (q5, aI gi 60 l1)] := hD
          refine lv_aload_n hx hb dX3_gatherFrames_56 rfl (lv_at hl 1 rfl) ?_
          refine va_get (D := D) (ci := 2) (v := .ref q5) (C := RX3) (T := TX3) (N := 9) hx hb hts i3 hown hK.1 hP 0 rfl rfl 4 (by decide) f24 (fun _ h9 => h9) rfl dX3_gatherFrames_57 ?_
          refine lv_aload_n hx hb dX3_gatherFrames_60 rfl (lv_at hl 1 rfl) ?_
          refine va_get (D := D) (ci := 2) (v := .int (iI (F1 + 1))) (C := RX3) (T := TX3) (N := 9) hx hb hts i3 hown hK.1 hP 0 rfl rfl 7 (by decide) f34 (fun _ h9 => h9) rfl dX3_gatherFrames_61 ?_
          refine lv_iconst (v := iI (1)) hx hb dX3_gatherFrames_64 (by decide +kernel) ?_
          refine zt_isub hx hb dX3_gatherFrames_65 ?_
          refine lv_iload_n hx hb dX3_gatherFrames_66 rfl (lv_at hl 3 rfl) ?_
          refine lv_iload_n hx hb dX3_gatherFrames_67 rfl (lv_at hl 0 rfl) ?_
          refine zt_isub hx hb dX3_gatherFrames_68 ?_
          refine lv_iconst (v := iI (1)) hx hb dX3_gatherFrames_69 (by decide +kernel) ?_
          refine zt_iadd hx hb dX3_gatherFrames_70 ?_
          refine zt_iast (g := l1) (x := (j - j) + 1) hx hb hK.1 hP hD hS 4 0 rfl rfl (by omega) (by omega) dX3_gatherFrames_71 (fun H locs hP hD hS => ?_)
          have hP : va_P D vwCl [(o, .inr (2, [.ref q1, .ref q2, .ref q3, .ref q4, .ref q5, .ref q6, .int (iI cst), .int (iI (F1 + 1)), .int (iI kn)])), (q2, aI gi 60 pl), (q3, aI gi 60 (uP o1 j.toNat ((F1 + 1) - 1))), (q4, aI gi 60 (uP i1 F1.toNat j)), (q5, aI gi 60 (uP l1 ((F1 + 1) - 1).toNat ((j - j) + 1)))] H := hP
          have hD : va_D A [(o, .inr (2, [.ref q1, .ref q2, .ref q3, .ref q4, .ref q5, .ref q6, .int (iI cst), .int (iI (F1 + 1)), .int (iI kn)])), (q2, aI gi 60 pl), (q3, aI gi 60 (uP o1 j.toNat ((F1 + 1) - 1))), (q4, aI gi 60 (uP i1 F1.toNat j)), (q5, aI gi 60 (uP l1 ((F1 + 1) - 1).toNat ((j - j) + 1)))] := hD
          refine lv_iinc (v := iI (j + 1)) (lv' := [(3, .int (iI (j + 1))), (2, .int (iI j)), (0, .ref o), (1, .int (iI x))]) hx hb dX3_gatherFrames_72 hl (k := 3) rfl (iI_add _ _) (by decide) rfl (fun ls hl => ?_)
          refine lv_goto (tgt := 9) hx hb dX3_gatherFrames_75 (by decide) ?_
          exact ih_9 j (j + 1) (F1 + 1) (uP o1 j.toNat ((F1 + 1) - 1)) (uP i1 F1.toNat j) (uP l1 ((F1 + 1) - 1).toNat ((j - j) + 1)) (by omega) (by first | exact Cov_new hcv hj.1 | exact Cov_more hcv (by omega) (hst (by omega))) (by first | (intro _; rw [show ((F1 + 1) - 1).toNat = F1.toNat by omega, uP_s]) | exact hst) (by omega) H locs hP hD hS ls (lv_sub hl [2, 3, 1, 0] rfl)
  exact loop_9 ((x - 0 : Int).toNat + 1) 0 0 0 fo fi le (by omega) (Cov_0 _ _) (fun h => absurd h (by omega)) (by omega) H locs hP hD hS ls (lv_sub hl [2, 3, 1, 0] rfl)
set_option maxHeartbeats 4000000 in
set_option maxRecDepth 100000 in
theorem c_X3_timesOf (l : Launch) (D : va_G) (gi gc gr : ClassId) (x : Int) (r : Nat) (a : Nat) (t : Int) (g : Nat → Int) (x1 : Int) (x2 : Int) (ht : 0 ≤ t ∧ t ≤ 60) (h1 : 0 ≤ x1 ∧ 0 ≤ x2 ∧ x1 + x2 ≤ t) : Met l yX3_timesOf wsX3_timesOf { frames := 1, cells := 0, slots := 0, locals := 21 } (zPr D gi gc gr [(r, .inr (3, [.ref a, .int (iI t)])), (a, aI gi 60 g)] [.int (iI x), .ref r, .int (iI x1), .int (iI x2)]) (vp_Si (fun v => ∃ z : Int, v = iI z ∧ True)) 0 0 (fun _ => False) := by
  refine zt_metRi (own := RX3) (cc := cX3_timesOf) (maxL := 6) (by decide) rfl rfl (Nat.le_of_ble_eq_true rfl) ?_
  intro p e s m args below meth c Q C hK hP hQ ls hl
  have hx := C.1
  have hb := C.2.1
  have hml := C.2.2.1
  have hown := C.2.2.2.1
  have hts := C.2.2.2.2
  have hl : lv_has ls 6 [(0, .int (iI x)), (1, .ref r), (2, .int (iI x1)), (3, .int (iI x2))] := hl
  refine lv_iconst (v := iI (0)) hx hb dX3_timesOf_0 (by decide +kernel) ?_
  refine lv_istore (lv' := [(4, .int (iI 0)), (0, .int (iI x)), (1, .ref r), (2, .int (iI x1)), (3, .int (iI x2))]) hx hb dX3_timesOf_1 hl (by decide) rfl (fun ls hl => ?_)
  refine lv_iload_n hx hb dX3_timesOf_3 rfl (lv_at hl 3 rfl) ?_
  refine lv_istore (lv' := [(5, .int (iI x1)), (4, .int (iI 0)), (0, .int (iI x)), (1, .ref r), (2, .int (iI x1)), (3, .int (iI x2))]) hx hb dX3_timesOf_4 hl (by decide) rfl (fun ls hl => ?_)
  have loop_6 : ∀ (n_6 : Nat) (y : Int) (j : Int) (hj : x1 ≤ j ∧ j ≤ x1 + x2) (hm_6 : x1 + x2 - j < (n_6 : Int)) (ls : Array Slot) (hl : lv_has ls 6 [(0, .int (iI x)), (1, .ref r), (2, .int (iI x1)), (3, .int (iI x2)), (4, .int (iI y)), (5, .int (iI j))]), W p l e { frames := 1, cells := 0, slots := 0, locals := 21 } s m args below meth c s.heap [] 0 0 Q (F0 m 6 ls []) := by
    intro n_6
    induction n_6 with
    | zero => intro y j hj hm_6 ls hl; exact absurd hm_6 (by omega)
    | succ n_6 ih_6 =>
      intro y j hj hm_6 ls hl
      refine lv_iload hx hb dX3_timesOf_6 (lv_at hl 5 rfl) ?_
      refine lv_iload_n hx hb dX3_timesOf_8 rfl (lv_at hl 2 rfl) ?_
      refine lv_iload_n hx hb dX3_timesOf_9 rfl (lv_at hl 3 rfl) ?_
      refine zt_iadd hx hb dX3_timesOf_10 ?_
      refine zt_icmp_ge (tgt := 33) hx hb dX3_timesOf_11 (by decide) (by omega) (fun c_1 => ?_) (fun c_1 => ?_)
      · refine lv_iload hx hb dX3_timesOf_33 (lv_at hl 4 rfl) ?_
        exact hQ _ _ _ (⟨_, rfl, trivial⟩) dX3_timesOf_35
      · refine lv_aload_n hx hb dX3_timesOf_14 rfl (lv_at hl 1 rfl) ?_
        refine lv_iload hx hb dX3_timesOf_15 (lv_at hl 5 rfl) ?_
        refine zt_callV C (As := [.int (iI j)]) (rest := []) (c_X4_at l D gi gc gr r a 60 t g j (by first | omega | assumption) (by first | omega | assumption) (by first | omega | assumption)) (cwV 1 hts gX3_timesOf_X4_at rfl rfl rfl (by decide +kernel) ⟨Nat.le_of_ble_eq_true rfl, Nat.le_of_ble_eq_true rfl⟩) (zt_preV hK (hP.sub (ws' := [(r, .inr (3, [.ref a, .int (iI t)])), (a, aI gi 60 g)]) [0, 1] rfl) [.int (iI j)] 0 rfl rfl) rfl hl.1 rfl (Nat.le_of_ble_eq_true rfl) dX3_timesOf_17 ⟨Nat.le_of_ble_eq_true rfl, Nat.le_of_ble_eq_true rfl⟩ (fun r_2 hr_2 => ?_)
        obtain rfl := hr_2
        refine lv_iload_n hx hb dX3_timesOf_20 rfl (lv_at hl 0 rfl) ?_
        refine lv_icmp_ne (tgt := 27) hx hb dX3_timesOf_21 (by decide) (fun c_3 => ?_) (fun c_3 => ?_)
        · refine lv_iinc (v := iI (j + 1)) (lv' := [(5, .int (iI (j + 1))), (0, .int (iI x)), (1, .ref r), (2, .int (iI x1)), (3, .int (iI x2)), (4, .int (iI y))]) hx hb dX3_timesOf_27 hl (k := 5) rfl (iI_add _ _) (by decide) rfl (fun ls hl => ?_)
          refine lv_goto (tgt := 6) hx hb dX3_timesOf_30 (by decide) ?_
          exact ih_6 y (j + 1) (by omega) (by omega) ls (lv_sub hl [1, 2, 3, 4, 5, 0] rfl)
        · refine lv_iinc (v := iI (y + 1)) (lv' := [(4, .int (iI (y + 1))), (0, .int (iI x)), (1, .ref r), (2, .int (iI x1)), (3, .int (iI x2)), (5, .int (iI j))]) hx hb dX3_timesOf_24 hl (k := 4) rfl (iI_add _ _) (by decide) rfl (fun ls hl => ?_)
          refine lv_iinc (v := iI (j + 1)) (lv' := [(5, .int (iI (j + 1))), (4, .int (iI (y + 1))), (0, .int (iI x)), (1, .ref r), (2, .int (iI x1)), (3, .int (iI x2))]) hx hb dX3_timesOf_27 hl (k := 5) rfl (iI_add _ _) (by decide) rfl (fun ls hl => ?_)
          refine lv_goto (tgt := 6) hx hb dX3_timesOf_30 (by decide) ?_
          exact ih_6 (y + 1) (j + 1) (by omega) (by omega) ls (lv_sub hl [2, 3, 4, 5, 1, 0] rfl)
  exact loop_6 ((x1 + x2 - x1 : Int).toNat + 1) 0 x1 (by omega) (by omega) ls (lv_sub hl [2, 3, 4, 5, 1, 0] rfl)
set_option maxHeartbeats 4000000 in
set_option maxRecDepth 100000 in
theorem c_X3_commonLook (l : Launch) (D : va_G) (gi gc gr : ClassId) (r : Nat) (a : Nat) (t : Int) (g : Nat → Int) (x1 : Int) (x2 : Int) (ht : 0 ≤ t ∧ t ≤ 60) (h1 : 0 ≤ x1 ∧ 0 ≤ x2 ∧ x1 + x2 ≤ t) : Met l yX3_commonLook wsX3_commonLook { frames := 2, cells := 0, slots := 0, locals := 46 } (zPr D gi gc gr [(r, .inr (3, [.ref a, .int (iI t)])), (a, aI gi 60 g)] [.ref r, .int (iI x1), .int (iI x2)]) (vp_Si (fun v => ∃ z : Int, v = iI z ∧ True)) 0 0 (fun _ => False) := by
  refine zt_metRi (own := RX3) (cc := cX3_commonLook) (maxL := 8) (by decide) rfl rfl (Nat.le_of_ble_eq_true rfl) ?_
  intro p e s m args below meth c Q C hK hP hQ ls hl
  have hx := C.1
  have hb := C.2.1
  have hml := C.2.2.1
  have hown := C.2.2.2.1
  have hts := C.2.2.2.2
  have hl : lv_has ls 8 [(0, .ref r), (1, .int (iI x1)), (2, .int (iI x2))] := hl
  refine lv_iconst (v := iI (-1)) hx hb dX3_commonLook_0 (by decide +kernel) ?_
  refine lv_istore_n (lv' := [(3, .int (iI (-1))), (0, .ref r), (1, .int (iI x1)), (2, .int (iI x2))]) hx hb dX3_commonLook_1 rfl hl (by decide) rfl (fun ls hl => ?_)
  refine lv_iconst (v := iI (0)) hx hb dX3_commonLook_2 (by decide +kernel) ?_
  refine lv_istore (lv' := [(4, .int (iI 0)), (3, .int (iI (-1))), (0, .ref r), (1, .int (iI x1)), (2, .int (iI x2))]) hx hb dX3_commonLook_3 hl (by decide) rfl (fun ls hl => ?_)
  refine lv_iload_n hx hb dX3_commonLook_5 rfl (lv_at hl 3 rfl) ?_
  refine lv_istore (lv' := [(5, .int (iI x1)), (4, .int (iI 0)), (3, .int (iI (-1))), (0, .ref r), (1, .int (iI x1)), (2, .int (iI x2))]) hx hb dX3_commonLook_6 hl (by decide) rfl (fun ls hl => ?_)
  have loop_8 : ∀ (n_8 : Nat) (x : Int) (y : Int) (j : Int) (hj : x1 ≤ j ∧ j ≤ x1 + x2) (hm_8 : x1 + x2 - j < (n_8 : Int)) (ls : Array Slot) (hl : lv_has ls 8 [(0, .ref r), (1, .int (iI x1)), (2, .int (iI x2)), (3, .int (iI x)), (4, .int (iI y)), (5, .int (iI j))]), W p l e { frames := 2, cells := 0, slots := 0, locals := 46 } s m args below meth c s.heap [] 0 0 Q (F0 m 8 ls []) := by
    intro n_8
    induction n_8 with
    | zero => intro x y j hj hm_8 ls hl; exact absurd hm_8 (by omega)
    | succ n_8 ih_8 =>
      intro x y j hj hm_8 ls hl
      refine lv_iload hx hb dX3_commonLook_8 (lv_at hl 5 rfl) ?_
      refine lv_iload_n hx hb dX3_commonLook_10 rfl (lv_at hl 1 rfl) ?_
      refine lv_iload_n hx hb dX3_commonLook_11 rfl (lv_at hl 2 rfl) ?_
      refine zt_iadd hx hb dX3_commonLook_12 ?_
      refine zt_icmp_ge (tgt := 67) hx hb dX3_commonLook_13 (by decide) (by omega) (fun c_1 => ?_) (fun c_1 => ?_)
      · refine lv_iload_n hx hb dX3_commonLook_67 rfl (lv_at hl 3 rfl) ?_
        exact hQ _ _ _ (⟨_, rfl, trivial⟩) dX3_commonLook_68
      · refine lv_aload_n hx hb dX3_commonLook_16 rfl (lv_at hl 0 rfl) ?_
        refine lv_iload hx hb dX3_commonLook_17 (lv_at hl 5 rfl) ?_
        refine zt_callV C (As := [.int (iI j)]) (rest := []) (c_X4_at l D gi gc gr r a 60 t g j (by first | omega | assumption) (by first | omega | assumption) (by first | omega | assumption)) (cwV 1 hts gX3_commonLook_X4_at rfl rfl rfl (by decide +kernel) ⟨Nat.le_of_ble_eq_true rfl, Nat.le_of_ble_eq_true rfl⟩) (zt_preV hK (hP.sub (ws' := [(r, .inr (3, [.ref a, .int (iI t)])), (a, aI gi 60 g)]) [0, 1] rfl) [.int (iI j)] 0 rfl rfl) rfl hl.1 rfl (Nat.le_of_ble_eq_true rfl) dX3_commonLook_19 ⟨Nat.le_of_ble_eq_true rfl, Nat.le_of_ble_eq_true rfl⟩ (fun r_2 hr_2 => ?_)
        obtain rfl := hr_2
        refine lv_istore (lv' := [(6, .int (iI (g j.toNat))), (0, .ref r), (1, .int (iI x1)), (2, .int (iI x2)), (3, .int (iI x)), (4, .int (iI y)), (5, .int (iI j))]) hx hb dX3_commonLook_22 hl (by decide) rfl (fun ls hl => ?_)
        refine lv_iload hx hb dX3_commonLook_24 (lv_at hl 0 rfl) ?_
        refine lv_aload_n hx hb dX3_commonLook_26 rfl (lv_at hl 1 rfl) ?_
        refine lv_iload_n hx hb dX3_commonLook_27 rfl (lv_at hl 2 rfl) ?_
        refine lv_iload_n hx hb dX3_commonLook_28 rfl (lv_at hl 3 rfl) ?_
        refine zt_callS C (As := [.int (iI (g j.toNat)), .ref r, .int (iI x1), .int (iI x2)]) (rest := []) (c_X3_timesOf l D gi gc gr (g j.toNat) r a t g x1 x2 (by first | omega | assumption) (by first | omega | assumption)) (va_cwS 4 hts gX3_commonLook_X3_timesOf rfl rfl rfl (by decide +kernel) ⟨Nat.le_of_ble_eq_true rfl, Nat.le_of_ble_eq_true rfl⟩) (zt_preS hK (hP.sub (ws' := [(r, .inr (3, [.ref a, .int (iI t)])), (a, aI gi 60 g)]) [0, 1] rfl) [.int (iI (g j.toNat)), .ref r, .int (iI x1), .int (iI x2)]) rfl hl.1 rfl (Nat.le_of_ble_eq_true rfl) dX3_commonLook_29 ⟨Nat.le_of_ble_eq_true rfl, Nat.le_of_ble_eq_true rfl⟩ (fun r_3 hr_3 => ?_)
        obtain ⟨z_4, rfl, hz_4⟩ := hr_3
        refine lv_istore (lv' := [(7, .int (iI z_4)), (6, .int (iI (g j.toNat))), (0, .ref r), (1, .int (iI x1)), (2, .int (iI x2)), (3, .int (iI x)), (4, .int (iI y)), (5, .int (iI j))]) hx hb dX3_commonLook_32 hl (by decide) rfl (fun ls hl => ?_)
        refine lv_iload hx hb dX3_commonLook_34 (lv_at hl 0 rfl) ?_
        refine lv_iload hx hb dX3_commonLook_36 (lv_at hl 6 rfl) ?_
        refine lv_icmp_gt (tgt := 54) hx hb dX3_commonLook_38 (by decide) (fun c_5 => ?_) (fun c_5 => ?_)
        · refine lv_iload hx hb dX3_commonLook_54 (lv_at hl 1 rfl) ?_
          refine lv_istore_n (lv' := [(3, .int (iI (g j.toNat))), (7, .int (iI z_4)), (6, .int (iI (g j.toNat))), (0, .ref r), (1, .int (iI x1)), (2, .int (iI x2)), (4, .int (iI y)), (5, .int (iI j))]) hx hb dX3_commonLook_56 rfl hl (by decide) rfl (fun ls hl => ?_)
          refine lv_iload hx hb dX3_commonLook_57 (lv_at hl 1 rfl) ?_
          refine lv_istore (lv' := [(4, .int (iI z_4)), (3, .int (iI (g j.toNat))), (7, .int (iI z_4)), (6, .int (iI (g j.toNat))), (0, .ref r), (1, .int (iI x1)), (2, .int (iI x2)), (5, .int (iI j))]) hx hb dX3_commonLook_59 hl (by decide) rfl (fun ls hl => ?_)
          refine lv_iinc (v := iI (j + 1)) (lv' := [(5, .int (iI (j + 1))), (4, .int (iI z_4)), (3, .int (iI (g j.toNat))), (7, .int (iI z_4)), (6, .int (iI (g j.toNat))), (0, .ref r), (1, .int (iI x1)), (2, .int (iI x2))]) hx hb dX3_commonLook_61 hl (k := 7) rfl (iI_add _ _) (by decide) rfl (fun ls hl => ?_)
          refine lv_goto (tgt := 8) hx hb dX3_commonLook_64 (by decide) ?_
          exact ih_8 (g j.toNat) z_4 (j + 1) (by omega) (by omega) ls (lv_sub hl [5, 6, 7, 2, 1, 0] rfl)
        · refine lv_iload hx hb dX3_commonLook_41 (lv_at hl 0 rfl) ?_
          refine lv_iload hx hb dX3_commonLook_43 (lv_at hl 6 rfl) ?_
          refine lv_icmp_ne (tgt := 61) hx hb dX3_commonLook_45 (by decide) (fun c_6 => ?_) (fun c_6 => ?_)
          · refine lv_iinc (v := iI (j + 1)) (lv' := [(5, .int (iI (j + 1))), (7, .int (iI z_4)), (6, .int (iI (g j.toNat))), (0, .ref r), (1, .int (iI x1)), (2, .int (iI x2)), (3, .int (iI x)), (4, .int (iI y))]) hx hb dX3_commonLook_61 hl (k := 7) rfl (iI_add _ _) (by decide) rfl (fun ls hl => ?_)
            refine lv_goto (tgt := 8) hx hb dX3_commonLook_64 (by decide) ?_
            exact ih_8 x y (j + 1) (by omega) (by omega) ls (lv_sub hl [3, 4, 5, 6, 7, 0] rfl)
          · refine lv_iload hx hb dX3_commonLook_48 (lv_at hl 1 rfl) ?_
            refine lv_iload_n hx hb dX3_commonLook_50 rfl (lv_at hl 5 rfl) ?_
            refine lv_icmp_ge (tgt := 61) hx hb dX3_commonLook_51 (by decide) (fun c_7 => ?_) (fun c_7 => ?_)
            · refine lv_iinc (v := iI (j + 1)) (lv' := [(5, .int (iI (j + 1))), (7, .int (iI z_4)), (6, .int (iI (g j.toNat))), (0, .ref r), (1, .int (iI x1)), (2, .int (iI x2)), (3, .int (iI x)), (4, .int (iI y))]) hx hb dX3_commonLook_61 hl (k := 7) rfl (iI_add _ _) (by decide) rfl (fun ls hl => ?_)
              refine lv_goto (tgt := 8) hx hb dX3_commonLook_64 (by decide) ?_
              exact ih_8 x y (j + 1) (by omega) (by omega) ls (lv_sub hl [3, 4, 5, 6, 7, 0] rfl)
            · refine lv_iload hx hb dX3_commonLook_54 (lv_at hl 1 rfl) ?_
              refine lv_istore_n (lv' := [(3, .int (iI (g j.toNat))), (7, .int (iI z_4)), (6, .int (iI (g j.toNat))), (0, .ref r), (1, .int (iI x1)), (2, .int (iI x2)), (4, .int (iI y)), (5, .int (iI j))]) hx hb dX3_commonLook_56 rfl hl (by decide) rfl (fun ls hl => ?_)
              refine lv_iload hx hb dX3_commonLook_57 (lv_at hl 1 rfl) ?_
              refine lv_istore (lv' := [(4, .int (iI z_4)), (3, .int (iI (g j.toNat))), (7, .int (iI z_4)), (6, .int (iI (g j.toNat))), (0, .ref r), (1, .int (iI x1)), (2, .int (iI x2)), (5, .int (iI j))]) hx hb dX3_commonLook_59 hl (by decide) rfl (fun ls hl => ?_)
              refine lv_iinc (v := iI (j + 1)) (lv' := [(5, .int (iI (j + 1))), (4, .int (iI z_4)), (3, .int (iI (g j.toNat))), (7, .int (iI z_4)), (6, .int (iI (g j.toNat))), (0, .ref r), (1, .int (iI x1)), (2, .int (iI x2))]) hx hb dX3_commonLook_61 hl (k := 7) rfl (iI_add _ _) (by decide) rfl (fun ls hl => ?_)
              refine lv_goto (tgt := 8) hx hb dX3_commonLook_64 (by decide) ?_
              exact ih_8 (g j.toNat) z_4 (j + 1) (by omega) (by omega) ls (lv_sub hl [5, 6, 7, 2, 1, 0] rfl)
  exact loop_8 ((x1 + x2 - x1 : Int).toNat + 1) (-1) 0 x1 (by omega) (by omega) ls (lv_sub hl [3, 4, 5, 2, 1, 0] rfl)
set_option maxHeartbeats 4000000 in
set_option maxRecDepth 100000 in
theorem c_X3_find1 (l : Launch) (D : va_G) (gi gc gr : ClassId) (o : Nat) (q1 : Nat) (q2 : Nat) (q3 : Nat) (q4 : Nat) (q5 : Nat) (q6 : Nat) (cst : Int) (F : Int) (r : Nat) (ch : Int) : Met l yX3_find wsX3_find { frames := 0, cells := 0, slots := 0, locals := 0 } (zPr D gi gc gr [(o, .inr (2, [.ref q1, .ref q2, .ref q3, .ref q4, .ref q5, .ref q6, .int (iI cst), .int (iI F), .int (iI 1)]))] [.ref o, .ref r, .int (iI ch)]) (va_Sv (fun _ => True)) 0 0 (fun _ => False) := by
  refine zt_metRv (own := RX3) (cc := cX3_find) (maxL := 4) (by decide) rfl rfl (Nat.le_of_ble_eq_true rfl) ?_
  intro p e s m args below meth c Q C hK hP hQ ls hl
  have hx := C.1
  have hb := C.2.1
  have hml := C.2.2.1
  have hown := C.2.2.2.1
  have hts := C.2.2.2.2
  have i3 : ∀ w ∈ u_ws RX3 TX3 9, w ∈ wsX3_find := by decide +kernel
  have f37 := hts (.fieldLink RX3 37 "Threetwo$Rhythm" "known" "Z") (by decide +kernel)
  have hl : lv_has ls 4 [(0, .ref o), (1, .ref r), (2, .int (iI ch))] := hl
  refine lv_aload_n hx hb dX3_find_0 rfl (lv_at hl 0 rfl) ?_
  refine va_get (D := D) (ci := 2) (v := .int (iI 1)) (C := RX3) (T := TX3) (N := 9) hx hb hts i3 hown hK.1 hP 0 rfl rfl 8 (by decide) f37 (fun _ h9 => h9) rfl dX3_find_1 ?_
  refine zt_if_eq (tgt := 8) hx hb dX3_find_4 (by decide) (by omega) (fun c_1 => absurd c_1 (by omega)) (fun c_1 => ?_)
  exact hQ _ _ (trivial) dX3_find_7
set_option maxHeartbeats 16000000 in
set_option maxRecDepth 100000 in
theorem c_X3_find (l : Launch) (D : va_G) (gi gc gr : ClassId) (sz : Nat) (o : Nat) (q1 : Nat) (q2 : Nat) (q3 : Nat) (q4 : Nat) (q5 : Nat) (q6 : Nat) (cst : Int) (F : Int) (bh : Nat → Int) (pl : Nat → Int) (fo : Nat → Int) (fi : Nat → Int) (le : Nat → Int) (fl : Nat → Int) (r : Nat) (a : Nat) (t : Int) (g : Nat → Int) (ch : Int) (ht : 0 ≤ t ∧ t ≤ 60) : Met l yX3_find wsX3_find { frames := 3, cells := 0, slots := 0, locals := 79 } (zPw D gi gc gr [(o, .inr (2, [.ref q1, .ref q2, .ref q3, .ref q4, .ref q5, .ref q6, .int (iI cst), .int (iI F), .int (iI 0)])), (q1, aI gi 300 bh), (q2, aI gi 60 pl), (q3, aI gi 60 fo), (q4, aI gi 60 fi), (q5, aI gi 60 le), (q6, aI gi 60 fl), (r, .inr (3, [.ref a, .int (iI t)])), (a, aI gi 60 g)] sz [.ref o, .ref r, .int (iI ch)]) (va_Qv (S := Int × Int × (Nat → Int) × (Nat → Int) × (Nat → Int) × (Nat → Int) × (Nat → Int) × (Nat → Int)) (fun u => Cov u.2.1 t u.2.2.2.2.2.1 u.2.2.2.2.2.2.1) (zB D (va_A [(o, .inr (2, [.ref q1, .ref q2, .ref q3, .ref q4, .ref q5, .ref q6, .int (iI cst), .int (iI F), .int (iI 0)])), (q1, aI gi 300 bh), (q2, aI gi 60 pl), (q3, aI gi 60 fo), (q4, aI gi 60 fi), (q5, aI gi 60 le), (q6, aI gi 60 fl), (r, .inr (3, [.ref a, .int (iI t)])), (a, aI gi 60 g)] sz) (fun u => [(o, .inr (2, [.ref q1, .ref q2, .ref q3, .ref q4, .ref q5, .ref q6, .int (iI u.1), .int (iI u.2.1), .int (iI 1)])), (q1, aI gi 300 u.2.2.1), (q2, aI gi 60 u.2.2.2.1), (q3, aI gi 60 u.2.2.2.2.1), (q4, aI gi 60 u.2.2.2.2.2.1), (q5, aI gi 60 u.2.2.2.2.2.2.1), (q6, aI gi 60 u.2.2.2.2.2.2.2), (r, .inr (3, [.ref a, .int (iI t)])), (a, aI gi 60 g)])) (va_A [(o, .inr (2, [.ref q1, .ref q2, .ref q3, .ref q4, .ref q5, .ref q6, .int (iI cst), .int (iI F), .int (iI 0)])), (q1, aI gi 300 bh), (q2, aI gi 60 pl), (q3, aI gi 60 fo), (q4, aI gi 60 fi), (q5, aI gi 60 le), (q6, aI gi 60 fl), (r, .inr (3, [.ref a, .int (iI t)])), (a, aI gi 60 g)] sz)) 0 0 (va_A [(o, .inr (2, [.ref q1, .ref q2, .ref q3, .ref q4, .ref q5, .ref q6, .int (iI cst), .int (iI F), .int (iI 0)])), (q1, aI gi 300 bh), (q2, aI gi 60 pl), (q3, aI gi 60 fo), (q4, aI gi 60 fi), (q5, aI gi 60 le), (q6, aI gi 60 fl), (r, .inr (3, [.ref a, .int (iI t)])), (a, aI gi 60 g)] sz) := by
  refine zt_metWv (own := RX3) (cc := cX3_find) (maxL := 4) (by decide) rfl rfl (Nat.le_of_ble_eq_true rfl) ?_
  intro p e s m args below meth c Q A C hK hP hD hS hA _ hQ ls hl
  have hx := C.1
  have hb := C.2.1
  have hml := C.2.2.1
  have hown := C.2.2.2.1
  have hts := C.2.2.2.2
  have i3 : ∀ w ∈ u_ws RX3 TX3 9, w ∈ wsX3_find := by decide +kernel
  have f21 := hts (.fieldLink RX3 21 "Threetwo$Rhythm" "firsts" "[I") (by decide +kernel)
  have f24 := hts (.fieldLink RX3 24 "Threetwo$Rhythm" "lengths" "[I") (by decide +kernel)
  have f27 := hts (.fieldLink RX3 27 "Threetwo$Rhythm" "frameLooks" "[I") (by decide +kernel)
  have f30 := hts (.fieldLink RX3 30 "Threetwo$Rhythm" "cost" "I") (by decide +kernel)
  have f34 := hts (.fieldLink RX3 34 "Threetwo$Rhythm" "frames" "I") (by decide +kernel)
  have f37 := hts (.fieldLink RX3 37 "Threetwo$Rhythm" "known" "Z") (by decide +kernel)
  have hl : lv_has ls 4 [(0, .ref o), (1, .ref r), (2, .int (iI ch))] := hl
  refine lv_aload_n hx hb dX3_find_0 rfl (lv_at hl 0 rfl) ?_
  refine va_get (D := D) (ci := 2) (v := .int (iI 0)) (C := RX3) (T := TX3) (N := 9) hx hb hts i3 hown hK.1 hP 0 rfl rfl 8 (by decide) f37 (fun _ h9 => h9) rfl dX3_find_1 ?_
  refine zt_if_eq (tgt := 8) hx hb dX3_find_4 (by decide) (by omega) (fun c_1 => ?_) (fun c_1 => absurd c_1 (by omega))
  refine lv_aload_n hx hb dX3_find_8 rfl (lv_at hl 0 rfl) ?_
  refine lv_aload_n hx hb dX3_find_9 rfl (lv_at hl 0 rfl) ?_
  refine lv_aload_n hx hb dX3_find_10 rfl (lv_at hl 1 rfl) ?_
  refine lv_iload_n hx hb dX3_find_11 rfl (lv_at hl 2 rfl) ?_
  have hPc := hP.sub (ws' := [(o, .inr (2, [.ref q1, .ref q2, .ref q3, .ref q4, .ref q5, .ref q6, .int (iI cst), .int (iI F), .int (iI 0)])), (q1, aI gi 300 bh), (r, .inr (3, [.ref a, .int (iI t)])), (a, aI gi 60 g)]) [0, 1, 7, 8] rfl
  have hDc := hD.sub (ws' := [(o, .inr (2, [.ref q1, .ref q2, .ref q3, .ref q4, .ref q5, .ref q6, .int (iI cst), .int (iI F), .int (iI 0)])), (q1, aI gi 300 bh), (r, .inr (3, [.ref a, .int (iI t)])), (a, aI gi 60 g)]) [0, 1, 7, 8] (by decide) rfl
  have hFc := va_free (wc := [(o, .inr (2, [.ref q1, .ref q2, .ref q3, .ref q4, .ref q5, .ref q6, .int (iI cst), .int (iI F), .int (iI 0)])), (q1, aI gi 300 bh), (r, .inr (3, [.ref a, .int (iI t)])), (a, aI gi 60 g)]) hD hS hA [0, 1, 7, 8] rfl
  refine va_calli (va_runV C (As := [.ref r, .int (iI ch)]) (rest := [.ref o]) (c_X3_leastCost l D gi gc gr s.heap.size o q1 q2 q3 q4 q5 q6 cst F 0 bh r a t g ch (by first | omega | assumption)) (cwV 2 hts gX3_find_X3_leastCost rfl rfl rfl (by decide +kernel) ⟨Nat.le_of_ble_eq_true rfl, Nat.le_of_ble_eq_true rfl⟩) (zt_preVw hK hPc hDc [.ref r, .int (iI ch)] 0 rfl rfl) rfl rfl hl.1 rfl (lv_room (Nat.le_of_ble_eq_true rfl)) dX3_find_12 ⟨Nat.le_of_ble_eq_true rfl, Nat.le_of_ble_eq_true rfl⟩) hS (fun q _ h => hFc q h) hFc (fun r_2 u_r_2 T9 H1 locs hT9 hvm hw hB hz1 hk1 hS => ?_)
  obtain ⟨z_2, rfl⟩ := hw
  obtain ⟨hP1, hD1⟩ := hB
  rw [hT9] at hP1
  obtain ⟨hP, hD⟩ := zt_back (w1 := [(o, .inr (2, [.ref q1, .ref q2, .ref q3, .ref q4, .ref q5, .ref q6, .int (iI cst), .int (iI F), .int (iI 0)])), (q1, aI gi 300 u_r_2), (r, .inr (3, [.ref a, .int (iI t)])), (a, aI gi 60 g)]) (wr := [(q2, aI gi 60 pl), (q3, aI gi 60 fo), (q4, aI gi 60 fi), (q5, aI gi 60 le), (q6, aI gi 60 fl)]) (wn := [(o, .inr (2, [.ref q1, .ref q2, .ref q3, .ref q4, .ref q5, .ref q6, .int (iI cst), .int (iI F), .int (iI 0)])), (q1, aI gi 300 u_r_2), (q2, aI gi 60 pl), (q3, aI gi 60 fo), (q4, aI gi 60 fi), (q5, aI gi 60 le), (q6, aI gi 60 fl), (r, .inr (3, [.ref a, .int (iI t)])), (a, aI gi 60 g)]) hP hD [0, 1, 7, 8] [2, 3, 4, 5, 6] [5, 6, 0, 1, 2, 3, 4, 7, 8] rfl rfl (by decide) (by decide) hk1 hFc hP1 hD1 rfl (by decide)
  generalize H1 = H at hP hS ⊢
  refine va_put (D := D) (ci := 2) (v := .int (iI z_2)) (ty := .int) (C := RX3) (T := TX3) (N := 9) hx hb hts i3 tyX3 tyX3_ok nmX3 hown hK.1 hP hD hS 0 rfl rfl 6 (by decide) f30 (fun _ h9 => h9) rfl (by decide +kernel) rfl rfl (Nat.le_of_ble_eq_true rfl) dX3_find_15 (fun H locs hP hD hS => ?_)
  have hP : va_P D vwCl [(o, .inr (2, [.ref q1, .ref q2, .ref q3, .ref q4, .ref q5, .ref q6, .int (iI z_2), .int (iI F), .int (iI 0)])), (q1, aI gi 300 u_r_2), (q2, aI gi 60 pl), (q3, aI gi 60 fo), (q4, aI gi 60 fi), (q5, aI gi 60 le), (q6, aI gi 60 fl), (r, .inr (3, [.ref a, .int (iI t)])), (a, aI gi 60 g)] H := hP
  have hD : va_D A [(o, .inr (2, [.ref q1, .ref q2, .ref q3, .ref q4, .ref q5, .ref q6, .int (iI z_2), .int (iI F), .int (iI 0)])), (q1, aI gi 300 u_r_2), (q2, aI gi 60 pl), (q3, aI gi 60 fo), (q4, aI gi 60 fi), (q5, aI gi 60 le), (q6, aI gi 60 fl), (r, .inr (3, [.ref a, .int (iI t)])), (a, aI gi 60 g)] := hD
  refine lv_aload_n hx hb dX3_find_18 rfl (lv_at hl 0 rfl) ?_
  refine lv_aload_n hx hb dX3_find_19 rfl (lv_at hl 1 rfl) ?_
  refine lv_iload_n hx hb dX3_find_20 rfl (lv_at hl 2 rfl) ?_
  have hPc := hP.sub (ws' := [(o, .inr (2, [.ref q1, .ref q2, .ref q3, .ref q4, .ref q5, .ref q6, .int (iI z_2), .int (iI F), .int (iI 0)])), (q1, aI gi 300 u_r_2), (q2, aI gi 60 pl), (r, .inr (3, [.ref a, .int (iI t)])), (a, aI gi 60 g)]) [0, 1, 2, 7, 8] rfl
  have hDc := hD.sub (ws' := [(o, .inr (2, [.ref q1, .ref q2, .ref q3, .ref q4, .ref q5, .ref q6, .int (iI z_2), .int (iI F), .int (iI 0)])), (q1, aI gi 300 u_r_2), (q2, aI gi 60 pl), (r, .inr (3, [.ref a, .int (iI t)])), (a, aI gi 60 g)]) [0, 1, 2, 7, 8] (by decide) rfl
  have hFc := va_free (wc := [(o, .inr (2, [.ref q1, .ref q2, .ref q3, .ref q4, .ref q5, .ref q6, .int (iI z_2), .int (iI F), .int (iI 0)])), (q1, aI gi 300 u_r_2), (q2, aI gi 60 pl), (r, .inr (3, [.ref a, .int (iI t)])), (a, aI gi 60 g)]) hD hS hA [0, 1, 2, 7, 8] rfl
  refine va_callv (va_runV C (As := [.ref r, .int (iI ch)]) (rest := []) (c_X3_tracePath l D gi gc gr H.size o q1 q2 q3 q4 q5 q6 z_2 F 0 u_r_2 pl r a t g ch (by first | omega | assumption)) (cwV 2 hts gX3_find_X3_tracePath rfl rfl rfl (by decide +kernel) ⟨Nat.le_of_ble_eq_true rfl, Nat.le_of_ble_eq_true rfl⟩) (zt_preVw hK hPc hDc [.ref r, .int (iI ch)] 0 rfl rfl) rfl rfl hl.1 rfl (lv_room (Nat.le_of_ble_eq_true rfl)) dX3_find_21 ⟨Nat.le_of_ble_eq_true rfl, Nat.le_of_ble_eq_true rfl⟩) hS (fun q _ h => hFc q h) hFc (fun u_r_3 T9 H1 locs hT9 hvm hw hB hz1 hk1 hS => ?_)
  try dsimp only at hw
  have hpl := hw
  obtain ⟨hP1, hD1⟩ := hB
  rw [hT9] at hP1
  obtain ⟨hP, hD⟩ := zt_back (w1 := [(o, .inr (2, [.ref q1, .ref q2, .ref q3, .ref q4, .ref q5, .ref q6, .int (iI z_2), .int (iI F), .int (iI 0)])), (q1, aI gi 300 u_r_2), (q2, aI gi 60 u_r_3), (r, .inr (3, [.ref a, .int (iI t)])), (a, aI gi 60 g)]) (wr := [(q3, aI gi 60 fo), (q4, aI gi 60 fi), (q5, aI gi 60 le), (q6, aI gi 60 fl)]) (wn := [(o, .inr (2, [.ref q1, .ref q2, .ref q3, .ref q4, .ref q5, .ref q6, .int (iI z_2), .int (iI F), .int (iI 0)])), (q1, aI gi 300 u_r_2), (q2, aI gi 60 u_r_3), (q3, aI gi 60 fo), (q4, aI gi 60 fi), (q5, aI gi 60 le), (q6, aI gi 60 fl), (r, .inr (3, [.ref a, .int (iI t)])), (a, aI gi 60 g)]) hP hD [0, 1, 2, 7, 8] [3, 4, 5, 6] [4, 5, 6, 0, 1, 2, 3, 7, 8] rfl rfl (by decide) (by decide) hk1 hFc hP1 hD1 rfl (by decide)
  generalize H1 = H at hP hS ⊢
  refine lv_aload_n hx hb dX3_find_24 rfl (lv_at hl 0 rfl) ?_
  refine lv_aload_n hx hb dX3_find_25 rfl (lv_at hl 1 rfl) ?_
  refine zt_callV C (As := []) (rest := [.ref o]) (c_X4_many l D gi gc gr r a t) (cwV 0 hts gX3_find_X4_many rfl rfl rfl (by decide +kernel) ⟨Nat.le_of_ble_eq_true rfl, Nat.le_of_ble_eq_true rfl⟩) (zt_preV hK (hP.sub (ws' := [(r, .inr (3, [.ref a, .int (iI t)]))]) [7] rfl) [] 0 rfl rfl) rfl hl.1 rfl (Nat.le_of_ble_eq_true rfl) dX3_find_26 ⟨Nat.le_of_ble_eq_true rfl, Nat.le_of_ble_eq_true rfl⟩ (fun r_4 hr_4 => ?_)
  obtain rfl := hr_4
  have hPc := hP.sub (ws' := [(o, .inr (2, [.ref q1, .ref q2, .ref q3, .ref q4, .ref q5, .ref q6, .int (iI z_2), .int (iI F), .int (iI 0)])), (q2, aI gi 60 u_r_3), (q3, aI gi 60 fo), (q4, aI gi 60 fi), (q5, aI gi 60 le)]) [0, 2, 3, 4, 5] rfl
  have hDc := hD.sub (ws' := [(o, .inr (2, [.ref q1, .ref q2, .ref q3, .ref q4, .ref q5, .ref q6, .int (iI z_2), .int (iI F), .int (iI 0)])), (q2, aI gi 60 u_r_3), (q3, aI gi 60 fo), (q4, aI gi 60 fi), (q5, aI gi 60 le)]) [0, 2, 3, 4, 5] (by decide) rfl
  have hFc := va_free (wc := [(o, .inr (2, [.ref q1, .ref q2, .ref q3, .ref q4, .ref q5, .ref q6, .int (iI z_2), .int (iI F), .int (iI 0)])), (q2, aI gi 60 u_r_3), (q3, aI gi 60 fo), (q4, aI gi 60 fi), (q5, aI gi 60 le)]) hD hS hA [0, 2, 3, 4, 5] rfl
  refine va_callv (va_runV C (As := [.int (iI t)]) (rest := []) (c_X3_gatherFrames l D gi gc gr H.size o q1 q2 q3 q4 q5 q6 z_2 F 0 u_r_3 fo fi le t (by first | omega | assumption) (by first | omega | assumption)) (cwV 1 hts gX3_find_X3_gatherFrames rfl rfl rfl (by decide +kernel) ⟨Nat.le_of_ble_eq_true rfl, Nat.le_of_ble_eq_true rfl⟩) (zt_preVw hK hPc hDc [.int (iI t)] 0 rfl rfl) rfl rfl hl.1 rfl (lv_room (Nat.le_of_ble_eq_true rfl)) dX3_find_29 ⟨Nat.le_of_ble_eq_true rfl, Nat.le_of_ble_eq_true rfl⟩) hS (fun q _ h => hFc q h) hFc (fun u_r_5 T9 H1 locs hT9 hvm hw hB hz1 hk1 hS => ?_)
  obtain ⟨F_5, fo_5, fi_5, le_5⟩ := u_r_5
  try dsimp only at hw
  have hcv := hw
  have hcv1 := hcv.1
  obtain ⟨hP1, hD1⟩ := hB
  rw [hT9] at hP1
  obtain ⟨hP, hD⟩ := zt_back (w1 := [(o, .inr (2, [.ref q1, .ref q2, .ref q3, .ref q4, .ref q5, .ref q6, .int (iI z_2), .int (iI F_5), .int (iI 0)])), (q2, aI gi 60 u_r_3), (q3, aI gi 60 fo_5), (q4, aI gi 60 fi_5), (q5, aI gi 60 le_5)]) (wr := [(q1, aI gi 300 u_r_2), (q6, aI gi 60 fl), (r, .inr (3, [.ref a, .int (iI t)])), (a, aI gi 60 g)]) (wn := [(o, .inr (2, [.ref q1, .ref q2, .ref q3, .ref q4, .ref q5, .ref q6, .int (iI z_2), .int (iI F_5), .int (iI 0)])), (q1, aI gi 300 u_r_2), (q2, aI gi 60 u_r_3), (q3, aI gi 60 fo_5), (q4, aI gi 60 fi_5), (q5, aI gi 60 le_5), (q6, aI gi 60 fl), (r, .inr (3, [.ref a, .int (iI t)])), (a, aI gi 60 g)]) hP hD [0, 2, 3, 4, 5] [1, 6, 7, 8] [4, 0, 5, 6, 7, 8, 1, 2, 3] rfl rfl (by decide) (by decide) hk1 hFc hP1 hD1 rfl (by decide)
  generalize H1 = H at hP hS ⊢
  refine lv_iconst (v := iI (0)) hx hb dX3_find_32 (by decide +kernel) ?_
  refine lv_istore_n (lv' := [(3, .int (iI 0)), (0, .ref o), (1, .ref r), (2, .int (iI ch))]) hx hb dX3_find_33 rfl hl (by decide) rfl (fun ls hl => ?_)
  have loop_34 : ∀ (n_34 : Nat) (j : Int) (fl1 : Nat → Int) (hj : 0 ≤ j ∧ j ≤ F_5) (hm_34 : F_5 - j < (n_34 : Int)) (H : Heap) (locs : List Loc) (hP : va_P D vwCl [(o, .inr (2, [.ref q1, .ref q2, .ref q3, .ref q4, .ref q5, .ref q6, .int (iI z_2), .int (iI F_5), .int (iI 0)])), (q1, aI gi 300 u_r_2), (q2, aI gi 60 u_r_3), (q3, aI gi 60 fo_5), (q4, aI gi 60 fi_5), (q5, aI gi 60 le_5), (q6, aI gi 60 fl1), (r, .inr (3, [.ref a, .int (iI t)])), (a, aI gi 60 g)] H) (hD : va_D A [(o, .inr (2, [.ref q1, .ref q2, .ref q3, .ref q4, .ref q5, .ref q6, .int (iI z_2), .int (iI F_5), .int (iI 0)])), (q1, aI gi 300 u_r_2), (q2, aI gi 60 u_r_3), (q3, aI gi 60 fo_5), (q4, aI gi 60 fi_5), (q5, aI gi 60 le_5), (q6, aI gi 60 fl1), (r, .inr (3, [.ref a, .int (iI t)])), (a, aI gi 60 g)]) (hS : va_S A s.heap H locs) (ls : Array Slot) (hl : lv_has ls 4 [(0, .ref o), (1, .ref r), (2, .int (iI ch)), (3, .int (iI j))]), W p l e { frames := 3, cells := 0, slots := 0, locals := 79 } s m args below meth c H locs 0 0 Q (F0 m 34 ls []) := by
    intro n_34
    induction n_34 with
    | zero => intro j fl1 hj hm_34 H locs hP hD hS ls hl; exact absurd hm_34 (by omega)
    | succ n_34 ih_34 =>
      intro j fl1 hj hm_34 H locs hP hD hS ls hl
      refine lv_iload_n hx hb dX3_find_34 rfl (lv_at hl 3 rfl) ?_
      refine lv_aload_n hx hb dX3_find_35 rfl (lv_at hl 0 rfl) ?_
      refine va_get (D := D) (ci := 2) (v := .int (iI F_5)) (C := RX3) (T := TX3) (N := 9) hx hb hts i3 hown hK.1 hP 0 rfl rfl 7 (by decide) f34 (fun _ h9 => h9) rfl dX3_find_36 ?_
      refine zt_icmp_ge (tgt := 70) hx hb dX3_find_39 (by decide) (by omega) (fun c_6 => ?_) (fun c_6 => ?_)
      · refine lv_aload_n hx hb dX3_find_70 rfl (lv_at hl 0 rfl) ?_
        refine lv_iconst (v := iI (1)) hx hb dX3_find_71 (by decide +kernel) ?_
        refine va_put (D := D) (ci := 2) (v := .int (iI 1)) (ty := .boolean) (C := RX3) (T := TX3) (N := 9) hx hb hts i3 tyX3 tyX3_ok nmX3 hown hK.1 hP hD hS 0 rfl rfl 8 (by decide) f37 (fun _ h9 => h9) rfl (by decide +kernel) rfl rfl (Nat.le_of_ble_eq_true rfl) dX3_find_72 (fun H locs hP hD hS => ?_)
        have hP : va_P D vwCl [(o, .inr (2, [.ref q1, .ref q2, .ref q3, .ref q4, .ref q5, .ref q6, .int (iI z_2), .int (iI F_5), .int (iI 1)])), (q1, aI gi 300 u_r_2), (q2, aI gi 60 u_r_3), (q3, aI gi 60 fo_5), (q4, aI gi 60 fi_5), (q5, aI gi 60 le_5), (q6, aI gi 60 fl1), (r, .inr (3, [.ref a, .int (iI t)])), (a, aI gi 60 g)] H := hP
        have hD : va_D A [(o, .inr (2, [.ref q1, .ref q2, .ref q3, .ref q4, .ref q5, .ref q6, .int (iI z_2), .int (iI F_5), .int (iI 1)])), (q1, aI gi 300 u_r_2), (q2, aI gi 60 u_r_3), (q3, aI gi 60 fo_5), (q4, aI gi 60 fi_5), (q5, aI gi 60 le_5), (q6, aI gi 60 fl1), (r, .inr (3, [.ref a, .int (iI t)])), (a, aI gi 60 g)] := hD
        exact hQ (z_2, F_5, u_r_2, u_r_3, fo_5, fi_5, le_5, fl1) _ _ _ _ (hcv) hP hD hS dX3_find_75
      · have hcj := hcv.2.2 j.toNat (by omega)
        refine lv_aload_n hx hb dX3_find_42 rfl (lv_at hl 0 rfl) ?_
        refine va_get (D := D) (ci := 2) (v := .ref q6) (C := RX3) (T := TX3) (N := 9) hx hb hts i3 hown hK.1 hP 0 rfl rfl 5 (by decide) f27 (fun _ h9 => h9) rfl dX3_find_43 ?_
        refine lv_iload_n hx hb dX3_find_46 rfl (lv_at hl 3 rfl) ?_
        refine lv_aload_n hx hb dX3_find_47 rfl (lv_at hl 1 rfl) ?_
        refine lv_aload_n hx hb dX3_find_48 rfl (lv_at hl 0 rfl) ?_
        refine va_get (D := D) (ci := 2) (v := .ref q4) (C := RX3) (T := TX3) (N := 9) hx hb hts i3 hown hK.1 hP 0 rfl rfl 3 (by decide) f21 (fun _ h9 => h9) rfl dX3_find_49 ?_
        refine lv_iload_n hx hb dX3_find_52 rfl (lv_at hl 3 rfl) ?_
        refine zt_iald hx hb hK.1 hP 4 0 rfl rfl (by omega) (by omega) dX3_find_53 ?_
        refine lv_aload_n hx hb dX3_find_54 rfl (lv_at hl 0 rfl) ?_
        refine va_get (D := D) (ci := 2) (v := .ref q5) (C := RX3) (T := TX3) (N := 9) hx hb hts i3 hown hK.1 hP 0 rfl rfl 4 (by decide) f24 (fun _ h9 => h9) rfl dX3_find_55 ?_
        refine lv_iload_n hx hb dX3_find_58 rfl (lv_at hl 3 rfl) ?_
        refine zt_iald hx hb hK.1 hP 5 0 rfl rfl (by omega) (by omega) dX3_find_59 ?_
        refine zt_callS C (As := [.ref r, .int (iI (fi_5 j.toNat)), .int (iI (le_5 j.toNat))]) (rest := [.int (iI j), .ref q6]) (c_X3_commonLook l D gi gc gr r a t g (fi_5 j.toNat) (le_5 j.toNat) (by first | omega | assumption) (by first | omega | assumption)) (va_cwS 3 hts gX3_find_X3_commonLook rfl rfl rfl (by decide +kernel) ⟨Nat.le_of_ble_eq_true rfl, Nat.le_of_ble_eq_true rfl⟩) (zt_preS hK (hP.sub (ws' := [(r, .inr (3, [.ref a, .int (iI t)])), (a, aI gi 60 g)]) [7, 8] rfl) [.ref r, .int (iI (fi_5 j.toNat)), .int (iI (le_5 j.toNat))]) rfl hl.1 rfl (Nat.le_of_ble_eq_true rfl) dX3_find_60 ⟨Nat.le_of_ble_eq_true rfl, Nat.le_of_ble_eq_true rfl⟩ (fun r_7 hr_7 => ?_)
        obtain ⟨z_8, rfl, hz_8⟩ := hr_7
        refine zt_iast (g := fl1) (x := z_8) hx hb hK.1 hP hD hS 6 0 rfl rfl (by omega) (by omega) dX3_find_63 (fun H locs hP hD hS => ?_)
        have hP : va_P D vwCl [(o, .inr (2, [.ref q1, .ref q2, .ref q3, .ref q4, .ref q5, .ref q6, .int (iI z_2), .int (iI F_5), .int (iI 0)])), (q1, aI gi 300 u_r_2), (q2, aI gi 60 u_r_3), (q3, aI gi 60 fo_5), (q4, aI gi 60 fi_5), (q5, aI gi 60 le_5), (q6, aI gi 60 (uP fl1 j.toNat z_8)), (r, .inr (3, [.ref a, .int (iI t)])), (a, aI gi 60 g)] H := hP
        have hD : va_D A [(o, .inr (2, [.ref q1, .ref q2, .ref q3, .ref q4, .ref q5, .ref q6, .int (iI z_2), .int (iI F_5), .int (iI 0)])), (q1, aI gi 300 u_r_2), (q2, aI gi 60 u_r_3), (q3, aI gi 60 fo_5), (q4, aI gi 60 fi_5), (q5, aI gi 60 le_5), (q6, aI gi 60 (uP fl1 j.toNat z_8)), (r, .inr (3, [.ref a, .int (iI t)])), (a, aI gi 60 g)] := hD
        refine lv_iinc (v := iI (j + 1)) (lv' := [(3, .int (iI (j + 1))), (0, .ref o), (1, .ref r), (2, .int (iI ch))]) hx hb dX3_find_64 hl (k := 3) rfl (iI_add _ _) (by decide) rfl (fun ls hl => ?_)
        refine lv_goto (tgt := 34) hx hb dX3_find_67 (by decide) ?_
        exact ih_34 (j + 1) (uP fl1 j.toNat z_8) (by omega) (by omega) H locs hP hD hS ls (lv_sub hl [1, 2, 3, 0] rfl)
  exact loop_34 ((F_5 - 0 : Int).toNat + 1) 0 fl (by omega) (by omega) H locs hP hD hS ls (lv_sub hl [1, 2, 3, 0] rfl)
end
section
/-! ===== the strip ===== -/
def notL (nf : Nat → Int) (f : Int) : Nat → Int → Int
  | 0, _ => 0
  | n + 1, j => if iI (nf j.toNat) = iI f then 1 else notL nf f n (j + 1)
theorem notL_s (nf : Nat → Int) (f : Int) (n : Nat) (j : Int) : notL nf f (n + 1) j = if iI (nf j.toNat) = iI f then 1 else notL nf f n (j + 1) := rfl
theorem notL_b (nf : Nat → Int) (f : Int) : ∀ (n : Nat) (j : Int), notL nf f n j = 0 ∨ notL nf f n j = 1 := by
  intro n
  induction n with
  | zero => intro j; exact Or.inl rfl
  | succ n ih =>
    intro j
    rw [notL_s]
    split
    · exact Or.inr rfl
    · exact ih _

set_option maxHeartbeats 4000000 in
set_option maxRecDepth 100000 in
theorem c_X5_firstLike (l : Launch) (D : va_G) (gi gc gr : ClassId) (d : Nat) (r2 : Nat) (n1 : Nat) (n2 : Nat) (sg : Nat) (nn : Int) (r : Nat) (a : Nat) (t : Int) (g : Nat → Int) (f : Int) (ht : 0 ≤ t ∧ t ≤ 60) (hf : 0 ≤ f ∧ f < t) : Met l yX5_firstLike wsX5_firstLike { frames := 1, cells := 0, slots := 0, locals := 21 } (zPr D gi gc gr [(d, .inr (4, [.ref r, .ref r2, .ref n1, .ref n2, .ref sg, .int (iI nn)])), (r, .inr (3, [.ref a, .int (iI t)])), (a, aI gi 60 g)] [.ref d, .int (iI f)]) (vp_Si (fun v => ∃ z : Int, v = iI z ∧ (0 ≤ z ∧ z ≤ f))) 0 0 (fun _ => False) := by
  refine zt_metRi (own := RX5) (cc := cX5_firstLike) (maxL := 3) (by decide) rfl rfl (Nat.le_of_ble_eq_true rfl) ?_
  intro p e s m args below meth c Q C hK hP hQ ls hl
  have hx := C.1
  have hb := C.2.1
  have hml := C.2.2.1
  have hown := C.2.2.2.1
  have hts := C.2.2.2.2
  have i5 : ∀ w ∈ u_ws RX5 TX5 6, w ∈ wsX5_firstLike := by decide +kernel
  have f14 := hts (.fieldLink RX5 14 "Threetwo$Strip" "looks" "LThreetwo$Row;") (by decide +kernel)
  have hl : lv_has ls 3 [(0, .ref d), (1, .int (iI f))] := hl
  refine lv_iconst (v := iI (0)) hx hb dX5_firstLike_0 (by decide +kernel) ?_
  refine lv_istore_n (lv' := [(2, .int (iI 0)), (0, .ref d), (1, .int (iI f))]) hx hb dX5_firstLike_1 rfl hl (by decide) rfl (fun ls hl => ?_)
  have loop_2 : ∀ (n_2 : Nat) (j : Int) (hj : 0 ≤ j ∧ j ≤ f) (hm_2 : f - j < (n_2 : Int)) (ls : Array Slot) (hl : lv_has ls 3 [(0, .ref d), (1, .int (iI f)), (2, .int (iI j))]), W p l e { frames := 1, cells := 0, slots := 0, locals := 21 } s m args below meth c s.heap [] 0 0 Q (F0 m 2 ls []) := by
    intro n_2
    induction n_2 with
    | zero => intro j hj hm_2 ls hl; exact absurd hm_2 (by omega)
    | succ n_2 ih_2 =>
      intro j hj hm_2 ls hl
      refine lv_iload_n hx hb dX5_firstLike_2 rfl (lv_at hl 2 rfl) ?_
      refine lv_iload_n hx hb dX5_firstLike_3 rfl (lv_at hl 1 rfl) ?_
      refine zt_icmp_ge (tgt := 32) hx hb dX5_firstLike_4 (by decide) (by omega) (fun c_1 => ?_) (fun c_1 => ?_)
      · refine lv_iload_n hx hb dX5_firstLike_32 rfl (lv_at hl 2 rfl) ?_
        exact hQ _ _ _ (⟨_, rfl, by omega⟩) dX5_firstLike_33
      · refine lv_aload_n hx hb dX5_firstLike_7 rfl (lv_at hl 0 rfl) ?_
        refine va_get (D := D) (ci := 4) (v := .ref r) (C := RX5) (T := TX5) (N := 6) hx hb hts i5 hown hK.1 hP 0 rfl rfl 0 (by decide) f14 (fun _ h9 => h9) rfl dX5_firstLike_8 ?_
        refine lv_iload_n hx hb dX5_firstLike_11 rfl (lv_at hl 2 rfl) ?_
        refine zt_callV C (As := [.int (iI j)]) (rest := []) (c_X4_at l D gi gc gr r a 60 t g j (by first | omega | assumption) (by first | omega | assumption) (by first | omega | assumption)) (cwV 1 hts gX5_firstLike_X4_at rfl rfl rfl (by decide +kernel) ⟨Nat.le_of_ble_eq_true rfl, Nat.le_of_ble_eq_true rfl⟩) (zt_preV hK (hP.sub (ws' := [(r, .inr (3, [.ref a, .int (iI t)])), (a, aI gi 60 g)]) [1, 2] rfl) [.int (iI j)] 0 rfl rfl) rfl hl.1 rfl (Nat.le_of_ble_eq_true rfl) dX5_firstLike_12 ⟨Nat.le_of_ble_eq_true rfl, Nat.le_of_ble_eq_true rfl⟩ (fun r_2 hr_2 => ?_)
        obtain rfl := hr_2
        refine lv_aload_n hx hb dX5_firstLike_15 rfl (lv_at hl 0 rfl) ?_
        refine va_get (D := D) (ci := 4) (v := .ref r) (C := RX5) (T := TX5) (N := 6) hx hb hts i5 hown hK.1 hP 0 rfl rfl 0 (by decide) f14 (fun _ h9 => h9) rfl dX5_firstLike_16 ?_
        refine lv_iload_n hx hb dX5_firstLike_19 rfl (lv_at hl 1 rfl) ?_
        refine zt_callV C (As := [.int (iI f)]) (rest := [.int (iI (g j.toNat))]) (c_X4_at l D gi gc gr r a 60 t g f (by first | omega | assumption) (by first | omega | assumption) (by first | omega | assumption)) (cwV 1 hts gX5_firstLike_X4_at rfl rfl rfl (by decide +kernel) ⟨Nat.le_of_ble_eq_true rfl, Nat.le_of_ble_eq_true rfl⟩) (zt_preV hK (hP.sub (ws' := [(r, .inr (3, [.ref a, .int (iI t)])), (a, aI gi 60 g)]) [1, 2] rfl) [.int (iI f)] 0 rfl rfl) rfl hl.1 rfl (Nat.le_of_ble_eq_true rfl) dX5_firstLike_20 ⟨Nat.le_of_ble_eq_true rfl, Nat.le_of_ble_eq_true rfl⟩ (fun r_3 hr_3 => ?_)
        obtain rfl := hr_3
        refine lv_icmp_eq (tgt := 32) hx hb dX5_firstLike_23 (by decide) (fun c_4 => ?_) (fun c_4 => ?_)
        · refine lv_iload_n hx hb dX5_firstLike_32 rfl (lv_at hl 2 rfl) ?_
          exact hQ _ _ _ (⟨_, rfl, by omega⟩) dX5_firstLike_33
        · refine lv_iinc (v := iI (j + 1)) (lv' := [(2, .int (iI (j + 1))), (0, .ref d), (1, .int (iI f))]) hx hb dX5_firstLike_26 hl (k := 2) rfl (iI_add _ _) (by decide) rfl (fun ls hl => ?_)
          refine lv_goto (tgt := 2) hx hb dX5_firstLike_29 (by decide) ?_
          exact ih_2 (j + 1) (by omega) (by omega) ls (lv_sub hl [1, 2, 0] rfl)
  exact loop_2 ((f - 0 : Int).toNat + 1) 0 (by omega) (by omega) ls (lv_sub hl [1, 2, 0] rfl)
set_option maxHeartbeats 16000000 in
set_option maxRecDepth 100000 in
theorem c_X5_nameLooks (l : Launch) (D : va_G) (gi gc gr : ClassId) (sz : Nat) (d : Nat) (r2 : Nat) (n1 : Nat) (n2 : Nat) (sg : Nat) (nn : Int) (r : Nat) (a : Nat) (t : Int) (g : Nat → Int) (sf : Nat → Int32) (ht : 0 ≤ t ∧ t ≤ 60) : Met l yX5_nameLooks wsX5_nameLooks { frames := 2, cells := 0, slots := 0, locals := 43 } (zPw D gi gc gr [(d, .inr (4, [.ref r, .ref r2, .ref n1, .ref n2, .ref sg, .int (iI nn)])), (r, .inr (3, [.ref a, .int (iI t)])), (a, aI gi 60 g), (sg, .inl (gc, 60, .inl sf))] sz [.ref d]) (va_Qi (S := Nat → Int32) (fun v _ => v = iI t) (zB D (va_A [(d, .inr (4, [.ref r, .ref r2, .ref n1, .ref n2, .ref sg, .int (iI nn)])), (r, .inr (3, [.ref a, .int (iI t)])), (a, aI gi 60 g), (sg, .inl (gc, 60, .inl sf))] sz) (fun u => [(d, .inr (4, [.ref r, .ref r2, .ref n1, .ref n2, .ref sg, .int (iI nn)])), (r, .inr (3, [.ref a, .int (iI t)])), (a, aI gi 60 g), (sg, .inl (gc, 60, .inl u))])) (va_A [(d, .inr (4, [.ref r, .ref r2, .ref n1, .ref n2, .ref sg, .int (iI nn)])), (r, .inr (3, [.ref a, .int (iI t)])), (a, aI gi 60 g), (sg, .inl (gc, 60, .inl sf))] sz)) 0 0 (va_A [(d, .inr (4, [.ref r, .ref r2, .ref n1, .ref n2, .ref sg, .int (iI nn)])), (r, .inr (3, [.ref a, .int (iI t)])), (a, aI gi 60 g), (sg, .inl (gc, 60, .inl sf))] sz) := by
  refine zt_metWi (own := RX5) (cc := cX5_nameLooks) (maxL := 4) (by decide) rfl rfl (Nat.le_of_ble_eq_true rfl) ?_
  intro p e s m args below meth c Q A C hK hP hD hS hA _ hQ ls hl
  have hx := C.1
  have hb := C.2.1
  have hml := C.2.2.1
  have hown := C.2.2.2.1
  have hts := C.2.2.2.2
  have i5 : ∀ w ∈ u_ws RX5 TX5 6, w ∈ wsX5_nameLooks := by decide +kernel
  have f14 := hts (.fieldLink RX5 14 "Threetwo$Strip" "looks" "LThreetwo$Row;") (by decide +kernel)
  have f30 := hts (.fieldLink RX5 30 "Threetwo$Strip" "signs" "[C") (by decide +kernel)
  have hl : lv_has ls 4 [(0, .ref d)] := hl
  refine lv_iconst (v := iI (0)) hx hb dX5_nameLooks_0 (by decide +kernel) ?_
  refine lv_istore_n (lv' := [(1, .int (iI 0)), (0, .ref d)]) hx hb dX5_nameLooks_1 rfl hl (by decide) rfl (fun ls hl => ?_)
  refine lv_iconst (v := iI (0)) hx hb dX5_nameLooks_2 (by decide +kernel) ?_
  refine lv_istore_n (lv' := [(2, .int (iI 0)), (1, .int (iI 0)), (0, .ref d)]) hx hb dX5_nameLooks_3 rfl hl (by decide) rfl (fun ls hl => ?_)
  have loop_4 : ∀ (n_4 : Nat) (y : Int) (j : Int) (s1 : Nat → Int32) (hj : 0 ≤ j ∧ j ≤ t) (hy : 0 ≤ y ∧ y ≤ j) (hm_4 : t - j < (n_4 : Int)) (H : Heap) (locs : List Loc) (hP : va_P D vwCl [(d, .inr (4, [.ref r, .ref r2, .ref n1, .ref n2, .ref sg, .int (iI nn)])), (r, .inr (3, [.ref a, .int (iI t)])), (a, aI gi 60 g), (sg, .inl (gc, 60, .inl s1))] H) (hD : va_D A [(d, .inr (4, [.ref r, .ref r2, .ref n1, .ref n2, .ref sg, .int (iI nn)])), (r, .inr (3, [.ref a, .int (iI t)])), (a, aI gi 60 g), (sg, .inl (gc, 60, .inl s1))]) (hS : va_S A s.heap H locs) (ls : Array Slot) (hl : lv_has ls 4 [(0, .ref d), (1, .int (iI y)), (2, .int (iI j))]), W p l e { frames := 2, cells := 0, slots := 0, locals := 43 } s m args below meth c H locs 0 0 Q (F0 m 4 ls []) := by
    intro n_4
    induction n_4 with
    | zero => intro y j s1 hj hy hm_4 H locs hP hD hS ls hl; exact absurd hm_4 (by omega)
    | succ n_4 ih_4 =>
      intro y j s1 hj hy hm_4 H locs hP hD hS ls hl
      refine lv_iload_n hx hb dX5_nameLooks_4 rfl (lv_at hl 2 rfl) ?_
      refine lv_aload_n hx hb dX5_nameLooks_5 rfl (lv_at hl 0 rfl) ?_
      refine va_get (D := D) (ci := 4) (v := .ref r) (C := RX5) (T := TX5) (N := 6) hx hb hts i5 hown hK.1 hP 0 rfl rfl 0 (by decide) f14 (fun _ h9 => h9) rfl dX5_nameLooks_6 ?_
      refine zt_callV C (As := []) (rest := [.int (iI j)]) (c_X4_many l D gi gc gr r a t) (cwV 0 hts gX5_nameLooks_X4_many rfl rfl rfl (by decide +kernel) ⟨Nat.le_of_ble_eq_true rfl, Nat.le_of_ble_eq_true rfl⟩) (zt_preV hK (hP.sub (ws' := [(r, .inr (3, [.ref a, .int (iI t)]))]) [1] rfl) [] 0 rfl rfl) rfl hl.1 rfl (Nat.le_of_ble_eq_true rfl) dX5_nameLooks_9 ⟨Nat.le_of_ble_eq_true rfl, Nat.le_of_ble_eq_true rfl⟩ (fun r_1 hr_1 => ?_)
      obtain rfl := hr_1
      refine zt_icmp_ge (tgt := 72) hx hb dX5_nameLooks_12 (by decide) (by omega) (fun c_2 => ?_) (fun c_2 => ?_)
      · refine lv_aload_n hx hb dX5_nameLooks_72 rfl (lv_at hl 0 rfl) ?_
        refine va_get (D := D) (ci := 4) (v := .ref r) (C := RX5) (T := TX5) (N := 6) hx hb hts i5 hown hK.1 hP 0 rfl rfl 0 (by decide) f14 (fun _ h9 => h9) rfl dX5_nameLooks_73 ?_
        refine zt_callV C (As := []) (rest := []) (c_X4_many l D gi gc gr r a t) (cwV 0 hts gX5_nameLooks_X4_many rfl rfl rfl (by decide +kernel) ⟨Nat.le_of_ble_eq_true rfl, Nat.le_of_ble_eq_true rfl⟩) (zt_preV hK (hP.sub (ws' := [(r, .inr (3, [.ref a, .int (iI t)]))]) [1] rfl) [] 0 rfl rfl) rfl hl.1 rfl (Nat.le_of_ble_eq_true rfl) dX5_nameLooks_76 ⟨Nat.le_of_ble_eq_true rfl, Nat.le_of_ble_eq_true rfl⟩ (fun r_3 hr_3 => ?_)
        obtain rfl := hr_3
        exact hQ s1 _ _ _ _ _ (rfl) hP hD hS dX5_nameLooks_79
      · refine lv_aload_n hx hb dX5_nameLooks_15 rfl (lv_at hl 0 rfl) ?_
        refine lv_iload_n hx hb dX5_nameLooks_16 rfl (lv_at hl 2 rfl) ?_
        refine zt_callV C (As := [.int (iI j)]) (rest := []) (c_X5_firstLike l D gi gc gr d r2 n1 n2 sg nn r a t g j (by first | omega | assumption) (by first | omega | assumption)) (cwV 1 hts gX5_nameLooks_X5_firstLike rfl rfl rfl (by decide +kernel) ⟨Nat.le_of_ble_eq_true rfl, Nat.le_of_ble_eq_true rfl⟩) (zt_preV hK (hP.sub (ws' := [(d, .inr (4, [.ref r, .ref r2, .ref n1, .ref n2, .ref sg, .int (iI nn)])), (r, .inr (3, [.ref a, .int (iI t)])), (a, aI gi 60 g)]) [0, 1, 2] rfl) [.int (iI j)] 0 rfl rfl) rfl hl.1 rfl (Nat.le_of_ble_eq_true rfl) dX5_nameLooks_17 ⟨Nat.le_of_ble_eq_true rfl, Nat.le_of_ble_eq_true rfl⟩ (fun r_4 hr_4 => ?_)
        obtain ⟨z_5, rfl, hz_5⟩ := hr_4
        refine lv_istore_n (lv' := [(3, .int (iI z_5)), (0, .ref d), (1, .int (iI y)), (2, .int (iI j))]) hx hb dX5_nameLooks_20 rfl hl (by decide) rfl (fun ls hl => ?_)
        refine lv_iload_n hx hb dX5_nameLooks_21 rfl (lv_at hl 0 rfl) ?_
        refine lv_iload_n hx hb dX5_nameLooks_22 rfl (lv_at hl 3 rfl) ?_
        refine zt_icmp_ge (tgt := 41) hx hb dX5_nameLooks_23 (by decide) (by omega) (fun c_6 => ?_) (fun c_6 => ?_)
        · refine lv_aload_n hx hb dX5_nameLooks_41 rfl (lv_at hl 1 rfl) ?_
          refine va_get (D := D) (ci := 4) (v := .ref sg) (C := RX5) (T := TX5) (N := 6) hx hb hts i5 hown hK.1 hP 0 rfl rfl 4 (by decide) f30 (fun _ h9 => h9) rfl dX5_nameLooks_42 ?_
          refine lv_iload_n hx hb dX5_nameLooks_45 rfl (lv_at hl 3 rfl) ?_
          refine lv_iload_n hx hb dX5_nameLooks_46 rfl (lv_at hl 2 rfl) ?_
          refine lv_bipush (v := iI (26)) hx hb dX5_nameLooks_47 (by decide +kernel) ?_
          refine zt_icmp_ge (tgt := 60) hx hb dX5_nameLooks_49 (by decide) (by omega) (fun c_7 => ?_) (fun c_7 => ?_)
          · refine lv_bipush (v := iI (63)) hx hb dX5_nameLooks_60 (by decide +kernel) ?_
            refine zt_cast hx hb hK.1 hP hD hS 3 1 rfl rfl (by omega) (by omega) dX5_nameLooks_62 (fun f_8 H locs hP hD hS => ?_)
            have hP : va_P D vwCl [(d, .inr (4, [.ref r, .ref r2, .ref n1, .ref n2, .ref sg, .int (iI nn)])), (r, .inr (3, [.ref a, .int (iI t)])), (a, aI gi 60 g), (sg, .inl (gc, 60, .inl f_8))] H := hP
            have hD : va_D A [(d, .inr (4, [.ref r, .ref r2, .ref n1, .ref n2, .ref sg, .int (iI nn)])), (r, .inr (3, [.ref a, .int (iI t)])), (a, aI gi 60 g), (sg, .inl (gc, 60, .inl f_8))] := hD
            refine lv_iinc (v := iI (y + 1)) (lv' := [(1, .int (iI (y + 1))), (3, .int (iI z_5)), (0, .ref d), (2, .int (iI j))]) hx hb dX5_nameLooks_63 hl (k := 2) rfl (iI_add _ _) (by decide) rfl (fun ls hl => ?_)
            refine lv_iinc (v := iI (j + 1)) (lv' := [(2, .int (iI (j + 1))), (1, .int (iI (y + 1))), (3, .int (iI z_5)), (0, .ref d)]) hx hb dX5_nameLooks_66 hl (k := 3) rfl (iI_add _ _) (by decide) rfl (fun ls hl => ?_)
            refine lv_goto (tgt := 4) hx hb dX5_nameLooks_69 (by decide) ?_
            exact ih_4 (y + 1) (j + 1) f_8 (by omega) (by omega) (by omega) H locs hP hD hS ls (lv_sub hl [3, 1, 0] rfl)
          · refine lv_bipush (v := iI (97)) hx hb dX5_nameLooks_52 (by decide +kernel) ?_
            refine lv_iload_n hx hb dX5_nameLooks_54 rfl (lv_at hl 2 rfl) ?_
            refine zt_iadd hx hb dX5_nameLooks_55 ?_
            refine lv_i2c hx hb dX5_nameLooks_56 rfl ?_
            refine lv_topi (fun y_9 _ => ?_)
            refine lv_goto (tgt := 62) hx hb dX5_nameLooks_57 (by decide) ?_
            refine zt_cast hx hb hK.1 hP hD hS 3 1 rfl rfl (by omega) (by omega) dX5_nameLooks_62 (fun f_10 H locs hP hD hS => ?_)
            have hP : va_P D vwCl [(d, .inr (4, [.ref r, .ref r2, .ref n1, .ref n2, .ref sg, .int (iI nn)])), (r, .inr (3, [.ref a, .int (iI t)])), (a, aI gi 60 g), (sg, .inl (gc, 60, .inl f_10))] H := hP
            have hD : va_D A [(d, .inr (4, [.ref r, .ref r2, .ref n1, .ref n2, .ref sg, .int (iI nn)])), (r, .inr (3, [.ref a, .int (iI t)])), (a, aI gi 60 g), (sg, .inl (gc, 60, .inl f_10))] := hD
            refine lv_iinc (v := iI (y + 1)) (lv' := [(1, .int (iI (y + 1))), (3, .int (iI z_5)), (0, .ref d), (2, .int (iI j))]) hx hb dX5_nameLooks_63 hl (k := 2) rfl (iI_add _ _) (by decide) rfl (fun ls hl => ?_)
            refine lv_iinc (v := iI (j + 1)) (lv' := [(2, .int (iI (j + 1))), (1, .int (iI (y + 1))), (3, .int (iI z_5)), (0, .ref d)]) hx hb dX5_nameLooks_66 hl (k := 3) rfl (iI_add _ _) (by decide) rfl (fun ls hl => ?_)
            refine lv_goto (tgt := 4) hx hb dX5_nameLooks_69 (by decide) ?_
            exact ih_4 (y + 1) (j + 1) f_10 (by omega) (by omega) (by omega) H locs hP hD hS ls (lv_sub hl [3, 1, 0] rfl)
        · refine lv_aload_n hx hb dX5_nameLooks_26 rfl (lv_at hl 1 rfl) ?_
          refine va_get (D := D) (ci := 4) (v := .ref sg) (C := RX5) (T := TX5) (N := 6) hx hb hts i5 hown hK.1 hP 0 rfl rfl 4 (by decide) f30 (fun _ h9 => h9) rfl dX5_nameLooks_27 ?_
          refine lv_iload_n hx hb dX5_nameLooks_30 rfl (lv_at hl 3 rfl) ?_
          refine lv_aload_n hx hb dX5_nameLooks_31 rfl (lv_at hl 1 rfl) ?_
          refine va_get (D := D) (ci := 4) (v := .ref sg) (C := RX5) (T := TX5) (N := 6) hx hb hts i5 hown hK.1 hP 0 rfl rfl 4 (by decide) f30 (fun _ h9 => h9) rfl dX5_nameLooks_32 ?_
          refine lv_iload_n hx hb dX5_nameLooks_35 rfl (lv_at hl 0 rfl) ?_
          refine zt_cald hx hb hK.1 hP 3 1 rfl rfl (by omega) (by omega) dX5_nameLooks_36 (fun y_11 => ?_)
          refine zt_cast hx hb hK.1 hP hD hS 3 1 rfl rfl (by omega) (by omega) dX5_nameLooks_37 (fun f_12 H locs hP hD hS => ?_)
          have hP : va_P D vwCl [(d, .inr (4, [.ref r, .ref r2, .ref n1, .ref n2, .ref sg, .int (iI nn)])), (r, .inr (3, [.ref a, .int (iI t)])), (a, aI gi 60 g), (sg, .inl (gc, 60, .inl f_12))] H := hP
          have hD : va_D A [(d, .inr (4, [.ref r, .ref r2, .ref n1, .ref n2, .ref sg, .int (iI nn)])), (r, .inr (3, [.ref a, .int (iI t)])), (a, aI gi 60 g), (sg, .inl (gc, 60, .inl f_12))] := hD
          refine lv_goto (tgt := 66) hx hb dX5_nameLooks_38 (by decide) ?_
          refine lv_iinc (v := iI (j + 1)) (lv' := [(2, .int (iI (j + 1))), (3, .int (iI z_5)), (0, .ref d), (1, .int (iI y))]) hx hb dX5_nameLooks_66 hl (k := 3) rfl (iI_add _ _) (by decide) rfl (fun ls hl => ?_)
          refine lv_goto (tgt := 4) hx hb dX5_nameLooks_69 (by decide) ?_
          exact ih_4 y (j + 1) f_12 (by omega) (by omega) (by omega) H locs hP hD hS ls (lv_sub hl [2, 3, 0] rfl)
  exact loop_4 ((t - 0 : Int).toNat + 1) 0 0 sf (by omega) (by omega) (by omega) s.heap [] hP hD hS ls (lv_sub hl [2, 1, 0] rfl)
set_option maxHeartbeats 4000000 in
set_option maxRecDepth 100000 in
theorem c_X5_isNoted (l : Launch) (D : va_G) (gi gc gr : ClassId) (d : Nat) (r2 : Nat) (n1 : Nat) (n2 : Nat) (sg : Nat) (nn : Int) (r : Nat) (nf : Nat → Int) (f : Int) (hnn : 0 ≤ nn ∧ nn ≤ 512) : Met l yX5_isNoted wsX5_isNoted { frames := 0, cells := 0, slots := 0, locals := 0 } (zPr D gi gc gr [(d, .inr (4, [.ref r, .ref r2, .ref n1, .ref n2, .ref sg, .int (iI nn)])), (n1, aI gi 512 nf)] [.ref d, .int (iI f)]) (vp_Si (fun v => v = iI (notL nf f nn.toNat 0))) 0 0 (fun _ => False) := by
  refine zt_metRz (own := RX5) (cc := cX5_isNoted) (maxL := 3) (by decide) rfl rfl (Nat.le_of_ble_eq_true rfl) ?_
  intro p e s m args below meth c Q C hK hP hQ ls hl
  have hx := C.1
  have hb := C.2.1
  have hml := C.2.2.1
  have hown := C.2.2.2.1
  have hts := C.2.2.2.2
  have i5 : ∀ w ∈ u_ws RX5 TX5 6, w ∈ wsX5_isNoted := by decide +kernel
  have f23 := hts (.fieldLink RX5 23 "Threetwo$Strip" "noteFields" "[I") (by decide +kernel)
  have f34 := hts (.fieldLink RX5 34 "Threetwo$Strip" "notes" "I") (by decide +kernel)
  have hl : lv_has ls 3 [(0, .ref d), (1, .int (iI f))] := hl
  refine lv_iconst (v := iI (0)) hx hb dX5_isNoted_0 (by decide +kernel) ?_
  refine lv_istore_n (lv' := [(2, .int (iI 0)), (0, .ref d), (1, .int (iI f))]) hx hb dX5_isNoted_1 rfl hl (by decide) rfl (fun ls hl => ?_)
  have loop_2 : ∀ (n_2 : Nat) (j : Int) (hj : 0 ≤ j ∧ j ≤ nn) (hf : notL nf f nn.toNat 0 = notL nf f (nn - j).toNat j) (hm_2 : nn - j < (n_2 : Int)) (ls : Array Slot) (hl : lv_has ls 3 [(0, .ref d), (1, .int (iI f)), (2, .int (iI j))]), W p l e { frames := 0, cells := 0, slots := 0, locals := 0 } s m args below meth c s.heap [] 0 0 Q (F0 m 2 ls []) := by
    intro n_2
    induction n_2 with
    | zero => intro j hj hf hm_2 ls hl; exact absurd hm_2 (by omega)
    | succ n_2 ih_2 =>
      intro j hj hf hm_2 ls hl
      refine lv_iload_n hx hb dX5_isNoted_2 rfl (lv_at hl 2 rfl) ?_
      refine lv_aload_n hx hb dX5_isNoted_3 rfl (lv_at hl 0 rfl) ?_
      refine va_get (D := D) (ci := 4) (v := .int (iI nn)) (C := RX5) (T := TX5) (N := 6) hx hb hts i5 hown hK.1 hP 0 rfl rfl 5 (by decide) f34 (fun _ h9 => h9) rfl dX5_isNoted_4 ?_
      refine zt_icmp_ge (tgt := 28) hx hb dX5_isNoted_7 (by decide) (by omega) (fun c_1 => ?_) (fun c_1 => ?_)
      · refine lv_iconst (v := iI (0)) hx hb dX5_isNoted_28 (by decide +kernel) ?_
        exact hQ _ _ _ (by first | rfl | decide +kernel) (congrArg iI (by rw [hf, show (nn - j).toNat = 0 by omega]; rfl)) dX5_isNoted_29
      · refine lv_aload_n hx hb dX5_isNoted_10 rfl (lv_at hl 0 rfl) ?_
        refine va_get (D := D) (ci := 4) (v := .ref n1) (C := RX5) (T := TX5) (N := 6) hx hb hts i5 hown hK.1 hP 0 rfl rfl 2 (by decide) f23 (fun _ h9 => h9) rfl dX5_isNoted_11 ?_
        refine lv_iload_n hx hb dX5_isNoted_14 rfl (lv_at hl 2 rfl) ?_
        refine zt_iald hx hb hK.1 hP 1 0 rfl rfl (by omega) (by omega) dX5_isNoted_15 ?_
        refine lv_iload_n hx hb dX5_isNoted_16 rfl (lv_at hl 1 rfl) ?_
        refine lv_icmp_ne (tgt := 22) hx hb dX5_isNoted_17 (by decide) (fun c_2 => ?_) (fun c_2 => ?_)
        · refine lv_iinc (v := iI (j + 1)) (lv' := [(2, .int (iI (j + 1))), (0, .ref d), (1, .int (iI f))]) hx hb dX5_isNoted_22 hl (k := 2) rfl (iI_add _ _) (by decide) rfl (fun ls hl => ?_)
          refine lv_goto (tgt := 2) hx hb dX5_isNoted_25 (by decide) ?_
          exact ih_2 (j + 1) (by omega) (by rw [hf, show (nn - j).toNat = (nn - (j + 1)).toNat + 1 by omega, notL_s, if_neg c_2]) (by omega) ls (lv_sub hl [1, 2, 0] rfl)
        · refine lv_iconst (v := iI (1)) hx hb dX5_isNoted_20 (by decide +kernel) ?_
          exact hQ _ _ _ (by first | rfl | decide +kernel) (congrArg iI (by rw [hf, show (nn - j).toNat = (nn - (j + 1)).toNat + 1 by omega, notL_s, if_pos c_2])) dX5_isNoted_21
  exact loop_2 ((nn - 0 : Int).toNat + 1) 0 (by omega) (by rw [show nn - 0 = nn by omega]) (by omega) ls (lv_sub hl [1, 2, 0] rfl)
set_option maxHeartbeats 4000000 in
set_option maxRecDepth 100000 in
theorem c_X5_cutOut (l : Launch) (D : va_G) (gi gc gr : ClassId) (sz : Nat) (d : Nat) (r2 : Nat) (n1 : Nat) (n2 : Nat) (sg : Nat) (nn : Int) (r : Nat) (a : Nat) (t : Int) (g : Nat → Int) (i : Int) (x : Int) (ht : 0 ≤ t ∧ t ≤ 60) (hi : -2147483648 ≤ i ∧ i < 2147483648) (hx0 : -2147483648 ≤ x ∧ x < 2147483648) : Met l yX5_cutOut wsX5_cutOut { frames := 2, cells := 0, slots := 0, locals := 44 } (zPw D gi gc gr [(d, .inr (4, [.ref r, .ref r2, .ref n1, .ref n2, .ref sg, .int (iI nn)])), (r, .inr (3, [.ref a, .int (iI t)])), (a, aI gi 60 g)] sz [.ref d, .int (iI i), .int (iI x)]) (va_Qv (S := Int × (Nat → Int)) (fun u => 0 ≤ u.1 ∧ u.1 ≤ t) (zB D (va_A [(d, .inr (4, [.ref r, .ref r2, .ref n1, .ref n2, .ref sg, .int (iI nn)])), (r, .inr (3, [.ref a, .int (iI t)])), (a, aI gi 60 g)] sz) (fun u => [(d, .inr (4, [.ref r, .ref r2, .ref n1, .ref n2, .ref sg, .int (iI 0)])), (r, .inr (3, [.ref a, .int (iI u.1)])), (a, aI gi 60 u.2)])) (va_A [(d, .inr (4, [.ref r, .ref r2, .ref n1, .ref n2, .ref sg, .int (iI nn)])), (r, .inr (3, [.ref a, .int (iI t)])), (a, aI gi 60 g)] sz)) 0 0 (va_A [(d, .inr (4, [.ref r, .ref r2, .ref n1, .ref n2, .ref sg, .int (iI nn)])), (r, .inr (3, [.ref a, .int (iI t)])), (a, aI gi 60 g)] sz) := by
  refine zt_metWv (own := RX5) (cc := cX5_cutOut) (maxL := 3) (by decide) rfl rfl (Nat.le_of_ble_eq_true rfl) ?_
  intro p e s m args below meth c Q A C hK hP hD hS hA _ hQ ls hl
  have hx := C.1
  have hb := C.2.1
  have hml := C.2.2.1
  have hown := C.2.2.2.1
  have hts := C.2.2.2.2
  have i5 : ∀ w ∈ u_ws RX5 TX5 6, w ∈ wsX5_cutOut := by decide +kernel
  have f14 := hts (.fieldLink RX5 14 "Threetwo$Strip" "looks" "LThreetwo$Row;") (by decide +kernel)
  have f34 := hts (.fieldLink RX5 34 "Threetwo$Strip" "notes" "I") (by decide +kernel)
  have hl : lv_has ls 3 [(0, .ref d), (1, .int (iI i)), (2, .int (iI x))] := hl
  refine lv_aload_n hx hb dX5_cutOut_0 rfl (lv_at hl 0 rfl) ?_
  refine va_get (D := D) (ci := 4) (v := .ref r) (C := RX5) (T := TX5) (N := 6) hx hb hts i5 hown hK.1 hP 0 rfl rfl 0 (by decide) f14 (fun _ h9 => h9) rfl dX5_cutOut_1 ?_
  refine lv_iload_n hx hb dX5_cutOut_4 rfl (lv_at hl 1 rfl) ?_
  refine lv_iload_n hx hb dX5_cutOut_5 rfl (lv_at hl 2 rfl) ?_
  have hPc := hP.sub (ws' := [(r, .inr (3, [.ref a, .int (iI t)])), (a, aI gi 60 g)]) [1, 2] rfl
  have hDc := hD.sub (ws' := [(r, .inr (3, [.ref a, .int (iI t)])), (a, aI gi 60 g)]) [1, 2] (by decide) rfl
  have hFc := va_free (wc := [(r, .inr (3, [.ref a, .int (iI t)])), (a, aI gi 60 g)]) hD hS hA [1, 2] rfl
  refine va_callv (va_runV C (As := [.int (iI i), .int (iI x)]) (rest := []) (c_X4_remove l D gi gc gr s.heap.size r a 60 t g i x (by first | omega | assumption) (by first | omega | assumption) (by first | omega | assumption) (by first | omega | assumption)) (cwV 2 hts gX5_cutOut_X4_remove rfl rfl rfl (by decide +kernel) ⟨Nat.le_of_ble_eq_true rfl, Nat.le_of_ble_eq_true rfl⟩) (zt_preVw hK hPc hDc [.int (iI i), .int (iI x)] 0 rfl rfl) rfl rfl hl.1 rfl (lv_room (Nat.le_of_ble_eq_true rfl)) dX5_cutOut_6 ⟨Nat.le_of_ble_eq_true rfl, Nat.le_of_ble_eq_true rfl⟩) hS (fun q _ h => hFc q h) hFc (fun u_r_1 T9 H1 locs hT9 hvm hw hB hz1 hk1 hS => ?_)
  obtain ⟨t_1, g_1⟩ := u_r_1
  dsimp only at hw
  obtain ⟨hP1, hD1⟩ := hB
  rw [hT9] at hP1
  obtain ⟨hP, hD⟩ := zt_back (w1 := [(r, .inr (3, [.ref a, .int (iI t_1)])), (a, aI gi 60 g_1)]) (wr := [(d, .inr (4, [.ref r, .ref r2, .ref n1, .ref n2, .ref sg, .int (iI nn)]))]) (wn := [(d, .inr (4, [.ref r, .ref r2, .ref n1, .ref n2, .ref sg, .int (iI nn)])), (r, .inr (3, [.ref a, .int (iI t_1)])), (a, aI gi 60 g_1)]) hP hD [1, 2] [0] [0, 1, 2] rfl rfl (by decide) (by decide) hk1 hFc hP1 hD1 rfl (by decide)
  generalize H1 = H at hP hS ⊢
  refine lv_aload_n hx hb dX5_cutOut_9 rfl (lv_at hl 0 rfl) ?_
  refine lv_iconst (v := iI (0)) hx hb dX5_cutOut_10 (by decide +kernel) ?_
  refine va_put (D := D) (ci := 4) (v := .int (iI 0)) (ty := .int) (C := RX5) (T := TX5) (N := 6) hx hb hts i5 tyX5 tyX5_ok nmX5 hown hK.1 hP hD hS 0 rfl rfl 5 (by decide) f34 (fun _ h9 => h9) rfl (by decide +kernel) rfl rfl (Nat.le_of_ble_eq_true rfl) dX5_cutOut_11 (fun H locs hP hD hS => ?_)
  have hP : va_P D vwCl [(d, .inr (4, [.ref r, .ref r2, .ref n1, .ref n2, .ref sg, .int (iI 0)])), (r, .inr (3, [.ref a, .int (iI t_1)])), (a, aI gi 60 g_1)] H := hP
  have hD : va_D A [(d, .inr (4, [.ref r, .ref r2, .ref n1, .ref n2, .ref sg, .int (iI 0)])), (r, .inr (3, [.ref a, .int (iI t_1)])), (a, aI gi 60 g_1)] := hD
  exact hQ (t_1, g_1) _ _ _ _ (hw) hP hD hS dX5_cutOut_14
set_option maxHeartbeats 4000000 in
set_option maxRecDepth 100000 in
theorem c_X5_note (l : Launch) (D : va_G) (gi gc gr : ClassId) (sz : Nat) (d : Nat) (r2 : Nat) (n1 : Nat) (n2 : Nat) (sg : Nat) (nn : Int) (r : Nat) (a : Nat) (t : Int) (g : Nat → Int) (nf : Nat → Int) (nl : Nat → Int) (f : Int) (x : Int) (ht : 0 ≤ t ∧ t ≤ 60) (hf : 0 ≤ f ∧ f < t) (hnn : 0 ≤ nn ∧ nn ≤ 512) : Met l yX5_note wsX5_note { frames := 2, cells := 0, slots := 0, locals := 43 } (zPw D gi gc gr [(d, .inr (4, [.ref r, .ref r2, .ref n1, .ref n2, .ref sg, .int (iI nn)])), (n1, aI gi 512 nf), (n2, aI gi 512 nl), (r, .inr (3, [.ref a, .int (iI t)])), (a, aI gi 60 g)] sz [.ref d, .int (iI f), .int (iI x)]) (va_Qv (S := Int × (Nat → Int) × (Nat → Int) × (Nat → Int)) (fun u => 0 ≤ u.1 ∧ u.1 ≤ 512) (zB D (va_A [(d, .inr (4, [.ref r, .ref r2, .ref n1, .ref n2, .ref sg, .int (iI nn)])), (n1, aI gi 512 nf), (n2, aI gi 512 nl), (r, .inr (3, [.ref a, .int (iI t)])), (a, aI gi 60 g)] sz) (fun u => [(d, .inr (4, [.ref r, .ref r2, .ref n1, .ref n2, .ref sg, .int (iI u.1)])), (n1, aI gi 512 u.2.1), (n2, aI gi 512 u.2.2.1), (r, .inr (3, [.ref a, .int (iI t)])), (a, aI gi 60 u.2.2.2)])) (va_A [(d, .inr (4, [.ref r, .ref r2, .ref n1, .ref n2, .ref sg, .int (iI nn)])), (n1, aI gi 512 nf), (n2, aI gi 512 nl), (r, .inr (3, [.ref a, .int (iI t)])), (a, aI gi 60 g)] sz)) 0 0 (va_A [(d, .inr (4, [.ref r, .ref r2, .ref n1, .ref n2, .ref sg, .int (iI nn)])), (n1, aI gi 512 nf), (n2, aI gi 512 nl), (r, .inr (3, [.ref a, .int (iI t)])), (a, aI gi 60 g)] sz) := by
  refine zt_metWv (own := RX5) (cc := cX5_note) (maxL := 3) (by decide) rfl rfl (Nat.le_of_ble_eq_true rfl) ?_
  intro p e s m args below meth c Q A C hK hP hD hS hA _ hQ ls hl
  have hx := C.1
  have hb := C.2.1
  have hml := C.2.2.1
  have hown := C.2.2.2.1
  have hts := C.2.2.2.2
  have i5 : ∀ w ∈ u_ws RX5 TX5 6, w ∈ wsX5_note := by decide +kernel
  have f14 := hts (.fieldLink RX5 14 "Threetwo$Strip" "looks" "LThreetwo$Row;") (by decide +kernel)
  have f23 := hts (.fieldLink RX5 23 "Threetwo$Strip" "noteFields" "[I") (by decide +kernel)
  have f27 := hts (.fieldLink RX5 27 "Threetwo$Strip" "noteLooks" "[I") (by decide +kernel)
  have f34 := hts (.fieldLink RX5 34 "Threetwo$Strip" "notes" "I") (by decide +kernel)
  have hl : lv_has ls 3 [(0, .ref d), (1, .int (iI f)), (2, .int (iI x))] := hl
  refine lv_aload_n hx hb dX5_note_0 rfl (lv_at hl 0 rfl) ?_
  refine va_get (D := D) (ci := 4) (v := .int (iI nn)) (C := RX5) (T := TX5) (N := 6) hx hb hts i5 hown hK.1 hP 0 rfl rfl 5 (by decide) f34 (fun _ h9 => h9) rfl dX5_note_1 ?_
  refine lv_sipush (v := iI (512)) hx hb dX5_note_4 (by decide +kernel) ?_
  refine zt_icmp_ge (tgt := 47) hx hb dX5_note_7 (by decide) (by omega) (fun c_1 => ?_) (fun c_1 => ?_)
  · refine lv_aload_n hx hb dX5_note_47 rfl (lv_at hl 0 rfl) ?_
    refine va_get (D := D) (ci := 4) (v := .ref r) (C := RX5) (T := TX5) (N := 6) hx hb hts i5 hown hK.1 hP 0 rfl rfl 0 (by decide) f14 (fun _ h9 => h9) rfl dX5_note_48 ?_
    refine lv_iload_n hx hb dX5_note_51 rfl (lv_at hl 1 rfl) ?_
    refine lv_iload_n hx hb dX5_note_52 rfl (lv_at hl 2 rfl) ?_
    have hPc := hP.sub (ws' := [(r, .inr (3, [.ref a, .int (iI t)])), (a, aI gi 60 g)]) [3, 4] rfl
    have hDc := hD.sub (ws' := [(r, .inr (3, [.ref a, .int (iI t)])), (a, aI gi 60 g)]) [3, 4] (by decide) rfl
    have hFc := va_free (wc := [(r, .inr (3, [.ref a, .int (iI t)])), (a, aI gi 60 g)]) hD hS hA [3, 4] rfl
    refine va_callv (va_runV C (As := [.int (iI f), .int (iI x)]) (rest := []) (c_X4_put l D gi gc gr s.heap.size r a 60 t g f x (by first | omega | assumption) (by first | omega | assumption) (by first | omega | assumption)) (cwV 2 hts gX5_note_X4_put rfl rfl rfl (by decide +kernel) ⟨Nat.le_of_ble_eq_true rfl, Nat.le_of_ble_eq_true rfl⟩) (zt_preVw hK hPc hDc [.int (iI f), .int (iI x)] 0 rfl rfl) rfl rfl hl.1 rfl (lv_room (Nat.le_of_ble_eq_true rfl)) dX5_note_53 ⟨Nat.le_of_ble_eq_true rfl, Nat.le_of_ble_eq_true rfl⟩) hS (fun q _ h => hFc q h) hFc (fun u_r_2 T9 H1 locs hT9 hvm hw hB hz1 hk1 hS => ?_)
    obtain ⟨hP1, hD1⟩ := hB
    rw [hT9] at hP1
    obtain ⟨hP, hD⟩ := zt_back (w1 := [(r, .inr (3, [.ref a, .int (iI t)])), (a, aI gi 60 u_r_2)]) (wr := [(d, .inr (4, [.ref r, .ref r2, .ref n1, .ref n2, .ref sg, .int (iI nn)])), (n1, aI gi 512 nf), (n2, aI gi 512 nl)]) (wn := [(d, .inr (4, [.ref r, .ref r2, .ref n1, .ref n2, .ref sg, .int (iI nn)])), (n1, aI gi 512 nf), (n2, aI gi 512 nl), (r, .inr (3, [.ref a, .int (iI t)])), (a, aI gi 60 u_r_2)]) hP hD [3, 4] [0, 1, 2] [0, 1, 2, 3, 4] rfl rfl (by decide) (by decide) hk1 hFc hP1 hD1 rfl (by decide)
    generalize H1 = H at hP hS ⊢
    exact hQ (nn, nf, nl, u_r_2) _ _ _ _ (by constructor <;> dsimp only <;> omega) hP hD hS dX5_note_56
  · refine lv_aload_n hx hb dX5_note_10 rfl (lv_at hl 0 rfl) ?_
    refine va_get (D := D) (ci := 4) (v := .ref n1) (C := RX5) (T := TX5) (N := 6) hx hb hts i5 hown hK.1 hP 0 rfl rfl 2 (by decide) f23 (fun _ h9 => h9) rfl dX5_note_11 ?_
    refine lv_aload_n hx hb dX5_note_14 rfl (lv_at hl 0 rfl) ?_
    refine va_get (D := D) (ci := 4) (v := .int (iI nn)) (C := RX5) (T := TX5) (N := 6) hx hb hts i5 hown hK.1 hP 0 rfl rfl 5 (by decide) f34 (fun _ h9 => h9) rfl dX5_note_15 ?_
    refine lv_iload_n hx hb dX5_note_18 rfl (lv_at hl 1 rfl) ?_
    refine zt_iast (g := nf) (x := f) hx hb hK.1 hP hD hS 1 0 rfl rfl (by omega) (by omega) dX5_note_19 (fun H locs hP hD hS => ?_)
    have hP : va_P D vwCl [(d, .inr (4, [.ref r, .ref r2, .ref n1, .ref n2, .ref sg, .int (iI nn)])), (n1, aI gi 512 (uP nf nn.toNat f)), (n2, aI gi 512 nl), (r, .inr (3, [.ref a, .int (iI t)])), (a, aI gi 60 g)] H := hP
    have hD : va_D A [(d, .inr (4, [.ref r, .ref r2, .ref n1, .ref n2, .ref sg, .int (iI nn)])), (n1, aI gi 512 (uP nf nn.toNat f)), (n2, aI gi 512 nl), (r, .inr (3, [.ref a, .int (iI t)])), (a, aI gi 60 g)] := hD
    refine lv_aload_n hx hb dX5_note_20 rfl (lv_at hl 0 rfl) ?_
    refine va_get (D := D) (ci := 4) (v := .ref n2) (C := RX5) (T := TX5) (N := 6) hx hb hts i5 hown hK.1 hP 0 rfl rfl 3 (by decide) f27 (fun _ h9 => h9) rfl dX5_note_21 ?_
    refine lv_aload_n hx hb dX5_note_24 rfl (lv_at hl 0 rfl) ?_
    refine va_get (D := D) (ci := 4) (v := .int (iI nn)) (C := RX5) (T := TX5) (N := 6) hx hb hts i5 hown hK.1 hP 0 rfl rfl 5 (by decide) f34 (fun _ h9 => h9) rfl dX5_note_25 ?_
    refine lv_aload_n hx hb dX5_note_28 rfl (lv_at hl 0 rfl) ?_
    refine va_get (D := D) (ci := 4) (v := .ref r) (C := RX5) (T := TX5) (N := 6) hx hb hts i5 hown hK.1 hP 0 rfl rfl 0 (by decide) f14 (fun _ h9 => h9) rfl dX5_note_29 ?_
    refine lv_iload_n hx hb dX5_note_32 rfl (lv_at hl 1 rfl) ?_
    refine zt_callV C (As := [.int (iI f)]) (rest := [.int (iI nn), .ref n2]) (c_X4_at l D gi gc gr r a 60 t g f (by first | omega | assumption) (by first | omega | assumption) (by first | omega | assumption)) (cwV 1 hts gX5_note_X4_at rfl rfl rfl (by decide +kernel) ⟨Nat.le_of_ble_eq_true rfl, Nat.le_of_ble_eq_true rfl⟩) (zt_preV hK (hP.sub (ws' := [(r, .inr (3, [.ref a, .int (iI t)])), (a, aI gi 60 g)]) [3, 4] rfl) [.int (iI f)] 0 rfl rfl) rfl hl.1 rfl (Nat.le_of_ble_eq_true rfl) dX5_note_33 ⟨Nat.le_of_ble_eq_true rfl, Nat.le_of_ble_eq_true rfl⟩ (fun r_3 hr_3 => ?_)
    obtain rfl := hr_3
    refine zt_iast (g := nl) (x := g f.toNat) hx hb hK.1 hP hD hS 2 0 rfl rfl (by omega) (by omega) dX5_note_36 (fun H locs hP hD hS => ?_)
    have hP : va_P D vwCl [(d, .inr (4, [.ref r, .ref r2, .ref n1, .ref n2, .ref sg, .int (iI nn)])), (n1, aI gi 512 (uP nf nn.toNat f)), (n2, aI gi 512 (uP nl nn.toNat (g f.toNat))), (r, .inr (3, [.ref a, .int (iI t)])), (a, aI gi 60 g)] H := hP
    have hD : va_D A [(d, .inr (4, [.ref r, .ref r2, .ref n1, .ref n2, .ref sg, .int (iI nn)])), (n1, aI gi 512 (uP nf nn.toNat f)), (n2, aI gi 512 (uP nl nn.toNat (g f.toNat))), (r, .inr (3, [.ref a, .int (iI t)])), (a, aI gi 60 g)] := hD
    refine lv_aload_n hx hb dX5_note_37 rfl (lv_at hl 0 rfl) ?_
    refine lv_dup hx hb dX5_note_38 rfl ?_
    refine va_get (D := D) (ci := 4) (v := .int (iI nn)) (C := RX5) (T := TX5) (N := 6) hx hb hts i5 hown hK.1 hP 0 rfl rfl 5 (by decide) f34 (fun _ h9 => h9) rfl dX5_note_39 ?_
    refine lv_iconst (v := iI (1)) hx hb dX5_note_42 (by decide +kernel) ?_
    refine zt_iadd hx hb dX5_note_43 ?_
    refine va_put (D := D) (ci := 4) (v := .int (iI (nn + 1))) (ty := .int) (C := RX5) (T := TX5) (N := 6) hx hb hts i5 tyX5 tyX5_ok nmX5 hown hK.1 hP hD hS 0 rfl rfl 5 (by decide) f34 (fun _ h9 => h9) rfl (by decide +kernel) rfl rfl (Nat.le_of_ble_eq_true rfl) dX5_note_44 (fun H locs hP hD hS => ?_)
    have hP : va_P D vwCl [(d, .inr (4, [.ref r, .ref r2, .ref n1, .ref n2, .ref sg, .int (iI (nn + 1))])), (n1, aI gi 512 (uP nf nn.toNat f)), (n2, aI gi 512 (uP nl nn.toNat (g f.toNat))), (r, .inr (3, [.ref a, .int (iI t)])), (a, aI gi 60 g)] H := hP
    have hD : va_D A [(d, .inr (4, [.ref r, .ref r2, .ref n1, .ref n2, .ref sg, .int (iI (nn + 1))])), (n1, aI gi 512 (uP nf nn.toNat f)), (n2, aI gi 512 (uP nl nn.toNat (g f.toNat))), (r, .inr (3, [.ref a, .int (iI t)])), (a, aI gi 60 g)] := hD
    refine lv_aload_n hx hb dX5_note_47 rfl (lv_at hl 0 rfl) ?_
    refine va_get (D := D) (ci := 4) (v := .ref r) (C := RX5) (T := TX5) (N := 6) hx hb hts i5 hown hK.1 hP 0 rfl rfl 0 (by decide) f14 (fun _ h9 => h9) rfl dX5_note_48 ?_
    refine lv_iload_n hx hb dX5_note_51 rfl (lv_at hl 1 rfl) ?_
    refine lv_iload_n hx hb dX5_note_52 rfl (lv_at hl 2 rfl) ?_
    have hPc := hP.sub (ws' := [(r, .inr (3, [.ref a, .int (iI t)])), (a, aI gi 60 g)]) [3, 4] rfl
    have hDc := hD.sub (ws' := [(r, .inr (3, [.ref a, .int (iI t)])), (a, aI gi 60 g)]) [3, 4] (by decide) rfl
    have hFc := va_free (wc := [(r, .inr (3, [.ref a, .int (iI t)])), (a, aI gi 60 g)]) hD hS hA [3, 4] rfl
    refine va_callv (va_runV C (As := [.int (iI f), .int (iI x)]) (rest := []) (c_X4_put l D gi gc gr H.size r a 60 t g f x (by first | omega | assumption) (by first | omega | assumption) (by first | omega | assumption)) (cwV 2 hts gX5_note_X4_put rfl rfl rfl (by decide +kernel) ⟨Nat.le_of_ble_eq_true rfl, Nat.le_of_ble_eq_true rfl⟩) (zt_preVw hK hPc hDc [.int (iI f), .int (iI x)] 0 rfl rfl) rfl rfl hl.1 rfl (lv_room (Nat.le_of_ble_eq_true rfl)) dX5_note_53 ⟨Nat.le_of_ble_eq_true rfl, Nat.le_of_ble_eq_true rfl⟩) hS (fun q _ h => hFc q h) hFc (fun u_r_4 T9 H1 locs hT9 hvm hw hB hz1 hk1 hS => ?_)
    obtain ⟨hP1, hD1⟩ := hB
    rw [hT9] at hP1
    obtain ⟨hP, hD⟩ := zt_back (w1 := [(r, .inr (3, [.ref a, .int (iI t)])), (a, aI gi 60 u_r_4)]) (wr := [(d, .inr (4, [.ref r, .ref r2, .ref n1, .ref n2, .ref sg, .int (iI (nn + 1))])), (n1, aI gi 512 (uP nf nn.toNat f)), (n2, aI gi 512 (uP nl nn.toNat (g f.toNat)))]) (wn := [(d, .inr (4, [.ref r, .ref r2, .ref n1, .ref n2, .ref sg, .int (iI (nn + 1))])), (n1, aI gi 512 (uP nf nn.toNat f)), (n2, aI gi 512 (uP nl nn.toNat (g f.toNat))), (r, .inr (3, [.ref a, .int (iI t)])), (a, aI gi 60 u_r_4)]) hP hD [3, 4] [0, 1, 2] [0, 1, 2, 3, 4] rfl rfl (by decide) (by decide) hk1 hFc hP1 hD1 rfl (by decide)
    generalize H1 = H at hP hS ⊢
    exact hQ (nn + 1, uP nf nn.toNat f, uP nl nn.toNat (g f.toNat), u_r_4) _ _ _ _ (by constructor <;> dsimp only <;> omega) hP hD hS dX5_note_56
set_option maxHeartbeats 4000000 in
set_option maxRecDepth 100000 in
theorem c_X5_takeBack (l : Launch) (D : va_G) (gi gc gr : ClassId) (sz : Nat) (d : Nat) (r2 : Nat) (n1 : Nat) (n2 : Nat) (sg : Nat) (nn : Int) (r : Nat) (a : Nat) (t : Int) (g : Nat → Int) (nf : Nat → Int) (nl : Nat → Int) (ht : 0 ≤ t ∧ t ≤ 60) (hnn : 0 ≤ nn ∧ nn ≤ 512) : Met l yX5_takeBack wsX5_takeBack { frames := 2, cells := 0, slots := 0, locals := 43 } (zPw D gi gc gr [(d, .inr (4, [.ref r, .ref r2, .ref n1, .ref n2, .ref sg, .int (iI nn)])), (n1, aI gi 512 nf), (n2, aI gi 512 nl), (r, .inr (3, [.ref a, .int (iI t)])), (a, aI gi 60 g)] sz [.ref d]) (va_Qi (S := Int × (Nat → Int)) (fun v u => (∃ z : Int, v = iI z) ∧ 0 ≤ u.1 ∧ u.1 ≤ 512) (zB D (va_A [(d, .inr (4, [.ref r, .ref r2, .ref n1, .ref n2, .ref sg, .int (iI nn)])), (n1, aI gi 512 nf), (n2, aI gi 512 nl), (r, .inr (3, [.ref a, .int (iI t)])), (a, aI gi 60 g)] sz) (fun u => [(d, .inr (4, [.ref r, .ref r2, .ref n1, .ref n2, .ref sg, .int (iI u.1)])), (n1, aI gi 512 nf), (n2, aI gi 512 nl), (r, .inr (3, [.ref a, .int (iI t)])), (a, aI gi 60 u.2)])) (va_A [(d, .inr (4, [.ref r, .ref r2, .ref n1, .ref n2, .ref sg, .int (iI nn)])), (n1, aI gi 512 nf), (n2, aI gi 512 nl), (r, .inr (3, [.ref a, .int (iI t)])), (a, aI gi 60 g)] sz)) 0 0 (va_A [(d, .inr (4, [.ref r, .ref r2, .ref n1, .ref n2, .ref sg, .int (iI nn)])), (n1, aI gi 512 nf), (n2, aI gi 512 nl), (r, .inr (3, [.ref a, .int (iI t)])), (a, aI gi 60 g)] sz) := by
  refine zt_metWi (own := RX5) (cc := cX5_takeBack) (maxL := 2) (by decide) rfl rfl (Nat.le_of_ble_eq_true rfl) ?_
  intro p e s m args below meth c Q A C hK hP hD hS hA _ hQ ls hl
  have hx := C.1
  have hb := C.2.1
  have hml := C.2.2.1
  have hown := C.2.2.2.1
  have hts := C.2.2.2.2
  have i5 : ∀ w ∈ u_ws RX5 TX5 6, w ∈ wsX5_takeBack := by decide +kernel
  have f14 := hts (.fieldLink RX5 14 "Threetwo$Strip" "looks" "LThreetwo$Row;") (by decide +kernel)
  have f23 := hts (.fieldLink RX5 23 "Threetwo$Strip" "noteFields" "[I") (by decide +kernel)
  have f27 := hts (.fieldLink RX5 27 "Threetwo$Strip" "noteLooks" "[I") (by decide +kernel)
  have f34 := hts (.fieldLink RX5 34 "Threetwo$Strip" "notes" "I") (by decide +kernel)
  have hl : lv_has ls 2 [(0, .ref d)] := hl
  refine lv_aload_n hx hb dX5_takeBack_0 rfl (lv_at hl 0 rfl) ?_
  refine va_get (D := D) (ci := 4) (v := .int (iI nn)) (C := RX5) (T := TX5) (N := 6) hx hb hts i5 hown hK.1 hP 0 rfl rfl 5 (by decide) f34 (fun _ h9 => h9) rfl dX5_takeBack_1 ?_
  refine zt_if_gt (tgt := 9) hx hb dX5_takeBack_4 (by decide) (by omega) (fun c_1 => ?_) (fun c_1 => ?_)
  · refine lv_aload_n hx hb dX5_takeBack_9 rfl (lv_at hl 0 rfl) ?_
    refine lv_dup hx hb dX5_takeBack_10 rfl ?_
    refine va_get (D := D) (ci := 4) (v := .int (iI nn)) (C := RX5) (T := TX5) (N := 6) hx hb hts i5 hown hK.1 hP 0 rfl rfl 5 (by decide) f34 (fun _ h9 => h9) rfl dX5_takeBack_11 ?_
    refine lv_iconst (v := iI (1)) hx hb dX5_takeBack_14 (by decide +kernel) ?_
    refine zt_isub hx hb dX5_takeBack_15 ?_
    refine va_put (D := D) (ci := 4) (v := .int (iI (nn - 1))) (ty := .int) (C := RX5) (T := TX5) (N := 6) hx hb hts i5 tyX5 tyX5_ok nmX5 hown hK.1 hP hD hS 0 rfl rfl 5 (by decide) f34 (fun _ h9 => h9) rfl (by decide +kernel) rfl rfl (Nat.le_of_ble_eq_true rfl) dX5_takeBack_16 (fun H locs hP hD hS => ?_)
    have hP : va_P D vwCl [(d, .inr (4, [.ref r, .ref r2, .ref n1, .ref n2, .ref sg, .int (iI (nn - 1))])), (n1, aI gi 512 nf), (n2, aI gi 512 nl), (r, .inr (3, [.ref a, .int (iI t)])), (a, aI gi 60 g)] H := hP
    have hD : va_D A [(d, .inr (4, [.ref r, .ref r2, .ref n1, .ref n2, .ref sg, .int (iI (nn - 1))])), (n1, aI gi 512 nf), (n2, aI gi 512 nl), (r, .inr (3, [.ref a, .int (iI t)])), (a, aI gi 60 g)] := hD
    refine lv_aload_n hx hb dX5_takeBack_19 rfl (lv_at hl 0 rfl) ?_
    refine va_get (D := D) (ci := 4) (v := .ref n1) (C := RX5) (T := TX5) (N := 6) hx hb hts i5 hown hK.1 hP 0 rfl rfl 2 (by decide) f23 (fun _ h9 => h9) rfl dX5_takeBack_20 ?_
    refine lv_aload_n hx hb dX5_takeBack_23 rfl (lv_at hl 0 rfl) ?_
    refine va_get (D := D) (ci := 4) (v := .int (iI (nn - 1))) (C := RX5) (T := TX5) (N := 6) hx hb hts i5 hown hK.1 hP 0 rfl rfl 5 (by decide) f34 (fun _ h9 => h9) rfl dX5_takeBack_24 ?_
    refine zt_iald hx hb hK.1 hP 1 0 rfl rfl (by omega) (by omega) dX5_takeBack_27 ?_
    obtain ⟨z_2, ez_2, hz_2⟩ := iI_ex (iI (nf (nn - 1).toNat))
    rw [ez_2]
    refine lv_istore_n (lv' := [(1, .int (iI z_2)), (0, .ref d)]) hx hb dX5_takeBack_28 rfl hl (by decide) rfl (fun ls hl => ?_)
    refine lv_aload_n hx hb dX5_takeBack_29 rfl (lv_at hl 1 rfl) ?_
    refine va_get (D := D) (ci := 4) (v := .ref r) (C := RX5) (T := TX5) (N := 6) hx hb hts i5 hown hK.1 hP 0 rfl rfl 0 (by decide) f14 (fun _ h9 => h9) rfl dX5_takeBack_30 ?_
    refine lv_iload_n hx hb dX5_takeBack_33 rfl (lv_at hl 0 rfl) ?_
    refine lv_aload_n hx hb dX5_takeBack_34 rfl (lv_at hl 1 rfl) ?_
    refine va_get (D := D) (ci := 4) (v := .ref n2) (C := RX5) (T := TX5) (N := 6) hx hb hts i5 hown hK.1 hP 0 rfl rfl 3 (by decide) f27 (fun _ h9 => h9) rfl dX5_takeBack_35 ?_
    refine lv_aload_n hx hb dX5_takeBack_38 rfl (lv_at hl 1 rfl) ?_
    refine va_get (D := D) (ci := 4) (v := .int (iI (nn - 1))) (C := RX5) (T := TX5) (N := 6) hx hb hts i5 hown hK.1 hP 0 rfl rfl 5 (by decide) f34 (fun _ h9 => h9) rfl dX5_takeBack_39 ?_
    refine zt_iald hx hb hK.1 hP 2 0 rfl rfl (by omega) (by omega) dX5_takeBack_42 ?_
    have hPc := hP.sub (ws' := [(r, .inr (3, [.ref a, .int (iI t)])), (a, aI gi 60 g)]) [3, 4] rfl
    have hDc := hD.sub (ws' := [(r, .inr (3, [.ref a, .int (iI t)])), (a, aI gi 60 g)]) [3, 4] (by decide) rfl
    have hFc := va_free (wc := [(r, .inr (3, [.ref a, .int (iI t)])), (a, aI gi 60 g)]) hD hS hA [3, 4] rfl
    refine va_callv (va_runV C (As := [.int (iI z_2), .int (iI (nl (nn - 1).toNat))]) (rest := []) (c_X4_put l D gi gc gr H.size r a 60 t g z_2 (nl (nn - 1).toNat) (by first | omega | assumption) (by first | omega | assumption) (by first | omega | assumption)) (cwV 2 hts gX5_takeBack_X4_put rfl rfl rfl (by decide +kernel) ⟨Nat.le_of_ble_eq_true rfl, Nat.le_of_ble_eq_true rfl⟩) (zt_preVw hK hPc hDc [.int (iI z_2), .int (iI (nl (nn - 1).toNat))] 0 rfl rfl) rfl rfl hl.1 rfl (lv_room (Nat.le_of_ble_eq_true rfl)) dX5_takeBack_43 ⟨Nat.le_of_ble_eq_true rfl, Nat.le_of_ble_eq_true rfl⟩) hS (fun q _ h => hFc q h) hFc (fun u_r_3 T9 H1 locs hT9 hvm hw hB hz1 hk1 hS => ?_)
    obtain ⟨hP1, hD1⟩ := hB
    rw [hT9] at hP1
    obtain ⟨hP, hD⟩ := zt_back (w1 := [(r, .inr (3, [.ref a, .int (iI t)])), (a, aI gi 60 u_r_3)]) (wr := [(d, .inr (4, [.ref r, .ref r2, .ref n1, .ref n2, .ref sg, .int (iI (nn - 1))])), (n1, aI gi 512 nf), (n2, aI gi 512 nl)]) (wn := [(d, .inr (4, [.ref r, .ref r2, .ref n1, .ref n2, .ref sg, .int (iI (nn - 1))])), (n1, aI gi 512 nf), (n2, aI gi 512 nl), (r, .inr (3, [.ref a, .int (iI t)])), (a, aI gi 60 u_r_3)]) hP hD [3, 4] [0, 1, 2] [0, 1, 2, 3, 4] rfl rfl (by decide) (by decide) hk1 hFc hP1 hD1 rfl (by decide)
    generalize H1 = H at hP hS ⊢
    refine lv_iload_n hx hb dX5_takeBack_46 rfl (lv_at hl 0 rfl) ?_
    exact hQ (nn - 1, u_r_3) _ _ _ _ _ (⟨⟨_, rfl⟩, by constructor <;> dsimp only <;> omega⟩) hP hD hS dX5_takeBack_47
  · refine lv_iconst (v := iI (-1)) hx hb dX5_takeBack_7 (by decide +kernel) ?_
    exact hQ (nn, g) _ _ _ _ _ (⟨⟨_, rfl⟩, by constructor <;> dsimp only <;> omega⟩) hP hD hS dX5_takeBack_8
set_option maxHeartbeats 16000000 in
set_option maxRecDepth 100000 in
theorem c_X5_pullDown (l : Launch) (D : va_G) (gi gc gr : ClassId) (sz : Nat) (d : Nat) (r2 : Nat) (n1 : Nat) (n2 : Nat) (sg : Nat) (nn : Int) (r : Nat) (a : Nat) (t : Int) (g : Nat → Int) (k1 : Nat) (k2 : Nat) (rn : Int) (rg : Nat → Int) (ph : Int) (ht : 0 ≤ t ∧ t ≤ 60) (hrn : 0 ≤ rn ∧ rn ≤ 24) (hph : 0 ≤ ph ∧ ph ≤ 1) : Met l yX5_pullDown wsX5_pullDown { frames := 1, cells := 0, slots := 0, locals := 21 } (zPw D gi gc gr [(d, .inr (4, [.ref r, .ref r2, .ref n1, .ref n2, .ref sg, .int (iI nn)])), (r, .inr (3, [.ref a, .int (iI t)])), (a, aI gi 60 g), (k1, .inr (3, [.ref k2, .int (iI rn)])), (k2, aI gi 24 rg)] sz [.ref d, .ref k1, .int (iI ph)]) (va_Qv (S := Int × (Nat → Int)) (fun u => 0 ≤ u.1 ∧ u.1 ≤ 60) (zB D (va_A [(d, .inr (4, [.ref r, .ref r2, .ref n1, .ref n2, .ref sg, .int (iI nn)])), (r, .inr (3, [.ref a, .int (iI t)])), (a, aI gi 60 g), (k1, .inr (3, [.ref k2, .int (iI rn)])), (k2, aI gi 24 rg)] sz) (fun u => [(d, .inr (4, [.ref r, .ref r2, .ref n1, .ref n2, .ref sg, .int (iI 0)])), (r, .inr (3, [.ref a, .int (iI u.1)])), (a, aI gi 60 u.2), (k1, .inr (3, [.ref k2, .int (iI rn)])), (k2, aI gi 24 rg)])) (va_A [(d, .inr (4, [.ref r, .ref r2, .ref n1, .ref n2, .ref sg, .int (iI nn)])), (r, .inr (3, [.ref a, .int (iI t)])), (a, aI gi 60 g), (k1, .inr (3, [.ref k2, .int (iI rn)])), (k2, aI gi 24 rg)] sz)) 0 0 (va_A [(d, .inr (4, [.ref r, .ref r2, .ref n1, .ref n2, .ref sg, .int (iI nn)])), (r, .inr (3, [.ref a, .int (iI t)])), (a, aI gi 60 g), (k1, .inr (3, [.ref k2, .int (iI rn)])), (k2, aI gi 24 rg)] sz) := by
  refine zt_metWv (own := RX5) (cc := cX5_pullDown) (maxL := 6) (by decide) rfl rfl (Nat.le_of_ble_eq_true rfl) ?_
  intro p e s m args below meth c Q A C hK hP hD hS hA _ hQ ls hl
  have hx := C.1
  have hb := C.2.1
  have hml := C.2.2.1
  have hown := C.2.2.2.1
  have hts := C.2.2.2.2
  have i5 : ∀ w ∈ u_ws RX5 TX5 6, w ∈ wsX5_pullDown := by decide +kernel
  have f14 := hts (.fieldLink RX5 14 "Threetwo$Strip" "looks" "LThreetwo$Row;") (by decide +kernel)
  have f34 := hts (.fieldLink RX5 34 "Threetwo$Strip" "notes" "I") (by decide +kernel)
  have hl : lv_has ls 6 [(0, .ref d), (1, .ref k1), (2, .int (iI ph))] := hl
  refine lv_aload_n hx hb dX5_pullDown_0 rfl (lv_at hl 0 rfl) ?_
  refine va_get (D := D) (ci := 4) (v := .ref r) (C := RX5) (T := TX5) (N := 6) hx hb hts i5 hown hK.1 hP 0 rfl rfl 0 (by decide) f14 (fun _ h9 => h9) rfl dX5_pullDown_1 ?_
  have hPc := hP.sub (ws' := [(r, .inr (3, [.ref a, .int (iI t)]))]) [1] rfl
  have hDc := hD.sub (ws' := [(r, .inr (3, [.ref a, .int (iI t)]))]) [1] (by decide) rfl
  have hFc := va_free (wc := [(r, .inr (3, [.ref a, .int (iI t)]))]) hD hS hA [1] rfl
  refine va_callv (va_runV C (As := []) (rest := []) (c_X4_clear l D gi gc gr s.heap.size r a t) (cwV 0 hts gX5_pullDown_X4_clear rfl rfl rfl (by decide +kernel) ⟨Nat.le_of_ble_eq_true rfl, Nat.le_of_ble_eq_true rfl⟩) (zt_preVw hK hPc hDc [] 0 rfl rfl) rfl rfl hl.1 rfl (lv_room (Nat.le_of_ble_eq_true rfl)) dX5_pullDown_4 ⟨Nat.le_of_ble_eq_true rfl, Nat.le_of_ble_eq_true rfl⟩) hS (fun q _ h => hFc q h) hFc (fun u_r_1 T9 H1 locs hT9 hvm hw hB hz1 hk1 hS => ?_)
  obtain ⟨hP1, hD1⟩ := hB
  rw [hT9] at hP1
  obtain ⟨hP, hD⟩ := zt_back (w1 := [(r, .inr (3, [.ref a, .int (iI 0)]))]) (wr := [(d, .inr (4, [.ref r, .ref r2, .ref n1, .ref n2, .ref sg, .int (iI nn)])), (a, aI gi 60 g), (k1, .inr (3, [.ref k2, .int (iI rn)])), (k2, aI gi 24 rg)]) (wn := [(d, .inr (4, [.ref r, .ref r2, .ref n1, .ref n2, .ref sg, .int (iI nn)])), (r, .inr (3, [.ref a, .int (iI 0)])), (a, aI gi 60 g), (k1, .inr (3, [.ref k2, .int (iI rn)])), (k2, aI gi 24 rg)]) hP hD [1] [0, 2, 3, 4] [0, 4, 1, 2, 3] rfl rfl (by decide) (by decide) hk1 hFc hP1 hD1 rfl (by decide)
  generalize H1 = H at hP hS ⊢
  refine lv_aload_n hx hb dX5_pullDown_7 rfl (lv_at hl 0 rfl) ?_
  refine lv_iconst (v := iI (0)) hx hb dX5_pullDown_8 (by decide +kernel) ?_
  refine va_put (D := D) (ci := 4) (v := .int (iI 0)) (ty := .int) (C := RX5) (T := TX5) (N := 6) hx hb hts i5 tyX5 tyX5_ok nmX5 hown hK.1 hP hD hS 0 rfl rfl 5 (by decide) f34 (fun _ h9 => h9) rfl (by decide +kernel) rfl rfl (Nat.le_of_ble_eq_true rfl) dX5_pullDown_9 (fun H locs hP hD hS => ?_)
  have hP : va_P D vwCl [(d, .inr (4, [.ref r, .ref r2, .ref n1, .ref n2, .ref sg, .int (iI 0)])), (r, .inr (3, [.ref a, .int (iI 0)])), (a, aI gi 60 g), (k1, .inr (3, [.ref k2, .int (iI rn)])), (k2, aI gi 24 rg)] H := hP
  have hD : va_D A [(d, .inr (4, [.ref r, .ref r2, .ref n1, .ref n2, .ref sg, .int (iI 0)])), (r, .inr (3, [.ref a, .int (iI 0)])), (a, aI gi 60 g), (k1, .inr (3, [.ref k2, .int (iI rn)])), (k2, aI gi 24 rg)] := hD
  refine lv_iconst (v := iI (0)) hx hb dX5_pullDown_12 (by decide +kernel) ?_
  refine lv_istore_n (lv' := [(3, .int (iI 0)), (0, .ref d), (1, .ref k1), (2, .int (iI ph))]) hx hb dX5_pullDown_13 rfl hl (by decide) rfl (fun ls hl => ?_)
  have loop_14 : ∀ (n_14 : Nat) (j : Int) (ta : Int) (ga : Nat → Int) (hj : 0 ≤ j ∧ j ≤ rn) (hta : 0 ≤ ta ∧ ta ≤ 60) (hm_14 : rn - j < (n_14 : Int)) (H : Heap) (locs : List Loc) (hP : va_P D vwCl [(d, .inr (4, [.ref r, .ref r2, .ref n1, .ref n2, .ref sg, .int (iI 0)])), (r, .inr (3, [.ref a, .int (iI ta)])), (a, aI gi 60 ga), (k1, .inr (3, [.ref k2, .int (iI rn)])), (k2, aI gi 24 rg)] H) (hD : va_D A [(d, .inr (4, [.ref r, .ref r2, .ref n1, .ref n2, .ref sg, .int (iI 0)])), (r, .inr (3, [.ref a, .int (iI ta)])), (a, aI gi 60 ga), (k1, .inr (3, [.ref k2, .int (iI rn)])), (k2, aI gi 24 rg)]) (hS : va_S A s.heap H locs) (ls : Array Slot) (hl : lv_has ls 6 [(0, .ref d), (1, .ref k1), (2, .int (iI ph)), (3, .int (iI j))]), W p l e { frames := 1, cells := 0, slots := 0, locals := 21 } s m args below meth c H locs 0 0 Q (F0 m 14 ls []) := by
    intro n_14
    induction n_14 with
    | zero => intro j ta ga hj hta hm_14 H locs hP hD hS ls hl; exact absurd hm_14 (by omega)
    | succ n_14 ih_14 =>
      intro j ta ga hj hta hm_14 H locs hP hD hS ls hl
      refine lv_iload_n hx hb dX5_pullDown_14 rfl (lv_at hl 3 rfl) ?_
      refine lv_aload_n hx hb dX5_pullDown_15 rfl (lv_at hl 1 rfl) ?_
      refine zt_callV C (As := []) (rest := [.int (iI j)]) (c_X4_many l D gi gc gr k1 k2 rn) (cwV 0 hts gX5_pullDown_X4_many rfl rfl rfl (by decide +kernel) ⟨Nat.le_of_ble_eq_true rfl, Nat.le_of_ble_eq_true rfl⟩) (zt_preV hK (hP.sub (ws' := [(k1, .inr (3, [.ref k2, .int (iI rn)]))]) [3] rfl) [] 0 rfl rfl) rfl hl.1 rfl (Nat.le_of_ble_eq_true rfl) dX5_pullDown_16 ⟨Nat.le_of_ble_eq_true rfl, Nat.le_of_ble_eq_true rfl⟩ (fun r_2 hr_2 => ?_)
      obtain rfl := hr_2
      refine zt_icmp_ge (tgt := 72) hx hb dX5_pullDown_19 (by decide) (by omega) (fun c_3 => ?_) (fun c_3 => ?_)
      · exact hQ (ta, ga) _ _ _ _ (by constructor <;> dsimp only <;> omega) hP hD hS dX5_pullDown_72
      · refine lv_iload_n hx hb dX5_pullDown_22 rfl (lv_at hl 3 rfl) ?_
        refine lv_iload_n hx hb dX5_pullDown_23 rfl (lv_at hl 2 rfl) ?_
        refine zt_iadd hx hb dX5_pullDown_24 ?_
        refine lv_iconst (v := iI (2)) hx hb dX5_pullDown_25 (by decide +kernel) ?_
        refine zt_irem hx hb dX5_pullDown_26 (by omega) ?_
        refine zt_if_ne (tgt := 34) hx hb dX5_pullDown_27 (by decide) (by omega) (fun c_4 => ?_) (fun c_4 => ?_)
        · refine lv_iconst (v := iI (3)) hx hb dX5_pullDown_34 (by decide +kernel) ?_
          refine lv_istore (lv' := [(4, .int (iI 3)), (0, .ref d), (1, .ref k1), (2, .int (iI ph)), (3, .int (iI j))]) hx hb dX5_pullDown_35 hl (by decide) rfl (fun ls hl => ?_)
          refine lv_iconst (v := iI (0)) hx hb dX5_pullDown_37 (by decide +kernel) ?_
          refine lv_istore (lv' := [(5, .int (iI 0)), (4, .int (iI 3)), (0, .ref d), (1, .ref k1), (2, .int (iI ph)), (3, .int (iI j))]) hx hb dX5_pullDown_38 hl (by decide) rfl (fun ls hl => ?_)
          have loop_40 : ∀ (n_40 : Nat) (gv : Int) (y : Int) (tb : Int) (gb : Nat → Int) (hgv : 2 ≤ gv ∧ gv ≤ 3) (hy : 0 ≤ y ∧ y ≤ gv) (htb : 0 ≤ tb ∧ tb ≤ 60) (hm_40 : gv - y < (n_40 : Int)) (H : Heap) (locs : List Loc) (hP : va_P D vwCl [(d, .inr (4, [.ref r, .ref r2, .ref n1, .ref n2, .ref sg, .int (iI 0)])), (r, .inr (3, [.ref a, .int (iI tb)])), (a, aI gi 60 gb), (k1, .inr (3, [.ref k2, .int (iI rn)])), (k2, aI gi 24 rg)] H) (hD : va_D A [(d, .inr (4, [.ref r, .ref r2, .ref n1, .ref n2, .ref sg, .int (iI 0)])), (r, .inr (3, [.ref a, .int (iI tb)])), (a, aI gi 60 gb), (k1, .inr (3, [.ref k2, .int (iI rn)])), (k2, aI gi 24 rg)]) (hS : va_S A s.heap H locs) (ls : Array Slot) (hl : lv_has ls 6 [(0, .ref d), (1, .ref k1), (2, .int (iI ph)), (3, .int (iI j)), (4, .int (iI gv)), (5, .int (iI y))]), W p l e { frames := 1, cells := 0, slots := 0, locals := 21 } s m args below meth c H locs 0 0 Q (F0 m 40 ls []) := by
            intro n_40
            induction n_40 with
            | zero => intro gv y tb gb hgv hy htb hm_40 H locs hP hD hS ls hl; exact absurd hm_40 (by omega)
            | succ n_40 ih_40 =>
              intro gv y tb gb hgv hy htb hm_40 H locs hP hD hS ls hl
              refine lv_iload hx hb dX5_pullDown_40 (lv_at hl 5 rfl) ?_
              refine lv_iload hx hb dX5_pullDown_42 (lv_at hl 4 rfl) ?_
              refine zt_icmp_ge (tgt := 66) hx hb dX5_pullDown_44 (by decide) (by omega) (fun c_5 => ?_) (fun c_5 => ?_)
              · refine lv_iinc (v := iI (j + 1)) (lv' := [(3, .int (iI (j + 1))), (0, .ref d), (1, .ref k1), (2, .int (iI ph)), (4, .int (iI gv)), (5, .int (iI y))]) hx hb dX5_pullDown_66 hl (k := 3) rfl (iI_add _ _) (by decide) rfl (fun ls hl => ?_)
                refine lv_goto (tgt := 14) hx hb dX5_pullDown_69 (by decide) ?_
                exact ih_14 (j + 1) tb gb (by omega) (by omega) (by omega) H locs hP hD hS ls (lv_sub hl [1, 2, 3, 0] rfl)
              · refine lv_aload_n hx hb dX5_pullDown_47 rfl (lv_at hl 0 rfl) ?_
                refine va_get (D := D) (ci := 4) (v := .ref r) (C := RX5) (T := TX5) (N := 6) hx hb hts i5 hown hK.1 hP 0 rfl rfl 0 (by decide) f14 (fun _ h9 => h9) rfl dX5_pullDown_48 ?_
                refine lv_aload_n hx hb dX5_pullDown_51 rfl (lv_at hl 1 rfl) ?_
                refine lv_iload_n hx hb dX5_pullDown_52 rfl (lv_at hl 3 rfl) ?_
                refine zt_callV C (As := [.int (iI j)]) (rest := [.ref r]) (c_X4_at l D gi gc gr k1 k2 24 rn rg j (by first | omega | assumption) (by first | omega | assumption) (by first | omega | assumption)) (cwV 1 hts gX5_pullDown_X4_at rfl rfl rfl (by decide +kernel) ⟨Nat.le_of_ble_eq_true rfl, Nat.le_of_ble_eq_true rfl⟩) (zt_preV hK (hP.sub (ws' := [(k1, .inr (3, [.ref k2, .int (iI rn)])), (k2, aI gi 24 rg)]) [3, 4] rfl) [.int (iI j)] 0 rfl rfl) rfl hl.1 rfl (Nat.le_of_ble_eq_true rfl) dX5_pullDown_53 ⟨Nat.le_of_ble_eq_true rfl, Nat.le_of_ble_eq_true rfl⟩ (fun r_6 hr_6 => ?_)
                obtain rfl := hr_6
                have hPc := hP.sub (ws' := [(r, .inr (3, [.ref a, .int (iI tb)])), (a, aI gi 60 gb)]) [1, 2] rfl
                have hDc := hD.sub (ws' := [(r, .inr (3, [.ref a, .int (iI tb)])), (a, aI gi 60 gb)]) [1, 2] (by decide) rfl
                have hFc := va_free (wc := [(r, .inr (3, [.ref a, .int (iI tb)])), (a, aI gi 60 gb)]) hD hS hA [1, 2] rfl
                refine va_calli (va_runV C (As := [.int (iI (rg j.toNat))]) (rest := []) (c_X4_add l D gi gc gr H.size r a 60 tb gb (rg j.toNat) (by first | omega | assumption) (by first | omega | assumption)) (cwV 1 hts gX5_pullDown_X4_add rfl rfl rfl (by decide +kernel) ⟨Nat.le_of_ble_eq_true rfl, Nat.le_of_ble_eq_true rfl⟩) (zt_preVw hK hPc hDc [.int (iI (rg j.toNat))] 0 rfl rfl) rfl rfl hl.1 rfl (lv_room (Nat.le_of_ble_eq_true rfl)) dX5_pullDown_56 ⟨Nat.le_of_ble_eq_true rfl, Nat.le_of_ble_eq_true rfl⟩) hS (fun q _ h => hFc q h) hFc (fun r_7 u_r_7 T9 H1 locs hT9 hvm hw hB hz1 hk1 hS => ?_)
                obtain ⟨t_7, g_7⟩ := u_r_7
                obtain ⟨z_7, e_7, hz_7⟩ := hw
                dsimp only at hz_7
                subst e_7
                obtain ⟨hP1, hD1⟩ := hB
                rw [hT9] at hP1
                obtain ⟨hP, hD⟩ := zt_back (w1 := [(r, .inr (3, [.ref a, .int (iI t_7)])), (a, aI gi 60 g_7)]) (wr := [(d, .inr (4, [.ref r, .ref r2, .ref n1, .ref n2, .ref sg, .int (iI 0)])), (k1, .inr (3, [.ref k2, .int (iI rn)])), (k2, aI gi 24 rg)]) (wn := [(d, .inr (4, [.ref r, .ref r2, .ref n1, .ref n2, .ref sg, .int (iI 0)])), (r, .inr (3, [.ref a, .int (iI t_7)])), (a, aI gi 60 g_7), (k1, .inr (3, [.ref k2, .int (iI rn)])), (k2, aI gi 24 rg)]) hP hD [1, 2] [0, 3, 4] [0, 3, 4, 1, 2] rfl rfl (by decide) (by decide) hk1 hFc hP1 hD1 rfl (by decide)
                generalize H1 = H at hP hS ⊢
                refine lv_pop hx hb dX5_pullDown_59 rfl ?_
                refine lv_iinc (v := iI (y + 1)) (lv' := [(5, .int (iI (y + 1))), (0, .ref d), (1, .ref k1), (2, .int (iI ph)), (3, .int (iI j)), (4, .int (iI gv))]) hx hb dX5_pullDown_60 hl (k := 5) rfl (iI_add _ _) (by decide) rfl (fun ls hl => ?_)
                refine lv_goto (tgt := 40) hx hb dX5_pullDown_63 (by decide) ?_
                exact ih_40 gv (y + 1) t_7 g_7 (by omega) (by omega) (by omega) (by omega) H locs hP hD hS ls (lv_sub hl [1, 2, 3, 4, 5, 0] rfl)
          exact loop_40 ((3 - 0 : Int).toNat + 1) 3 0 ta ga (by omega) (by omega) (by omega) (by omega) H locs hP hD hS ls (lv_sub hl [2, 3, 4, 5, 1, 0] rfl)
        · refine lv_iconst (v := iI (2)) hx hb dX5_pullDown_30 (by decide +kernel) ?_
          refine lv_goto (tgt := 35) hx hb dX5_pullDown_31 (by decide) ?_
          refine lv_istore (lv' := [(4, .int (iI 2)), (0, .ref d), (1, .ref k1), (2, .int (iI ph)), (3, .int (iI j))]) hx hb dX5_pullDown_35 hl (by decide) rfl (fun ls hl => ?_)
          refine lv_iconst (v := iI (0)) hx hb dX5_pullDown_37 (by decide +kernel) ?_
          refine lv_istore (lv' := [(5, .int (iI 0)), (4, .int (iI 2)), (0, .ref d), (1, .ref k1), (2, .int (iI ph)), (3, .int (iI j))]) hx hb dX5_pullDown_38 hl (by decide) rfl (fun ls hl => ?_)
          have loop_40 : ∀ (n_40 : Nat) (gv : Int) (y : Int) (tb : Int) (gb : Nat → Int) (hgv : 2 ≤ gv ∧ gv ≤ 3) (hy : 0 ≤ y ∧ y ≤ gv) (htb : 0 ≤ tb ∧ tb ≤ 60) (hm_40 : gv - y < (n_40 : Int)) (H : Heap) (locs : List Loc) (hP : va_P D vwCl [(d, .inr (4, [.ref r, .ref r2, .ref n1, .ref n2, .ref sg, .int (iI 0)])), (r, .inr (3, [.ref a, .int (iI tb)])), (a, aI gi 60 gb), (k1, .inr (3, [.ref k2, .int (iI rn)])), (k2, aI gi 24 rg)] H) (hD : va_D A [(d, .inr (4, [.ref r, .ref r2, .ref n1, .ref n2, .ref sg, .int (iI 0)])), (r, .inr (3, [.ref a, .int (iI tb)])), (a, aI gi 60 gb), (k1, .inr (3, [.ref k2, .int (iI rn)])), (k2, aI gi 24 rg)]) (hS : va_S A s.heap H locs) (ls : Array Slot) (hl : lv_has ls 6 [(0, .ref d), (1, .ref k1), (2, .int (iI ph)), (3, .int (iI j)), (4, .int (iI gv)), (5, .int (iI y))]), W p l e { frames := 1, cells := 0, slots := 0, locals := 21 } s m args below meth c H locs 0 0 Q (F0 m 40 ls []) := by
            intro n_40
            induction n_40 with
            | zero => intro gv y tb gb hgv hy htb hm_40 H locs hP hD hS ls hl; exact absurd hm_40 (by omega)
            | succ n_40 ih_40 =>
              intro gv y tb gb hgv hy htb hm_40 H locs hP hD hS ls hl
              refine lv_iload hx hb dX5_pullDown_40 (lv_at hl 5 rfl) ?_
              refine lv_iload hx hb dX5_pullDown_42 (lv_at hl 4 rfl) ?_
              refine zt_icmp_ge (tgt := 66) hx hb dX5_pullDown_44 (by decide) (by omega) (fun c_8 => ?_) (fun c_8 => ?_)
              · refine lv_iinc (v := iI (j + 1)) (lv' := [(3, .int (iI (j + 1))), (0, .ref d), (1, .ref k1), (2, .int (iI ph)), (4, .int (iI gv)), (5, .int (iI y))]) hx hb dX5_pullDown_66 hl (k := 3) rfl (iI_add _ _) (by decide) rfl (fun ls hl => ?_)
                refine lv_goto (tgt := 14) hx hb dX5_pullDown_69 (by decide) ?_
                exact ih_14 (j + 1) tb gb (by omega) (by omega) (by omega) H locs hP hD hS ls (lv_sub hl [1, 2, 3, 0] rfl)
              · refine lv_aload_n hx hb dX5_pullDown_47 rfl (lv_at hl 0 rfl) ?_
                refine va_get (D := D) (ci := 4) (v := .ref r) (C := RX5) (T := TX5) (N := 6) hx hb hts i5 hown hK.1 hP 0 rfl rfl 0 (by decide) f14 (fun _ h9 => h9) rfl dX5_pullDown_48 ?_
                refine lv_aload_n hx hb dX5_pullDown_51 rfl (lv_at hl 1 rfl) ?_
                refine lv_iload_n hx hb dX5_pullDown_52 rfl (lv_at hl 3 rfl) ?_
                refine zt_callV C (As := [.int (iI j)]) (rest := [.ref r]) (c_X4_at l D gi gc gr k1 k2 24 rn rg j (by first | omega | assumption) (by first | omega | assumption) (by first | omega | assumption)) (cwV 1 hts gX5_pullDown_X4_at rfl rfl rfl (by decide +kernel) ⟨Nat.le_of_ble_eq_true rfl, Nat.le_of_ble_eq_true rfl⟩) (zt_preV hK (hP.sub (ws' := [(k1, .inr (3, [.ref k2, .int (iI rn)])), (k2, aI gi 24 rg)]) [3, 4] rfl) [.int (iI j)] 0 rfl rfl) rfl hl.1 rfl (Nat.le_of_ble_eq_true rfl) dX5_pullDown_53 ⟨Nat.le_of_ble_eq_true rfl, Nat.le_of_ble_eq_true rfl⟩ (fun r_9 hr_9 => ?_)
                obtain rfl := hr_9
                have hPc := hP.sub (ws' := [(r, .inr (3, [.ref a, .int (iI tb)])), (a, aI gi 60 gb)]) [1, 2] rfl
                have hDc := hD.sub (ws' := [(r, .inr (3, [.ref a, .int (iI tb)])), (a, aI gi 60 gb)]) [1, 2] (by decide) rfl
                have hFc := va_free (wc := [(r, .inr (3, [.ref a, .int (iI tb)])), (a, aI gi 60 gb)]) hD hS hA [1, 2] rfl
                refine va_calli (va_runV C (As := [.int (iI (rg j.toNat))]) (rest := []) (c_X4_add l D gi gc gr H.size r a 60 tb gb (rg j.toNat) (by first | omega | assumption) (by first | omega | assumption)) (cwV 1 hts gX5_pullDown_X4_add rfl rfl rfl (by decide +kernel) ⟨Nat.le_of_ble_eq_true rfl, Nat.le_of_ble_eq_true rfl⟩) (zt_preVw hK hPc hDc [.int (iI (rg j.toNat))] 0 rfl rfl) rfl rfl hl.1 rfl (lv_room (Nat.le_of_ble_eq_true rfl)) dX5_pullDown_56 ⟨Nat.le_of_ble_eq_true rfl, Nat.le_of_ble_eq_true rfl⟩) hS (fun q _ h => hFc q h) hFc (fun r_10 u_r_10 T9 H1 locs hT9 hvm hw hB hz1 hk1 hS => ?_)
                obtain ⟨t_10, g_10⟩ := u_r_10
                obtain ⟨z_10, e_10, hz_10⟩ := hw
                dsimp only at hz_10
                subst e_10
                obtain ⟨hP1, hD1⟩ := hB
                rw [hT9] at hP1
                obtain ⟨hP, hD⟩ := zt_back (w1 := [(r, .inr (3, [.ref a, .int (iI t_10)])), (a, aI gi 60 g_10)]) (wr := [(d, .inr (4, [.ref r, .ref r2, .ref n1, .ref n2, .ref sg, .int (iI 0)])), (k1, .inr (3, [.ref k2, .int (iI rn)])), (k2, aI gi 24 rg)]) (wn := [(d, .inr (4, [.ref r, .ref r2, .ref n1, .ref n2, .ref sg, .int (iI 0)])), (r, .inr (3, [.ref a, .int (iI t_10)])), (a, aI gi 60 g_10), (k1, .inr (3, [.ref k2, .int (iI rn)])), (k2, aI gi 24 rg)]) hP hD [1, 2] [0, 3, 4] [0, 3, 4, 1, 2] rfl rfl (by decide) (by decide) hk1 hFc hP1 hD1 rfl (by decide)
                generalize H1 = H at hP hS ⊢
                refine lv_pop hx hb dX5_pullDown_59 rfl ?_
                refine lv_iinc (v := iI (y + 1)) (lv' := [(5, .int (iI (y + 1))), (0, .ref d), (1, .ref k1), (2, .int (iI ph)), (3, .int (iI j)), (4, .int (iI gv))]) hx hb dX5_pullDown_60 hl (k := 5) rfl (iI_add _ _) (by decide) rfl (fun ls hl => ?_)
                refine lv_goto (tgt := 40) hx hb dX5_pullDown_63 (by decide) ?_
                exact ih_40 gv (y + 1) t_10 g_10 (by omega) (by omega) (by omega) (by omega) H locs hP hD hS ls (lv_sub hl [1, 2, 3, 4, 5, 0] rfl)
          exact loop_40 ((2 - 0 : Int).toNat + 1) 2 0 ta ga (by omega) (by omega) (by omega) (by omega) H locs hP hD hS ls (lv_sub hl [2, 3, 4, 5, 1, 0] rfl)
  exact loop_14 ((rn - 0 : Int).toNat + 1) 0 0 g (by omega) (by omega) (by omega) H locs hP hD hS ls (lv_sub hl [1, 2, 3, 0] rfl)
end
section
/-! ===== how far two rows are apart: the least cost of laying one beside the other ===== -/
def tog (x y : Int) : Int := min (if x ≤ y then y - x else x - y) 4
theorem tog_b (x y : Int) : 0 ≤ tog x y ∧ tog x y ≤ 4 := by unfold tog; split <;> omega
theorem tog_s (x y : Int) : tog x y = tog y x := by unfold tog; split <;> split <;> omega
theorem tog_0 (x : Int) : tog x x = 0 := by unfold tog; split <;> omega
theorem tog_t (x y z : Int) : tog x z ≤ tog x y + tog y z := by unfold tog; split <;> split <;> split <;> omega
def Ein (x : Int) (f : List Int → Int) (n : Int) : List Int → Int
  | [] => 2 * n
  | y :: ys => min (tog x y + f ys) (2 + min (f (y :: ys)) (Ein x f n ys))
def E : List Int → List Int → Int
  | [], ys => 2 * (ys.length : Int)
  | x :: xs, ys => Ein x (E xs) ((xs.length : Int) + 1) ys
theorem E_nl (ys : List Int) : E [] ys = 2 * (ys.length : Int) := rfl
theorem E_nr (xs : List Int) : E xs [] = 2 * (xs.length : Int) := by
  cases xs with
  | nil => rfl
  | cons x xs => show 2 * ((xs.length : Int) + 1) = _; rw [List.length_cons]; omega
theorem E_cc (x y : Int) (xs ys : List Int) : E (x :: xs) (y :: ys) = min (tog x y + E xs ys) (2 + min (E xs (y :: ys)) (E (x :: xs) ys)) := rfl
theorem E_ge : ∀ (xs ys : List Int), 0 ≤ E xs ys := by
  intro xs
  induction xs with
  | nil => intro ys; rw [E_nl]; omega
  | cons x xs ih =>
    intro ys
    induction ys with
    | nil => rw [E_nr]; omega
    | cons y ys ih2 =>
      rw [E_cc]
      have h1 := ih ys
      have h2 := ih (y :: ys)
      have h3 := tog_b x y
      omega
theorem E_le : ∀ (xs ys : List Int), E xs ys ≤ 2 * ((xs.length : Int) + (ys.length : Int)) := by
  intro xs
  induction xs with
  | nil => intro ys; rw [E_nl, List.length_nil]; omega
  | cons x xs ih =>
    intro ys
    induction ys with
    | nil => rw [E_nr, List.length_nil]; omega
    | cons y ys ih2 =>
      rw [E_cc]
      have h2 := ih (y :: ys)
      rw [List.length_cons] at h2 ⊢
      rw [List.length_cons]
      omega
theorem E_sy : ∀ (xs ys : List Int), E xs ys = E ys xs := by
  intro xs
  induction xs with
  | nil => intro ys; rw [E_nl, E_nr]
  | cons x xs ih =>
    intro ys
    induction ys with
    | nil => rw [E_nl, E_nr]
    | cons y ys ih2 =>
      rw [E_cc, E_cc, ih ys, ih (y :: ys), ih2, tog_s x y]
      omega
theorem E_0 : ∀ (xs : List Int), E xs xs = 0 := by
  intro xs
  induction xs with
  | nil => rfl
  | cons x xs ih =>
    have h := E_ge (x :: xs) (x :: xs)
    rw [E_cc, ih, tog_0] at h ⊢
    have h1 := E_ge xs (x :: xs)
    have h2 := E_ge (x :: xs) xs
    omega
theorem E_dl (x : Int) (xs ys : List Int) : E (x :: xs) ys ≤ 2 + E xs ys := by
  cases ys with
  | nil => rw [E_nr, E_nr, List.length_cons]; omega
  | cons y ys => rw [E_cc]; omega
theorem E_dr (y : Int) (xs ys : List Int) : E xs (y :: ys) ≤ 2 + E xs ys := by
  cases xs with
  | nil => rw [E_nl, E_nl, List.length_cons]; omega
  | cons x xs => rw [E_cc]; omega
theorem E_t (n : Nat) : ∀ (xs ys zs : List Int), xs.length + ys.length + zs.length ≤ n → E xs zs ≤ E xs ys + E ys zs := by
  induction n with
  | zero =>
    intro xs ys zs h
    have h1 : xs = [] := List.length_eq_zero_iff.mp (by omega)
    have h2 : ys = [] := List.length_eq_zero_iff.mp (by omega)
    have h3 : zs = [] := List.length_eq_zero_iff.mp (by omega)
    subst h1 h2 h3
    exact Int.le_refl _
  | succ n ih =>
    intro xs ys zs h
    cases xs with
    | nil =>
      cases zs with
      | nil => rw [E_nl]; have := E_ge [] ys; have := E_ge ys []; rw [List.length_nil]; omega
      | cons z zs =>
        cases ys with
        | nil => rw [E_nl []]; rw [List.length_nil]; omega
        | cons y ys =>
          simp only [List.length_cons, List.length_nil] at h
          have a1 := ih [] ys zs (by simp only [List.length_nil]; omega)
          have a2 := ih [] ys (z :: zs) (by simp only [List.length_cons, List.length_nil]; omega)
          have a3 := ih [] (y :: ys) zs (by simp only [List.length_cons, List.length_nil]; omega)
          have b := tog_b y z
          rw [E_cc]
          simp only [E_nl, List.length_cons] at a1 a2 a3 ⊢
          omega
    | cons x xs =>
      cases ys with
      | nil =>
        rw [E_nr, E_nl]
        have := E_le (x :: xs) zs
        omega
      | cons y ys =>
        cases zs with
        | nil =>
          simp only [List.length_cons, List.length_nil] at h
          have a1 := ih xs ys [] (by simp only [List.length_nil]; omega)
          have a2 := ih xs (y :: ys) [] (by simp only [List.length_cons, List.length_nil]; omega)
          have a3 := ih (x :: xs) ys [] (by simp only [List.length_cons, List.length_nil]; omega)
          have b := tog_b x y
          rw [E_cc]
          simp only [E_nr, List.length_cons] at a1 a2 a3 ⊢
          omega
        | cons z zs =>
          simp only [List.length_cons] at h
          have a1 := ih xs ys zs (by omega)
          have a2 := ih xs (y :: ys) (z :: zs) (by simp only [List.length_cons]; omega)
          have a3 := ih (x :: xs) (y :: ys) zs (by simp only [List.length_cons]; omega)
          have a4 := ih (x :: xs) ys (z :: zs) (by simp only [List.length_cons]; omega)
          have a5 := ih (x :: xs) ys zs (by simp only [List.length_cons]; omega)
          have a6 := ih xs ys (z :: zs) (by simp only [List.length_cons]; omega)
          have d1 := E_dl x xs zs
          have d2 := E_dr z xs zs
          have d3 := E_dl x xs (z :: zs)
          have d4 := E_dr z (x :: xs) zs
          have b1 := tog_t x y z
          have b2 := tog_b x y
          have b3 := tog_b y z
          have e1 := E_cc x y xs ys
          have e2 := E_cc y z ys zs
          have e3 := E_cc x z xs zs
          omega
/-- the numbers of a row from a place on: the last k of n -/
def sfx (g : Nat → Int) (n : Nat) : Nat → List Int
  | 0 => []
  | k + 1 => g (n - (k + 1)) :: sfx g n k
theorem sfx_len (g : Nat → Int) (n : Nat) : ∀ k, (sfx g n k).length = k := by
  intro k
  induction k with
  | zero => rfl
  | succ k ih => show (_ :: _).length = _; rw [List.length_cons, ih]
def EF (g1 : Nat → Int) (t1 : Int) (g2 : Nat → Int) (t2 i j : Int) : Int := E (sfx g1 t1.toNat (t1 - i).toNat) (sfx g2 t2.toNat (t2 - j).toNat)
theorem EF_l {g1 g2 : Nat → Int} {t1 t2 i j : Int} (hi : t1 ≤ i) (hj : j ≤ t2) : EF g1 t1 g2 t2 i j = 2 * (t2 - j) := by
  unfold EF
  rw [show (t1 - i).toNat = 0 by omega]
  show E [] _ = _
  rw [E_nl, sfx_len]
  omega
theorem EF_r {g1 g2 : Nat → Int} {t1 t2 i j : Int} (hi : i ≤ t1) (hj : t2 ≤ j) : EF g1 t1 g2 t2 i j = 2 * (t1 - i) := by
  unfold EF
  rw [show (t2 - j).toNat = 0 by omega]
  show E _ [] = _
  rw [E_nr, sfx_len]
  omega
theorem EF_c {g1 g2 : Nat → Int} {t1 t2 i j : Int} (hi : 0 ≤ i ∧ i < t1) (hj : 0 ≤ j ∧ j < t2) : EF g1 t1 g2 t2 i j = min (tog (g1 i.toNat) (g2 j.toNat) + EF g1 t1 g2 t2 (i + 1) (j + 1)) (2 + min (EF g1 t1 g2 t2 (i + 1) j) (EF g1 t1 g2 t2 i (j + 1))) := by
  have e1 : sfx g1 t1.toNat (t1 - i).toNat = g1 i.toNat :: sfx g1 t1.toNat (t1 - (i + 1)).toNat := by
    rw [show (t1 - i).toNat = (t1 - (i + 1)).toNat + 1 by omega]
    show g1 _ :: _ = _
    rw [show t1.toNat - ((t1 - (i + 1)).toNat + 1) = i.toNat by omega]
  have e2 : sfx g2 t2.toNat (t2 - j).toNat = g2 j.toNat :: sfx g2 t2.toNat (t2 - (j + 1)).toNat := by
    rw [show (t2 - j).toNat = (t2 - (j + 1)).toNat + 1 by omega]
    show g2 _ :: _ = _
    rw [show t2.toNat - ((t2 - (j + 1)).toNat + 1) = j.toNat by omega]
  unfold EF
  rw [e1, e2, E_cc]
theorem EF_b {g1 g2 : Nat → Int} {t1 t2 i j : Int} (h1 : t1 ≤ 10) (h2 : t2 ≤ 10) (hi : 0 ≤ i) (hj : 0 ≤ j) : 0 ≤ EF g1 t1 g2 t2 i j ∧ EF g1 t1 g2 t2 i j ≤ 40 := by
  unfold EF
  have a := E_ge (sfx g1 t1.toNat (t1 - i).toNat) (sfx g2 t2.toNat (t2 - j).toNat)
  have b := E_le (sfx g1 t1.toNat (t1 - i).toNat) (sfx g2 t2.toNat (t2 - j).toNat)
  rw [sfx_len, sfx_len] at b
  omega
theorem EF_sy (g1 g2 : Nat → Int) (t1 t2 : Int) : EF g1 t1 g2 t2 0 0 = EF g2 t2 g1 t1 0 0 := E_sy _ _
theorem EF_00 (g : Nat → Int) (t : Int) : EF g t g t 0 0 = 0 := E_0 _
theorem EF_t (g1 g2 g3 : Nat → Int) (t1 t2 t3 : Int) : EF g1 t1 g3 t3 0 0 ≤ EF g1 t1 g2 t2 0 0 + EF g2 t2 g3 t3 0 0 := E_t _ _ _ _ (Nat.le_refl _)
/-- the table: right from behind, down to a place -/
def TB (b : Nat → Int) (t1 t2 : Int) (f : Int → Int → Int) (i j : Int) : Prop := ∀ x y : Int, 0 ≤ x → x ≤ t1 → 0 ≤ y → y ≤ t2 → (i < x ∨ (x = i ∧ j < y)) → b (x * 11 + y).toNat = f x y
theorem TB_0 {b : Nat → Int} {t1 t2 : Int} {f : Int → Int → Int} : TB b t1 t2 f t1 t2 := fun x y h1 h2 h3 h4 h5 => absurd h5 (by omega)
theorem TB_row {b : Nat → Int} {t1 t2 : Int} {f : Int → Int → Int} {i : Int} (h : TB b t1 t2 f i (-1)) : TB b t1 t2 f (i - 1) t2 := fun x y h1 h2 h3 h4 h5 => h x y h1 h2 h3 h4 (by omega)
theorem TB_in {b : Nat → Int} {t1 t2 : Int} {f : Int → Int → Int} {i : Int} (h : TB b t1 t2 f i t2) : TB b t1 t2 f i t2 := h
theorem TB_put {b : Nat → Int} {t1 t2 v : Int} {f : Int → Int → Int} {i j : Int} (h2 : t2 ≤ 10) (hi : 0 ≤ i) (hj : 0 ≤ j ∧ j ≤ t2) (h : TB b t1 t2 f i j) (hv : v = f i j) : TB (uP b ((i * 11) + j).toNat v) t1 t2 f i (j - 1) := by
  intro x y h3 h4 h5 h6 h7
  by_cases e : (x * 11 + y).toNat = ((i * 11) + j).toNat
  · rw [e, uP_s]
    have e1 : x = i := by omega
    have e2 : y = j := by omega
    rw [hv, e1, e2]
  · rw [uP_n e]
    exact h x y h3 h4 h5 h6 (by omega)
def sgF (f tg : Int → Int → Int) (t1 t2 i j : Int) : Int := if i < t1 ∧ j < t2 ∧ f i j = tg i j + f (i + 1) (j + 1) then 0 else if i < t1 ∧ f i j = 2 + f (i + 1) j then 1 else 2
def layL (sg : Int → Int → Int) (t1 t2 : Int) : Nat → Int → Int → Int → Int
  | 0, _, _, n => n
  | k + 1, i, j, n => if i < t1 ∨ j < t2 then layL sg t1 t2 k (i + (if sg i j = 2 then 0 else 1)) (j + (if sg i j = 1 then 0 else 1)) (n + 1) else n
theorem layL_s (sg : Int → Int → Int) (t1 t2 : Int) (k : Nat) (i j n : Int) : layL sg t1 t2 (k + 1) i j n = if i < t1 ∨ j < t2 then layL sg t1 t2 k (i + (if sg i j = 2 then 0 else 1)) (j + (if sg i j = 1 then 0 else 1)) (n + 1) else n := rfl
def rF (ra : Nat → Nat) : Nat → Option Nat := fun j => some (ra j)
theorem zt_aald {p : Program} {l : Launch} {e : Env} {R : Room} {s : State} {m : MethodId} {args : Array Value} {below : List Frame} {meth : Method} {c : Code} {H : Heap} {locs : List Loc} {cells slots : Nat} {Q : State → Prop} {cc : ByteArray} {pc : Nat} {ls : Array Slot} {rest : List Value} {D : va_G} {cl : List vw_C} {a : Nat} {tys : List (ClassId × FieldType)} {ws : va_W}
    (hx : p.tables.exec = Jvm.exec) (hb : c.code = cc) (hK : va_K D cl tys s) (hP : va_P D cl ws H) (q0 t0 : Nat) {cA : ClassId} {C : String} {n : Nat} {ra : Nat → Nat} (ha : ws[q0]? = some (a, .inl (cA, n, .inr (.inr (.inr (.inr (rF ra))))))) (ht : tys[t0]? = some (cA, .object C)) (hn : n < 2147483648) {i : Int} (h : 0 ≤ i ∧ i < (n : Int)) (hdg : decode cc pc = .ok (.aaload, 1))
    (kk : W p l e R s m args below meth c H locs cells slots Q (F0 m (pc + 1) ls (.ref (ra i.toNat) :: rest))) : W p l e R s m args below meth c H locs cells slots Q (F0 m pc ls (.int (iI i) :: .ref a :: rest)) := by
  refine va_aldq hx hb hK hP q0 t0 ha ht (iI_in h hn) hdg ?_
  rw [iI_nat (by omega)]
  exact kk
theorem zmin_of {x y z : Int} (h : z = (if y < x then y else x)) : z = min x y := by
  rw [h]
  split <;> omega
theorem zabs_of {x z : Int} (h : z = (if 0 ≤ x then x else - x)) : 0 ≤ z ∧ (z = x ∨ z = - x) := by
  rw [h]
  split <;> omega
/-- the cells of the three prints -/
abbrev rowsW (gi : ClassId) (ra ia : Nat → Nat) (tn : Nat → Int) (gs : Nat → Nat → Int) : va_W := [(ra 0, .inr (3, [.ref (ia 0), .int (iI (tn 0))])), (ia 0, aI gi 10 (gs 0)), (ra 1, .inr (3, [.ref (ia 1), .int (iI (tn 1))])), (ia 1, aI gi 10 (gs 1)), (ra 2, .inr (3, [.ref (ia 2), .int (iI (tn 2))])), (ia 2, aI gi 10 (gs 2))]
theorem zrow {D : va_G} {H : Heap} {gi : ClassId} {ra ia : Nat → Nat} {tn : Nat → Int} {gs : Nat → Nat → Int} (hP : va_P D vwCl (rowsW gi ra ia tn gs) H) {x : Nat} (hx : x < 3) : va_P D vwCl [(ra x, .inr (3, [.ref (ia x), .int (iI (tn x))])), (ia x, aI gi 10 (gs x))] H := by
  rcases (show x = 0 ∨ x = 1 ∨ x = 2 by omega) with h | h | h
  · subst h; exact hP.sub [0, 1] rfl
  · subst h; exact hP.sub [2, 3] rfl
  · subst h; exact hP.sub [4, 5] rfl
end
section
set_option maxHeartbeats 4000000 in
set_option maxRecDepth 100000 in
theorem c_X2_begin (l : Launch) (D : va_G) (gi gc gr : ClassId) (sz : Nat) (w : Nat) (rw : Nat) (bq : Nat) (sq : Nat) (mp : Int) (hmp : 0 ≤ mp ∧ mp ≤ 3) : Met l yX2_begin wsX2_begin { frames := 0, cells := 0, slots := 0, locals := 0 } (zPw D gi gc gr [(w, .inr (1, [.ref rw, .ref bq, .ref sq, .int (iI mp)]))] sz [.ref w]) (va_Qi (S := Int) (fun v u => ∃ z : Int, v = iI z ∧ (-1 ≤ z ∧ z ≤ 3) ∧ mp ≤ u ∧ u ≤ 3) (zB D (va_A [(w, .inr (1, [.ref rw, .ref bq, .ref sq, .int (iI mp)]))] sz) (fun u => [(w, .inr (1, [.ref rw, .ref bq, .ref sq, .int (iI u)]))])) (va_A [(w, .inr (1, [.ref rw, .ref bq, .ref sq, .int (iI mp)]))] sz)) 0 0 (va_A [(w, .inr (1, [.ref rw, .ref bq, .ref sq, .int (iI mp)]))] sz) := by
  refine zt_metWi (own := RX2) (cc := cX2_begin) (maxL := 1) (by decide) rfl rfl (Nat.le_of_ble_eq_true rfl) ?_
  intro p e s m args below meth c Q A C hK hP hD hS hA _ hQ ls hl
  have hx := C.1
  have hb := C.2.1
  have hml := C.2.2.1
  have hown := C.2.2.2.1
  have hts := C.2.2.2.2
  have i2 : ∀ w ∈ u_ws RX2 TX2 4, w ∈ wsX2_begin := by decide +kernel
  have f28 := hts (.fieldLink RX2 28 "Threetwo$Prints" "many" "I") (by decide +kernel)
  have hl : lv_has ls 1 [(0, .ref w)] := hl
  refine lv_aload_n hx hb dX2_begin_0 rfl (lv_at hl 0 rfl) ?_
  refine va_get (D := D) (ci := 1) (v := .int (iI mp)) (C := RX2) (T := TX2) (N := 4) hx hb hts i2 hown hK.1 hP 0 rfl rfl 3 (by decide) f28 (fun _ h9 => h9) rfl dX2_begin_1 ?_
  refine lv_iconst (v := iI (3)) hx hb dX2_begin_4 (by decide +kernel) ?_
  refine zt_icmp_lt (tgt := 10) hx hb dX2_begin_5 (by decide) (by omega) (fun c_1 => ?_) (fun c_1 => ?_)
  · refine lv_aload_n hx hb dX2_begin_10 rfl (lv_at hl 0 rfl) ?_
    refine lv_dup hx hb dX2_begin_11 rfl ?_
    refine va_get (D := D) (ci := 1) (v := .int (iI mp)) (C := RX2) (T := TX2) (N := 4) hx hb hts i2 hown hK.1 hP 0 rfl rfl 3 (by decide) f28 (fun _ h9 => h9) rfl dX2_begin_12 ?_
    refine lv_iconst (v := iI (1)) hx hb dX2_begin_15 (by decide +kernel) ?_
    refine zt_iadd hx hb dX2_begin_16 ?_
    refine va_put (D := D) (ci := 1) (v := .int (iI (mp + 1))) (ty := .int) (C := RX2) (T := TX2) (N := 4) hx hb hts i2 tyX2 tyX2_ok nmX2 hown hK.1 hP hD hS 0 rfl rfl 3 (by decide) f28 (fun _ h9 => h9) rfl (by decide +kernel) rfl rfl (Nat.le_of_ble_eq_true rfl) dX2_begin_17 (fun H locs hP hD hS => ?_)
    have hP : va_P D vwCl [(w, .inr (1, [.ref rw, .ref bq, .ref sq, .int (iI (mp + 1))]))] H := hP
    have hD : va_D A [(w, .inr (1, [.ref rw, .ref bq, .ref sq, .int (iI (mp + 1))]))] := hD
    refine lv_aload_n hx hb dX2_begin_20 rfl (lv_at hl 0 rfl) ?_
    refine va_get (D := D) (ci := 1) (v := .int (iI (mp + 1))) (C := RX2) (T := TX2) (N := 4) hx hb hts i2 hown hK.1 hP 0 rfl rfl 3 (by decide) f28 (fun _ h9 => h9) rfl dX2_begin_21 ?_
    refine lv_iconst (v := iI (1)) hx hb dX2_begin_24 (by decide +kernel) ?_
    refine zt_isub hx hb dX2_begin_25 ?_
    exact hQ (mp + 1) _ _ _ _ _ (⟨_, rfl, by omega⟩) hP hD hS dX2_begin_26
  · refine lv_iconst (v := iI (-1)) hx hb dX2_begin_8 (by decide +kernel) ?_
    exact hQ mp _ _ _ _ _ (⟨_, rfl, by omega⟩) hP hD hS dX2_begin_9
set_option maxHeartbeats 4000000 in
set_option maxRecDepth 100000 in
theorem c_X2_has (l : Launch) (D : va_G) (gi gc gr : ClassId) (w : Nat) (rw : Nat) (bq : Nat) (sq : Nat) (mp : Int) (i : Int) (hmp : 0 ≤ mp ∧ mp ≤ 3) (hi : -2147483648 ≤ i ∧ i < 2147483648) : Met l yX2_has wsX2_has { frames := 0, cells := 0, slots := 0, locals := 0 } (zPr D gi gc gr [(w, .inr (1, [.ref rw, .ref bq, .ref sq, .int (iI mp)]))] [.ref w, .int (iI i)]) (vp_Si (fun v => ∃ z : Int, v = iI z ∧ ((z = 1 ∧ 0 ≤ i ∧ i < mp) ∨ (z = 0 ∧ (i < 0 ∨ mp ≤ i))))) 0 0 (fun _ => False) := by
  refine zt_metRz (own := RX2) (cc := cX2_has) (maxL := 2) (by decide) rfl rfl (Nat.le_of_ble_eq_true rfl) ?_
  intro p e s m args below meth c Q C hK hP hQ ls hl
  have hx := C.1
  have hb := C.2.1
  have hml := C.2.2.1
  have hown := C.2.2.2.1
  have hts := C.2.2.2.2
  have i2 : ∀ w ∈ u_ws RX2 TX2 4, w ∈ wsX2_has := by decide +kernel
  have f28 := hts (.fieldLink RX2 28 "Threetwo$Prints" "many" "I") (by decide +kernel)
  have hl : lv_has ls 2 [(0, .ref w), (1, .int (iI i))] := hl
  refine lv_iload_n hx hb dX2_has_0 rfl (lv_at hl 1 rfl) ?_
  refine zt_if_lt (tgt := 16) hx hb dX2_has_1 (by decide) (by omega) (fun c_1 => ?_) (fun c_1 => ?_)
  · refine lv_iconst (v := iI (0)) hx hb dX2_has_16 (by decide +kernel) ?_
    exact hQ _ _ _ (by first | rfl | decide +kernel) (⟨_, rfl, by omega⟩) dX2_has_17
  · refine lv_iload_n hx hb dX2_has_4 rfl (lv_at hl 1 rfl) ?_
    refine lv_aload_n hx hb dX2_has_5 rfl (lv_at hl 0 rfl) ?_
    refine va_get (D := D) (ci := 1) (v := .int (iI mp)) (C := RX2) (T := TX2) (N := 4) hx hb hts i2 hown hK.1 hP 0 rfl rfl 3 (by decide) f28 (fun _ h9 => h9) rfl dX2_has_6 ?_
    refine zt_icmp_ge (tgt := 16) hx hb dX2_has_9 (by decide) (by omega) (fun c_2 => ?_) (fun c_2 => ?_)
    · refine lv_iconst (v := iI (0)) hx hb dX2_has_16 (by decide +kernel) ?_
      exact hQ _ _ _ (by first | rfl | decide +kernel) (⟨_, rfl, by omega⟩) dX2_has_17
    · refine lv_iconst (v := iI (1)) hx hb dX2_has_12 (by decide +kernel) ?_
      refine lv_goto (tgt := 17) hx hb dX2_has_13 (by decide) ?_
      exact hQ _ _ _ (by first | rfl | decide +kernel) (⟨_, rfl, by omega⟩) dX2_has_17
set_option maxHeartbeats 4000000 in
set_option maxRecDepth 100000 in
theorem c_X2_together (l : Launch) (D : va_G) (gi gc gr : ClassId) (x1 : Int) (x2 : Int) (h1 : (0 ≤ x1 ∧ x1 ≤ 99) ∧ (0 ≤ x2 ∧ x2 ≤ 99)) : Met l yX2_together wsX2_together { frames := 1, cells := 0, slots := 0, locals := 21 } (zPr D gi gc gr [] [.int (iI x1), .int (iI x2)]) (vp_Si (fun v => v = iI (tog x1 x2))) 0 0 (fun _ => False) := by
  refine zt_metRi (own := RX2) (cc := cX2_together) (maxL := 2) (by decide) rfl rfl (Nat.le_of_ble_eq_true rfl) ?_
  intro p e s m args below meth c Q C hK hP hQ ls hl
  have hx := C.1
  have hb := C.2.1
  have hml := C.2.2.1
  have hown := C.2.2.2.1
  have hts := C.2.2.2.2
  have hl : lv_has ls 2 [(0, .int (iI x1)), (1, .int (iI x2))] := hl
  refine lv_iload_n hx hb dX2_together_0 rfl (lv_at hl 0 rfl) ?_
  refine lv_iload_n hx hb dX2_together_1 rfl (lv_at hl 1 rfl) ?_
  refine zt_isub hx hb dX2_together_2 ?_
  refine zt_mabs hx hb (hml.trans hl.1.symm) hown (hts (.methodLink RX2 63 Lib.Math.abs.name) (by decide +kernel)) (hts (.static Lib.Math.abs.name) (by decide +kernel)) (hts (.initialized "java/lang/Math") (by decide +kernel)) (hts (.code Lib.Math.abs.name Lib.Math.abs.code 1 (some .int)) (by decide +kernel)) (Nat.le_of_ble_eq_true rfl) (Nat.le_of_ble_eq_true rfl) (Nat.le_of_ble_eq_true rfl) (Nat.le_of_ble_eq_true rfl) (by omega) dX2_together_3 (fun m_1 em_1 => ?_)
  have ha1 := zabs_of em_1
  refine lv_iconst (v := iI (4)) hx hb dX2_together_6 (by decide +kernel) ?_
  refine zt_mmin hx hb (hml.trans hl.1.symm) hown (hts (.methodLink RX2 51 Lib.Math.min.name) (by decide +kernel)) (hts (.static Lib.Math.min.name) (by decide +kernel)) (hts (.initialized "java/lang/Math") (by decide +kernel)) (hts (.code Lib.Math.min.name Lib.Math.min.code 2 (some .int)) (by decide +kernel)) (Nat.le_of_ble_eq_true rfl) (Nat.le_of_ble_eq_true rfl) (Nat.le_of_ble_eq_true rfl) (Nat.le_of_ble_eq_true rfl) (by omega) dX2_together_7 (fun m_2 em_2 => ?_)
  exact hQ _ _ _ (congrArg iI (by rw [zmin_of em_2]; unfold tog; split <;> omega)) dX2_together_10
set_option maxHeartbeats 4000000 in
set_option maxRecDepth 100000 in
theorem c_X2_leastFrom (l : Launch) (D : va_G) (gi gc gr : ClassId) (w : Nat) (rw : Nat) (bq : Nat) (sq : Nat) (mp : Int) (b : Nat → Int) (r1 : Nat) (a1 : Nat) (t1 : Int) (g1 : Nat → Int) (r3 : Nat) (a3 : Nat) (t2 : Int) (g2 : Nat → Int) (i : Int) (j : Int) (hd : (0 ≤ t1 ∧ t1 ≤ 10) ∧ (0 ≤ t2 ∧ t2 ≤ 10)) (hg1 : ∀ j : Nat, (j : Int) < t1 → 0 ≤ g1 j ∧ g1 j ≤ 99) (hg2 : ∀ j : Nat, (j : Int) < t2 → 0 ≤ g2 j ∧ g2 j ≤ 99) (hi : 0 ≤ i ∧ i ≤ t1) (hj : 0 ≤ j ∧ j ≤ t2) (hT : TB b t1 t2 (EF g1 t1 g2 t2) i j) : Met l yX2_leastFrom wsX2_leastFrom { frames := 2, cells := 0, slots := 0, locals := 42 } (zPr D gi gc gr [(w, .inr (1, [.ref rw, .ref bq, .ref sq, .int (iI mp)])), (bq, aI gi 121 b), (r1, .inr (3, [.ref a1, .int (iI t1)])), (a1, aI gi 10 g1), (r3, .inr (3, [.ref a3, .int (iI t2)])), (a3, aI gi 10 g2)] [.ref w, .ref r1, .ref r3, .int (iI i), .int (iI j)]) (vp_Si (fun v => v = iI (EF g1 t1 g2 t2 i j))) 0 0 (fun _ => False) := by
  refine zt_metRi (own := RX2) (cc := cX2_leastFrom) (maxL := 7) (by decide) rfl rfl (Nat.le_of_ble_eq_true rfl) ?_
  intro p e s m args below meth c Q C hK hP hQ ls hl
  have hx := C.1
  have hb := C.2.1
  have hml := C.2.2.1
  have hown := C.2.2.2.1
  have hts := C.2.2.2.2
  have i2 : ∀ w ∈ u_ws RX2 TX2 4, w ∈ wsX2_leastFrom := by decide +kernel
  have f20 := hts (.fieldLink RX2 20 "Threetwo$Prints" "behind" "[I") (by decide +kernel)
  have hl : lv_has ls 7 [(0, .ref w), (1, .ref r1), (2, .ref r3), (3, .int (iI i)), (4, .int (iI j))] := hl
  refine lv_aload_n hx hb dX2_leastFrom_0 rfl (lv_at hl 1 rfl) ?_
  refine lv_iload_n hx hb dX2_leastFrom_1 rfl (lv_at hl 3 rfl) ?_
  refine zt_callV C (As := [.int (iI i)]) (rest := []) (c_X4_has l D gi gc gr r1 a1 t1 i (by first | omega | assumption) (by first | omega | assumption)) (cwV 1 hts gX2_leastFrom_X4_has rfl rfl rfl (by decide +kernel) ⟨Nat.le_of_ble_eq_true rfl, Nat.le_of_ble_eq_true rfl⟩) (zt_preV hK (hP.sub (ws' := [(r1, .inr (3, [.ref a1, .int (iI t1)]))]) [2] rfl) [.int (iI i)] 0 rfl rfl) rfl hl.1 rfl (Nat.le_of_ble_eq_true rfl) dX2_leastFrom_2 ⟨Nat.le_of_ble_eq_true rfl, Nat.le_of_ble_eq_true rfl⟩ (fun r_1 hr_1 => ?_)
  obtain ⟨z_2, rfl, hz_2⟩ := hr_1
  refine zt_if_ne (tgt := 18) hx hb dX2_leastFrom_5 (by decide) (by omega) (fun c_3 => ?_) (fun c_3 => ?_)
  · refine lv_aload_n hx hb dX2_leastFrom_18 rfl (lv_at hl 2 rfl) ?_
    refine lv_iload hx hb dX2_leastFrom_19 (lv_at hl 4 rfl) ?_
    refine zt_callV C (As := [.int (iI j)]) (rest := []) (c_X4_has l D gi gc gr r3 a3 t2 j (by first | omega | assumption) (by first | omega | assumption)) (cwV 1 hts gX2_leastFrom_X4_has rfl rfl rfl (by decide +kernel) ⟨Nat.le_of_ble_eq_true rfl, Nat.le_of_ble_eq_true rfl⟩) (zt_preV hK (hP.sub (ws' := [(r3, .inr (3, [.ref a3, .int (iI t2)]))]) [4] rfl) [.int (iI j)] 0 rfl rfl) rfl hl.1 rfl (Nat.le_of_ble_eq_true rfl) dX2_leastFrom_21 ⟨Nat.le_of_ble_eq_true rfl, Nat.le_of_ble_eq_true rfl⟩ (fun r_4 hr_4 => ?_)
    obtain ⟨z_5, rfl, hz_5⟩ := hr_4
    refine zt_if_ne (tgt := 36) hx hb dX2_leastFrom_24 (by decide) (by omega) (fun c_6 => ?_) (fun c_6 => ?_)
    · have e11 : b (((i * 11) + j) + 11).toNat = EF g1 t1 g2 t2 (i + 1) j := by rw [show ((i * 11) + j) + 11 = (i + 1) * 11 + j by omega]; exact hT _ _ (by omega) (by omega) (by omega) (by omega) (by omega)
      have e12 : b ((((i * 11) + j) + 11) + 1).toNat = EF g1 t1 g2 t2 (i + 1) (j + 1) := by rw [show (((i * 11) + j) + 11) + 1 = (i + 1) * 11 + (j + 1) by omega]; exact hT _ _ (by omega) (by omega) (by omega) (by omega) (by omega)
      have b11 := EF_b (g1 := g1) (g2 := g2) (i := i + 1) (j := j) hd.1.2 hd.2.2 (by omega) (by omega)
      have b12 := EF_b (g1 := g1) (g2 := g2) (i := i + 1) (j := j + 1) hd.1.2 hd.2.2 (by omega) (by omega)
      have e1 : b (((i * 11) + j) + 1).toNat = EF g1 t1 g2 t2 i (j + 1) := by rw [show ((i * 11) + j) + 1 = i * 11 + (j + 1) by omega]; exact hT _ _ (by omega) (by omega) (by omega) (by omega) (by omega)
      have b1 := EF_b (g1 := g1) (g2 := g2) (i := i) (j := j + 1) hd.1.2 hd.2.2 (by omega) (by omega)
      have hgi := hg1 i.toNat (by omega)
      have hgj := hg2 j.toNat (by omega)
      have hto := tog_b (g1 i.toNat) (g2 j.toNat)
      refine lv_iload_n hx hb dX2_leastFrom_36 rfl (lv_at hl 3 rfl) ?_
      refine lv_bipush (v := iI (11)) hx hb dX2_leastFrom_37 (by decide +kernel) ?_
      refine zt_imul hx hb dX2_leastFrom_39 ?_
      refine lv_iload hx hb dX2_leastFrom_40 (lv_at hl 4 rfl) ?_
      refine zt_iadd hx hb dX2_leastFrom_42 ?_
      refine lv_istore (lv' := [(5, .int (iI ((i * 11) + j))), (0, .ref w), (1, .ref r1), (2, .ref r3), (3, .int (iI i)), (4, .int (iI j))]) hx hb dX2_leastFrom_43 hl (by decide) rfl (fun ls hl => ?_)
      refine lv_iconst (v := iI (2)) hx hb dX2_leastFrom_45 (by decide +kernel) ?_
      refine lv_aload_n hx hb dX2_leastFrom_46 rfl (lv_at hl 1 rfl) ?_
      refine va_get (D := D) (ci := 1) (v := .ref bq) (C := RX2) (T := TX2) (N := 4) hx hb hts i2 hown hK.1 hP 0 rfl rfl 1 (by decide) f20 (fun _ h9 => h9) rfl dX2_leastFrom_47 ?_
      refine lv_iload hx hb dX2_leastFrom_50 (lv_at hl 0 rfl) ?_
      refine lv_bipush (v := iI (11)) hx hb dX2_leastFrom_52 (by decide +kernel) ?_
      refine zt_iadd hx hb dX2_leastFrom_54 ?_
      refine zt_iald hx hb hK.1 hP 1 0 rfl rfl (by omega) (by omega) dX2_leastFrom_55 ?_
      refine lv_aload_n hx hb dX2_leastFrom_56 rfl (lv_at hl 1 rfl) ?_
      refine va_get (D := D) (ci := 1) (v := .ref bq) (C := RX2) (T := TX2) (N := 4) hx hb hts i2 hown hK.1 hP 0 rfl rfl 1 (by decide) f20 (fun _ h9 => h9) rfl dX2_leastFrom_57 ?_
      refine lv_iload hx hb dX2_leastFrom_60 (lv_at hl 0 rfl) ?_
      refine lv_iconst (v := iI (1)) hx hb dX2_leastFrom_62 (by decide +kernel) ?_
      refine zt_iadd hx hb dX2_leastFrom_63 ?_
      refine zt_iald hx hb hK.1 hP 1 0 rfl rfl (by omega) (by omega) dX2_leastFrom_64 ?_
      refine zt_mmin hx hb (hml.trans hl.1.symm) hown (hts (.methodLink RX2 51 Lib.Math.min.name) (by decide +kernel)) (hts (.static Lib.Math.min.name) (by decide +kernel)) (hts (.initialized "java/lang/Math") (by decide +kernel)) (hts (.code Lib.Math.min.name Lib.Math.min.code 2 (some .int)) (by decide +kernel)) (Nat.le_of_ble_eq_true rfl) (Nat.le_of_ble_eq_true rfl) (Nat.le_of_ble_eq_true rfl) (Nat.le_of_ble_eq_true rfl) (by omega) dX2_leastFrom_65 (fun m_7 em_7 => ?_)
      have hmn1 := zmin_of em_7
      refine zt_iadd hx hb dX2_leastFrom_68 ?_
      refine lv_istore (lv' := [(6, .int (iI (2 + m_7))), (5, .int (iI ((i * 11) + j))), (0, .ref w), (1, .ref r1), (2, .ref r3), (3, .int (iI i)), (4, .int (iI j))]) hx hb dX2_leastFrom_69 hl (by decide) rfl (fun ls hl => ?_)
      refine lv_aload_n hx hb dX2_leastFrom_71 rfl (lv_at hl 3 rfl) ?_
      refine lv_iload_n hx hb dX2_leastFrom_72 rfl (lv_at hl 5 rfl) ?_
      refine zt_callV C (As := [.int (iI i)]) (rest := []) (c_X4_at l D gi gc gr r1 a1 10 t1 g1 i (by first | omega | assumption) (by first | omega | assumption) (by first | omega | assumption)) (cwV 1 hts gX2_leastFrom_X4_at rfl rfl rfl (by decide +kernel) ⟨Nat.le_of_ble_eq_true rfl, Nat.le_of_ble_eq_true rfl⟩) (zt_preV hK (hP.sub (ws' := [(r1, .inr (3, [.ref a1, .int (iI t1)])), (a1, aI gi 10 g1)]) [2, 3] rfl) [.int (iI i)] 0 rfl rfl) rfl hl.1 rfl (Nat.le_of_ble_eq_true rfl) dX2_leastFrom_73 ⟨Nat.le_of_ble_eq_true rfl, Nat.le_of_ble_eq_true rfl⟩ (fun r_8 hr_8 => ?_)
      obtain rfl := hr_8
      refine lv_aload_n hx hb dX2_leastFrom_76 rfl (lv_at hl 4 rfl) ?_
      refine lv_iload hx hb dX2_leastFrom_77 (lv_at hl 6 rfl) ?_
      refine zt_callV C (As := [.int (iI j)]) (rest := [.int (iI (g1 i.toNat))]) (c_X4_at l D gi gc gr r3 a3 10 t2 g2 j (by first | omega | assumption) (by first | omega | assumption) (by first | omega | assumption)) (cwV 1 hts gX2_leastFrom_X4_at rfl rfl rfl (by decide +kernel) ⟨Nat.le_of_ble_eq_true rfl, Nat.le_of_ble_eq_true rfl⟩) (zt_preV hK (hP.sub (ws' := [(r3, .inr (3, [.ref a3, .int (iI t2)])), (a3, aI gi 10 g2)]) [4, 5] rfl) [.int (iI j)] 0 rfl rfl) rfl hl.1 rfl (Nat.le_of_ble_eq_true rfl) dX2_leastFrom_79 ⟨Nat.le_of_ble_eq_true rfl, Nat.le_of_ble_eq_true rfl⟩ (fun r_9 hr_9 => ?_)
      obtain rfl := hr_9
      refine zt_callS C (As := [.int (iI (g1 i.toNat)), .int (iI (g2 j.toNat))]) (rest := []) (c_X2_together l D gi gc gr (g1 i.toNat) (g2 j.toNat) (by first | omega | assumption)) (va_cwS 2 hts gX2_leastFrom_X2_together rfl rfl rfl (by decide +kernel) ⟨Nat.le_of_ble_eq_true rfl, Nat.le_of_ble_eq_true rfl⟩) (zt_preS hK (hP.sub (ws' := []) [] rfl) [.int (iI (g1 i.toNat)), .int (iI (g2 j.toNat))]) rfl hl.1 rfl (Nat.le_of_ble_eq_true rfl) dX2_leastFrom_82 ⟨Nat.le_of_ble_eq_true rfl, Nat.le_of_ble_eq_true rfl⟩ (fun r_10 hr_10 => ?_)
      obtain rfl := hr_10
      refine lv_aload_n hx hb dX2_leastFrom_85 rfl (lv_at hl 2 rfl) ?_
      refine va_get (D := D) (ci := 1) (v := .ref bq) (C := RX2) (T := TX2) (N := 4) hx hb hts i2 hown hK.1 hP 0 rfl rfl 1 (by decide) f20 (fun _ h9 => h9) rfl dX2_leastFrom_86 ?_
      refine lv_iload hx hb dX2_leastFrom_89 (lv_at hl 1 rfl) ?_
      refine lv_bipush (v := iI (11)) hx hb dX2_leastFrom_91 (by decide +kernel) ?_
      refine zt_iadd hx hb dX2_leastFrom_93 ?_
      refine lv_iconst (v := iI (1)) hx hb dX2_leastFrom_94 (by decide +kernel) ?_
      refine zt_iadd hx hb dX2_leastFrom_95 ?_
      refine zt_iald hx hb hK.1 hP 1 0 rfl rfl (by omega) (by omega) dX2_leastFrom_96 ?_
      refine zt_iadd hx hb dX2_leastFrom_97 ?_
      refine lv_iload hx hb dX2_leastFrom_98 (lv_at hl 0 rfl) ?_
      refine zt_mmin hx hb (hml.trans hl.1.symm) hown (hts (.methodLink RX2 51 Lib.Math.min.name) (by decide +kernel)) (hts (.static Lib.Math.min.name) (by decide +kernel)) (hts (.initialized "java/lang/Math") (by decide +kernel)) (hts (.code Lib.Math.min.name Lib.Math.min.code 2 (some .int)) (by decide +kernel)) (Nat.le_of_ble_eq_true rfl) (Nat.le_of_ble_eq_true rfl) (Nat.le_of_ble_eq_true rfl) (Nat.le_of_ble_eq_true rfl) (by omega) dX2_leastFrom_100 (fun m_11 em_11 => ?_)
      have hmn2 := zmin_of em_11
      exact hQ _ _ _ (congrArg iI (by rw [EF_c (by omega) (by omega)]; omega)) dX2_leastFrom_103
    · refine lv_iconst (v := iI (2)) hx hb dX2_leastFrom_27 (by decide +kernel) ?_
      refine lv_aload_n hx hb dX2_leastFrom_28 rfl (lv_at hl 1 rfl) ?_
      refine zt_callV C (As := []) (rest := [.int (iI 2)]) (c_X4_many l D gi gc gr r1 a1 t1) (cwV 0 hts gX2_leastFrom_X4_many rfl rfl rfl (by decide +kernel) ⟨Nat.le_of_ble_eq_true rfl, Nat.le_of_ble_eq_true rfl⟩) (zt_preV hK (hP.sub (ws' := [(r1, .inr (3, [.ref a1, .int (iI t1)]))]) [2] rfl) [] 0 rfl rfl) rfl hl.1 rfl (Nat.le_of_ble_eq_true rfl) dX2_leastFrom_29 ⟨Nat.le_of_ble_eq_true rfl, Nat.le_of_ble_eq_true rfl⟩ (fun r_12 hr_12 => ?_)
      obtain rfl := hr_12
      refine lv_iload_n hx hb dX2_leastFrom_32 rfl (lv_at hl 3 rfl) ?_
      refine zt_isub hx hb dX2_leastFrom_33 ?_
      refine zt_imul hx hb dX2_leastFrom_34 ?_
      exact hQ _ _ _ (congrArg iI (by rw [EF_r (by omega) (by omega)])) dX2_leastFrom_35
  · refine lv_iconst (v := iI (2)) hx hb dX2_leastFrom_8 (by decide +kernel) ?_
    refine lv_aload_n hx hb dX2_leastFrom_9 rfl (lv_at hl 2 rfl) ?_
    refine zt_callV C (As := []) (rest := [.int (iI 2)]) (c_X4_many l D gi gc gr r3 a3 t2) (cwV 0 hts gX2_leastFrom_X4_many rfl rfl rfl (by decide +kernel) ⟨Nat.le_of_ble_eq_true rfl, Nat.le_of_ble_eq_true rfl⟩) (zt_preV hK (hP.sub (ws' := [(r3, .inr (3, [.ref a3, .int (iI t2)]))]) [4] rfl) [] 0 rfl rfl) rfl hl.1 rfl (Nat.le_of_ble_eq_true rfl) dX2_leastFrom_10 ⟨Nat.le_of_ble_eq_true rfl, Nat.le_of_ble_eq_true rfl⟩ (fun r_13 hr_13 => ?_)
    obtain rfl := hr_13
    refine lv_iload hx hb dX2_leastFrom_13 (lv_at hl 4 rfl) ?_
    refine zt_isub hx hb dX2_leastFrom_15 ?_
    refine zt_imul hx hb dX2_leastFrom_16 ?_
    exact hQ _ _ _ (congrArg iI (by rw [EF_l (by omega) (by omega)])) dX2_leastFrom_17
set_option maxHeartbeats 8000000 in
set_option maxRecDepth 100000 in
theorem c_X2_signAt (l : Launch) (D : va_G) (gi gc gr : ClassId) (w : Nat) (rw : Nat) (bq : Nat) (sq : Nat) (mp : Int) (b : Nat → Int) (r1 : Nat) (a1 : Nat) (t1 : Int) (g1 : Nat → Int) (r3 : Nat) (a3 : Nat) (t2 : Int) (g2 : Nat → Int) (i : Int) (j : Int) (hd : (0 ≤ t1 ∧ t1 ≤ 10) ∧ (0 ≤ t2 ∧ t2 ≤ 10)) (hg1 : ∀ j : Nat, (j : Int) < t1 → 0 ≤ g1 j ∧ g1 j ≤ 99) (hg2 : ∀ j : Nat, (j : Int) < t2 → 0 ≤ g2 j ∧ g2 j ≤ 99) (hi : 0 ≤ i ∧ i ≤ t1) (hj : 0 ≤ j ∧ j ≤ t2) (hij : i < t1 ∨ j < t2) (hT : ∀ x y : Int, 0 ≤ x → x ≤ t1 → 0 ≤ y → y ≤ t2 → b (x * 11 + y).toNat = EF g1 t1 g2 t2 x y) : Met l yX2_signAt wsX2_signAt { frames := 2, cells := 0, slots := 0, locals := 42 } (zPr D gi gc gr [(w, .inr (1, [.ref rw, .ref bq, .ref sq, .int (iI mp)])), (bq, aI gi 121 b), (r1, .inr (3, [.ref a1, .int (iI t1)])), (a1, aI gi 10 g1), (r3, .inr (3, [.ref a3, .int (iI t2)])), (a3, aI gi 10 g2)] [.ref w, .ref r1, .ref r3, .int (iI i), .int (iI j)]) (vp_Si (fun v => ∃ z : Int, v = iI z ∧ (((z = 61 ∨ z = 126) ∧ sgF (EF g1 t1 g2 t2) (fun x y => tog (g1 x.toNat) (g2 y.toNat)) t1 t2 i j = 0) ∨ (z = 49 ∧ sgF (EF g1 t1 g2 t2) (fun x y => tog (g1 x.toNat) (g2 y.toNat)) t1 t2 i j = 1) ∨ (z = 50 ∧ sgF (EF g1 t1 g2 t2) (fun x y => tog (g1 x.toNat) (g2 y.toNat)) t1 t2 i j = 2)))) 0 0 (fun _ => False) := by
  refine zt_metRz (own := RX2) (cc := cX2_signAt) (maxL := 6) (by decide) rfl rfl (Nat.le_of_ble_eq_true rfl) ?_
  intro p e s m args below meth c Q C hK hP hQ ls hl
  have hx := C.1
  have hb := C.2.1
  have hml := C.2.2.1
  have hown := C.2.2.2.1
  have hts := C.2.2.2.2
  have i2 : ∀ w ∈ u_ws RX2 TX2 4, w ∈ wsX2_signAt := by decide +kernel
  have f20 := hts (.fieldLink RX2 20 "Threetwo$Prints" "behind" "[I") (by decide +kernel)
  have hl : lv_has ls 6 [(0, .ref w), (1, .ref r1), (2, .ref r3), (3, .int (iI i)), (4, .int (iI j))] := hl
  have e0 : b ((i * 11) + j).toNat = EF g1 t1 g2 t2 i j := hT _ _ (by omega) (by omega) (by omega) (by omega)
  have b0 := EF_b (g1 := g1) (g2 := g2) (i := i) (j := j) hd.1.2 hd.2.2 (by omega) (by omega)
  refine lv_iload_n hx hb dX2_signAt_0 rfl (lv_at hl 3 rfl) ?_
  refine lv_bipush (v := iI (11)) hx hb dX2_signAt_1 (by decide +kernel) ?_
  refine zt_imul hx hb dX2_signAt_3 ?_
  refine lv_iload hx hb dX2_signAt_4 (lv_at hl 4 rfl) ?_
  refine zt_iadd hx hb dX2_signAt_6 ?_
  refine lv_istore (lv' := [(5, .int (iI ((i * 11) + j))), (0, .ref w), (1, .ref r1), (2, .ref r3), (3, .int (iI i)), (4, .int (iI j))]) hx hb dX2_signAt_7 hl (by decide) rfl (fun ls hl => ?_)
  refine lv_aload_n hx hb dX2_signAt_9 rfl (lv_at hl 2 rfl) ?_
  refine lv_iload_n hx hb dX2_signAt_10 rfl (lv_at hl 4 rfl) ?_
  refine zt_callV C (As := [.int (iI i)]) (rest := []) (c_X4_has l D gi gc gr r1 a1 t1 i (by first | omega | assumption) (by first | omega | assumption)) (cwV 1 hts gX2_signAt_X4_has rfl rfl rfl (by decide +kernel) ⟨Nat.le_of_ble_eq_true rfl, Nat.le_of_ble_eq_true rfl⟩) (zt_preV hK (hP.sub (ws' := [(r1, .inr (3, [.ref a1, .int (iI t1)]))]) [2] rfl) [.int (iI i)] 0 rfl rfl) rfl hl.1 rfl (Nat.le_of_ble_eq_true rfl) dX2_signAt_11 ⟨Nat.le_of_ble_eq_true rfl, Nat.le_of_ble_eq_true rfl⟩ (fun r_1 hr_1 => ?_)
  obtain ⟨z_2, rfl, hz_2⟩ := hr_1
  refine zt_if_eq (tgt := 85) hx hb dX2_signAt_14 (by decide) (by omega) (fun c_3 => ?_) (fun c_3 => ?_)
  · refine lv_aload_n hx hb dX2_signAt_85 rfl (lv_at hl 2 rfl) ?_
    refine lv_iload_n hx hb dX2_signAt_86 rfl (lv_at hl 4 rfl) ?_
    refine zt_callV C (As := [.int (iI i)]) (rest := []) (c_X4_has l D gi gc gr r1 a1 t1 i (by first | omega | assumption) (by first | omega | assumption)) (cwV 1 hts gX2_signAt_X4_has rfl rfl rfl (by decide +kernel) ⟨Nat.le_of_ble_eq_true rfl, Nat.le_of_ble_eq_true rfl⟩) (zt_preV hK (hP.sub (ws' := [(r1, .inr (3, [.ref a1, .int (iI t1)]))]) [2] rfl) [.int (iI i)] 0 rfl rfl) rfl hl.1 rfl (Nat.le_of_ble_eq_true rfl) dX2_signAt_87 ⟨Nat.le_of_ble_eq_true rfl, Nat.le_of_ble_eq_true rfl⟩ (fun r_4 hr_4 => ?_)
    obtain ⟨z_5, rfl, hz_5⟩ := hr_4
    refine zt_if_eq (tgt := 120) hx hb dX2_signAt_90 (by decide) (by omega) (fun c_6 => ?_) (fun c_6 => ?_)
    · refine lv_bipush (v := iI (50)) hx hb dX2_signAt_120 (by decide +kernel) ?_
      exact hQ _ _ _ (by first | rfl | decide +kernel) (⟨_, rfl, by unfold sgF; dsimp only; split <;> (try split) <;> omega⟩) dX2_signAt_122
    · have e11 : b (((i * 11) + j) + 11).toNat = EF g1 t1 g2 t2 (i + 1) j := by rw [show ((i * 11) + j) + 11 = (i + 1) * 11 + j by omega]; exact hT _ _ (by omega) (by omega) (by omega) (by omega)
      have b11 := EF_b (g1 := g1) (g2 := g2) (i := i + 1) (j := j) hd.1.2 hd.2.2 (by omega) (by omega)
      refine lv_aload_n hx hb dX2_signAt_93 rfl (lv_at hl 1 rfl) ?_
      refine va_get (D := D) (ci := 1) (v := .ref bq) (C := RX2) (T := TX2) (N := 4) hx hb hts i2 hown hK.1 hP 0 rfl rfl 1 (by decide) f20 (fun _ h9 => h9) rfl dX2_signAt_94 ?_
      refine lv_iload hx hb dX2_signAt_97 (lv_at hl 0 rfl) ?_
      refine zt_iald hx hb hK.1 hP 1 0 rfl rfl (by omega) (by omega) dX2_signAt_99 ?_
      refine lv_iconst (v := iI (2)) hx hb dX2_signAt_100 (by decide +kernel) ?_
      refine lv_aload_n hx hb dX2_signAt_101 rfl (lv_at hl 1 rfl) ?_
      refine va_get (D := D) (ci := 1) (v := .ref bq) (C := RX2) (T := TX2) (N := 4) hx hb hts i2 hown hK.1 hP 0 rfl rfl 1 (by decide) f20 (fun _ h9 => h9) rfl dX2_signAt_102 ?_
      refine lv_iload hx hb dX2_signAt_105 (lv_at hl 0 rfl) ?_
      refine lv_bipush (v := iI (11)) hx hb dX2_signAt_107 (by decide +kernel) ?_
      refine zt_iadd hx hb dX2_signAt_109 ?_
      refine zt_iald hx hb hK.1 hP 1 0 rfl rfl (by omega) (by omega) dX2_signAt_110 ?_
      refine zt_iadd hx hb dX2_signAt_111 ?_
      refine zt_icmp_ne (tgt := 120) hx hb dX2_signAt_112 (by decide) (by omega) (fun c_7 => ?_) (fun c_7 => ?_)
      · refine lv_bipush (v := iI (50)) hx hb dX2_signAt_120 (by decide +kernel) ?_
        exact hQ _ _ _ (by first | rfl | decide +kernel) (⟨_, rfl, by unfold sgF; dsimp only; split <;> (try split) <;> omega⟩) dX2_signAt_122
      · refine lv_bipush (v := iI (49)) hx hb dX2_signAt_115 (by decide +kernel) ?_
        refine lv_goto (tgt := 122) hx hb dX2_signAt_117 (by decide) ?_
        exact hQ _ _ _ (by first | rfl | decide +kernel) (⟨_, rfl, by unfold sgF; dsimp only; split <;> (try split) <;> omega⟩) dX2_signAt_122
  · refine lv_aload_n hx hb dX2_signAt_17 rfl (lv_at hl 3 rfl) ?_
    refine lv_iload hx hb dX2_signAt_18 (lv_at hl 5 rfl) ?_
    refine zt_callV C (As := [.int (iI j)]) (rest := []) (c_X4_has l D gi gc gr r3 a3 t2 j (by first | omega | assumption) (by first | omega | assumption)) (cwV 1 hts gX2_signAt_X4_has rfl rfl rfl (by decide +kernel) ⟨Nat.le_of_ble_eq_true rfl, Nat.le_of_ble_eq_true rfl⟩) (zt_preV hK (hP.sub (ws' := [(r3, .inr (3, [.ref a3, .int (iI t2)]))]) [4] rfl) [.int (iI j)] 0 rfl rfl) rfl hl.1 rfl (Nat.le_of_ble_eq_true rfl) dX2_signAt_20 ⟨Nat.le_of_ble_eq_true rfl, Nat.le_of_ble_eq_true rfl⟩ (fun r_8 hr_8 => ?_)
    obtain ⟨z_9, rfl, hz_9⟩ := hr_8
    refine zt_if_eq (tgt := 85) hx hb dX2_signAt_23 (by decide) (by omega) (fun c_10 => ?_) (fun c_10 => ?_)
    · refine lv_aload_n hx hb dX2_signAt_85 rfl (lv_at hl 2 rfl) ?_
      refine lv_iload_n hx hb dX2_signAt_86 rfl (lv_at hl 4 rfl) ?_
      refine zt_callV C (As := [.int (iI i)]) (rest := []) (c_X4_has l D gi gc gr r1 a1 t1 i (by first | omega | assumption) (by first | omega | assumption)) (cwV 1 hts gX2_signAt_X4_has rfl rfl rfl (by decide +kernel) ⟨Nat.le_of_ble_eq_true rfl, Nat.le_of_ble_eq_true rfl⟩) (zt_preV hK (hP.sub (ws' := [(r1, .inr (3, [.ref a1, .int (iI t1)]))]) [2] rfl) [.int (iI i)] 0 rfl rfl) rfl hl.1 rfl (Nat.le_of_ble_eq_true rfl) dX2_signAt_87 ⟨Nat.le_of_ble_eq_true rfl, Nat.le_of_ble_eq_true rfl⟩ (fun r_11 hr_11 => ?_)
      obtain ⟨z_12, rfl, hz_12⟩ := hr_11
      refine zt_if_eq (tgt := 120) hx hb dX2_signAt_90 (by decide) (by omega) (fun c_13 => ?_) (fun c_13 => ?_)
      · refine lv_bipush (v := iI (50)) hx hb dX2_signAt_120 (by decide +kernel) ?_
        exact hQ _ _ _ (by first | rfl | decide +kernel) (⟨_, rfl, by unfold sgF; dsimp only; split <;> (try split) <;> omega⟩) dX2_signAt_122
      · have e11 : b (((i * 11) + j) + 11).toNat = EF g1 t1 g2 t2 (i + 1) j := by rw [show ((i * 11) + j) + 11 = (i + 1) * 11 + j by omega]; exact hT _ _ (by omega) (by omega) (by omega) (by omega)
        have b11 := EF_b (g1 := g1) (g2 := g2) (i := i + 1) (j := j) hd.1.2 hd.2.2 (by omega) (by omega)
        refine lv_aload_n hx hb dX2_signAt_93 rfl (lv_at hl 1 rfl) ?_
        refine va_get (D := D) (ci := 1) (v := .ref bq) (C := RX2) (T := TX2) (N := 4) hx hb hts i2 hown hK.1 hP 0 rfl rfl 1 (by decide) f20 (fun _ h9 => h9) rfl dX2_signAt_94 ?_
        refine lv_iload hx hb dX2_signAt_97 (lv_at hl 0 rfl) ?_
        refine zt_iald hx hb hK.1 hP 1 0 rfl rfl (by omega) (by omega) dX2_signAt_99 ?_
        refine lv_iconst (v := iI (2)) hx hb dX2_signAt_100 (by decide +kernel) ?_
        refine lv_aload_n hx hb dX2_signAt_101 rfl (lv_at hl 1 rfl) ?_
        refine va_get (D := D) (ci := 1) (v := .ref bq) (C := RX2) (T := TX2) (N := 4) hx hb hts i2 hown hK.1 hP 0 rfl rfl 1 (by decide) f20 (fun _ h9 => h9) rfl dX2_signAt_102 ?_
        refine lv_iload hx hb dX2_signAt_105 (lv_at hl 0 rfl) ?_
        refine lv_bipush (v := iI (11)) hx hb dX2_signAt_107 (by decide +kernel) ?_
        refine zt_iadd hx hb dX2_signAt_109 ?_
        refine zt_iald hx hb hK.1 hP 1 0 rfl rfl (by omega) (by omega) dX2_signAt_110 ?_
        refine zt_iadd hx hb dX2_signAt_111 ?_
        refine zt_icmp_ne (tgt := 120) hx hb dX2_signAt_112 (by decide) (by omega) (fun c_14 => ?_) (fun c_14 => ?_)
        · refine lv_bipush (v := iI (50)) hx hb dX2_signAt_120 (by decide +kernel) ?_
          exact hQ _ _ _ (by first | rfl | decide +kernel) (⟨_, rfl, by unfold sgF; dsimp only; split <;> (try split) <;> omega⟩) dX2_signAt_122
        · refine lv_bipush (v := iI (49)) hx hb dX2_signAt_115 (by decide +kernel) ?_
          refine lv_goto (tgt := 122) hx hb dX2_signAt_117 (by decide) ?_
          exact hQ _ _ _ (by first | rfl | decide +kernel) (⟨_, rfl, by unfold sgF; dsimp only; split <;> (try split) <;> omega⟩) dX2_signAt_122
    · have e11 : b (((i * 11) + j) + 11).toNat = EF g1 t1 g2 t2 (i + 1) j := by rw [show ((i * 11) + j) + 11 = (i + 1) * 11 + j by omega]; exact hT _ _ (by omega) (by omega) (by omega) (by omega)
      have e12 : b ((((i * 11) + j) + 11) + 1).toNat = EF g1 t1 g2 t2 (i + 1) (j + 1) := by rw [show (((i * 11) + j) + 11) + 1 = (i + 1) * 11 + (j + 1) by omega]; exact hT _ _ (by omega) (by omega) (by omega) (by omega)
      have b11 := EF_b (g1 := g1) (g2 := g2) (i := i + 1) (j := j) hd.1.2 hd.2.2 (by omega) (by omega)
      have b12 := EF_b (g1 := g1) (g2 := g2) (i := i + 1) (j := j + 1) hd.1.2 hd.2.2 (by omega) (by omega)
      have hgi := hg1 i.toNat (by omega)
      have hgj := hg2 j.toNat (by omega)
      have hto := tog_b (g1 i.toNat) (g2 j.toNat)
      refine lv_aload_n hx hb dX2_signAt_26 rfl (lv_at hl 1 rfl) ?_
      refine va_get (D := D) (ci := 1) (v := .ref bq) (C := RX2) (T := TX2) (N := 4) hx hb hts i2 hown hK.1 hP 0 rfl rfl 1 (by decide) f20 (fun _ h9 => h9) rfl dX2_signAt_27 ?_
      refine lv_iload hx hb dX2_signAt_30 (lv_at hl 0 rfl) ?_
      refine zt_iald hx hb hK.1 hP 1 0 rfl rfl (by omega) (by omega) dX2_signAt_32 ?_
      refine lv_aload_n hx hb dX2_signAt_33 rfl (lv_at hl 2 rfl) ?_
      refine lv_iload_n hx hb dX2_signAt_34 rfl (lv_at hl 4 rfl) ?_
      refine zt_callV C (As := [.int (iI i)]) (rest := [.int (iI (b ((i * 11) + j).toNat))]) (c_X4_at l D gi gc gr r1 a1 10 t1 g1 i (by first | omega | assumption) (by first | omega | assumption) (by first | omega | assumption)) (cwV 1 hts gX2_signAt_X4_at rfl rfl rfl (by decide +kernel) ⟨Nat.le_of_ble_eq_true rfl, Nat.le_of_ble_eq_true rfl⟩) (zt_preV hK (hP.sub (ws' := [(r1, .inr (3, [.ref a1, .int (iI t1)])), (a1, aI gi 10 g1)]) [2, 3] rfl) [.int (iI i)] 0 rfl rfl) rfl hl.1 rfl (Nat.le_of_ble_eq_true rfl) dX2_signAt_35 ⟨Nat.le_of_ble_eq_true rfl, Nat.le_of_ble_eq_true rfl⟩ (fun r_15 hr_15 => ?_)
      obtain rfl := hr_15
      refine lv_aload_n hx hb dX2_signAt_38 rfl (lv_at hl 3 rfl) ?_
      refine lv_iload hx hb dX2_signAt_39 (lv_at hl 5 rfl) ?_
      refine zt_callV C (As := [.int (iI j)]) (rest := [.int (iI (g1 i.toNat)), .int (iI (b ((i * 11) + j).toNat))]) (c_X4_at l D gi gc gr r3 a3 10 t2 g2 j (by first | omega | assumption) (by first | omega | assumption) (by first | omega | assumption)) (cwV 1 hts gX2_signAt_X4_at rfl rfl rfl (by decide +kernel) ⟨Nat.le_of_ble_eq_true rfl, Nat.le_of_ble_eq_true rfl⟩) (zt_preV hK (hP.sub (ws' := [(r3, .inr (3, [.ref a3, .int (iI t2)])), (a3, aI gi 10 g2)]) [4, 5] rfl) [.int (iI j)] 0 rfl rfl) rfl hl.1 rfl (Nat.le_of_ble_eq_true rfl) dX2_signAt_41 ⟨Nat.le_of_ble_eq_true rfl, Nat.le_of_ble_eq_true rfl⟩ (fun r_16 hr_16 => ?_)
      obtain rfl := hr_16
      refine zt_callS C (As := [.int (iI (g1 i.toNat)), .int (iI (g2 j.toNat))]) (rest := [.int (iI (b ((i * 11) + j).toNat))]) (c_X2_together l D gi gc gr (g1 i.toNat) (g2 j.toNat) (by first | omega | assumption)) (va_cwS 2 hts gX2_signAt_X2_together rfl rfl rfl (by decide +kernel) ⟨Nat.le_of_ble_eq_true rfl, Nat.le_of_ble_eq_true rfl⟩) (zt_preS hK (hP.sub (ws' := []) [] rfl) [.int (iI (g1 i.toNat)), .int (iI (g2 j.toNat))]) rfl hl.1 rfl (Nat.le_of_ble_eq_true rfl) dX2_signAt_44 ⟨Nat.le_of_ble_eq_true rfl, Nat.le_of_ble_eq_true rfl⟩ (fun r_17 hr_17 => ?_)
      obtain rfl := hr_17
      refine lv_aload_n hx hb dX2_signAt_47 rfl (lv_at hl 1 rfl) ?_
      refine va_get (D := D) (ci := 1) (v := .ref bq) (C := RX2) (T := TX2) (N := 4) hx hb hts i2 hown hK.1 hP 0 rfl rfl 1 (by decide) f20 (fun _ h9 => h9) rfl dX2_signAt_48 ?_
      refine lv_iload hx hb dX2_signAt_51 (lv_at hl 0 rfl) ?_
      refine lv_bipush (v := iI (11)) hx hb dX2_signAt_53 (by decide +kernel) ?_
      refine zt_iadd hx hb dX2_signAt_55 ?_
      refine lv_iconst (v := iI (1)) hx hb dX2_signAt_56 (by decide +kernel) ?_
      refine zt_iadd hx hb dX2_signAt_57 ?_
      refine zt_iald hx hb hK.1 hP 1 0 rfl rfl (by omega) (by omega) dX2_signAt_58 ?_
      refine zt_iadd hx hb dX2_signAt_59 ?_
      refine zt_icmp_ne (tgt := 85) hx hb dX2_signAt_60 (by decide) (by omega) (fun c_18 => ?_) (fun c_18 => ?_)
      · refine lv_aload_n hx hb dX2_signAt_85 rfl (lv_at hl 2 rfl) ?_
        refine lv_iload_n hx hb dX2_signAt_86 rfl (lv_at hl 4 rfl) ?_
        refine zt_callV C (As := [.int (iI i)]) (rest := []) (c_X4_has l D gi gc gr r1 a1 t1 i (by first | omega | assumption) (by first | omega | assumption)) (cwV 1 hts gX2_signAt_X4_has rfl rfl rfl (by decide +kernel) ⟨Nat.le_of_ble_eq_true rfl, Nat.le_of_ble_eq_true rfl⟩) (zt_preV hK (hP.sub (ws' := [(r1, .inr (3, [.ref a1, .int (iI t1)]))]) [2] rfl) [.int (iI i)] 0 rfl rfl) rfl hl.1 rfl (Nat.le_of_ble_eq_true rfl) dX2_signAt_87 ⟨Nat.le_of_ble_eq_true rfl, Nat.le_of_ble_eq_true rfl⟩ (fun r_19 hr_19 => ?_)
        obtain ⟨z_20, rfl, hz_20⟩ := hr_19
        refine zt_if_eq (tgt := 120) hx hb dX2_signAt_90 (by decide) (by omega) (fun c_21 => ?_) (fun c_21 => ?_)
        · refine lv_bipush (v := iI (50)) hx hb dX2_signAt_120 (by decide +kernel) ?_
          exact hQ _ _ _ (by first | rfl | decide +kernel) (⟨_, rfl, by unfold sgF; dsimp only; split <;> (try split) <;> omega⟩) dX2_signAt_122
        · have e11 : b (((i * 11) + j) + 11).toNat = EF g1 t1 g2 t2 (i + 1) j := by rw [show ((i * 11) + j) + 11 = (i + 1) * 11 + j by omega]; exact hT _ _ (by omega) (by omega) (by omega) (by omega)
          have b11 := EF_b (g1 := g1) (g2 := g2) (i := i + 1) (j := j) hd.1.2 hd.2.2 (by omega) (by omega)
          refine lv_aload_n hx hb dX2_signAt_93 rfl (lv_at hl 1 rfl) ?_
          refine va_get (D := D) (ci := 1) (v := .ref bq) (C := RX2) (T := TX2) (N := 4) hx hb hts i2 hown hK.1 hP 0 rfl rfl 1 (by decide) f20 (fun _ h9 => h9) rfl dX2_signAt_94 ?_
          refine lv_iload hx hb dX2_signAt_97 (lv_at hl 0 rfl) ?_
          refine zt_iald hx hb hK.1 hP 1 0 rfl rfl (by omega) (by omega) dX2_signAt_99 ?_
          refine lv_iconst (v := iI (2)) hx hb dX2_signAt_100 (by decide +kernel) ?_
          refine lv_aload_n hx hb dX2_signAt_101 rfl (lv_at hl 1 rfl) ?_
          refine va_get (D := D) (ci := 1) (v := .ref bq) (C := RX2) (T := TX2) (N := 4) hx hb hts i2 hown hK.1 hP 0 rfl rfl 1 (by decide) f20 (fun _ h9 => h9) rfl dX2_signAt_102 ?_
          refine lv_iload hx hb dX2_signAt_105 (lv_at hl 0 rfl) ?_
          refine lv_bipush (v := iI (11)) hx hb dX2_signAt_107 (by decide +kernel) ?_
          refine zt_iadd hx hb dX2_signAt_109 ?_
          refine zt_iald hx hb hK.1 hP 1 0 rfl rfl (by omega) (by omega) dX2_signAt_110 ?_
          refine zt_iadd hx hb dX2_signAt_111 ?_
          refine zt_icmp_ne (tgt := 120) hx hb dX2_signAt_112 (by decide) (by omega) (fun c_22 => ?_) (fun c_22 => ?_)
          · refine lv_bipush (v := iI (50)) hx hb dX2_signAt_120 (by decide +kernel) ?_
            exact hQ _ _ _ (by first | rfl | decide +kernel) (⟨_, rfl, by unfold sgF; dsimp only; split <;> (try split) <;> omega⟩) dX2_signAt_122
          · refine lv_bipush (v := iI (49)) hx hb dX2_signAt_115 (by decide +kernel) ?_
            refine lv_goto (tgt := 122) hx hb dX2_signAt_117 (by decide) ?_
            exact hQ _ _ _ (by first | rfl | decide +kernel) (⟨_, rfl, by unfold sgF; dsimp only; split <;> (try split) <;> omega⟩) dX2_signAt_122
      · refine lv_aload_n hx hb dX2_signAt_63 rfl (lv_at hl 2 rfl) ?_
        refine lv_iload_n hx hb dX2_signAt_64 rfl (lv_at hl 4 rfl) ?_
        refine zt_callV C (As := [.int (iI i)]) (rest := []) (c_X4_at l D gi gc gr r1 a1 10 t1 g1 i (by first | omega | assumption) (by first | omega | assumption) (by first | omega | assumption)) (cwV 1 hts gX2_signAt_X4_at rfl rfl rfl (by decide +kernel) ⟨Nat.le_of_ble_eq_true rfl, Nat.le_of_ble_eq_true rfl⟩) (zt_preV hK (hP.sub (ws' := [(r1, .inr (3, [.ref a1, .int (iI t1)])), (a1, aI gi 10 g1)]) [2, 3] rfl) [.int (iI i)] 0 rfl rfl) rfl hl.1 rfl (Nat.le_of_ble_eq_true rfl) dX2_signAt_65 ⟨Nat.le_of_ble_eq_true rfl, Nat.le_of_ble_eq_true rfl⟩ (fun r_23 hr_23 => ?_)
        obtain rfl := hr_23
        refine lv_aload_n hx hb dX2_signAt_68 rfl (lv_at hl 3 rfl) ?_
        refine lv_iload hx hb dX2_signAt_69 (lv_at hl 5 rfl) ?_
        refine zt_callV C (As := [.int (iI j)]) (rest := [.int (iI (g1 i.toNat))]) (c_X4_at l D gi gc gr r3 a3 10 t2 g2 j (by first | omega | assumption) (by first | omega | assumption) (by first | omega | assumption)) (cwV 1 hts gX2_signAt_X4_at rfl rfl rfl (by decide +kernel) ⟨Nat.le_of_ble_eq_true rfl, Nat.le_of_ble_eq_true rfl⟩) (zt_preV hK (hP.sub (ws' := [(r3, .inr (3, [.ref a3, .int (iI t2)])), (a3, aI gi 10 g2)]) [4, 5] rfl) [.int (iI j)] 0 rfl rfl) rfl hl.1 rfl (Nat.le_of_ble_eq_true rfl) dX2_signAt_71 ⟨Nat.le_of_ble_eq_true rfl, Nat.le_of_ble_eq_true rfl⟩ (fun r_24 hr_24 => ?_)
        obtain rfl := hr_24
        refine zt_icmp_ne (tgt := 82) hx hb dX2_signAt_74 (by decide) (by omega) (fun c_25 => ?_) (fun c_25 => ?_)
        · refine lv_bipush (v := iI (126)) hx hb dX2_signAt_82 (by decide +kernel) ?_
          exact hQ _ _ _ (by first | rfl | decide +kernel) (⟨_, rfl, by unfold sgF; dsimp only; split <;> (try split) <;> omega⟩) dX2_signAt_84
        · refine lv_bipush (v := iI (61)) hx hb dX2_signAt_77 (by decide +kernel) ?_
          refine lv_goto (tgt := 84) hx hb dX2_signAt_79 (by decide) ?_
          exact hQ _ _ _ (by first | rfl | decide +kernel) (⟨_, rfl, by unfold sgF; dsimp only; split <;> (try split) <;> omega⟩) dX2_signAt_84
end
section
set_option maxHeartbeats 16000000 in
set_option maxRecDepth 100000 in
theorem c_X2_distance (l : Launch) (D : va_G) (gi gc gr : ClassId) (sz : Nat) (w : Nat) (rw : Nat) (bq : Nat) (sq : Nat) (mp : Int) (b : Nat → Int) (ra : Nat → Nat) (ia : Nat → Nat) (tn : Nat → Int) (gs : Nat → Nat → Int) (x1 : Int) (x2 : Int) (htn : ∀ k : Nat, k < 3 → 0 ≤ tn k ∧ tn k ≤ 10) (hgs : ∀ k : Nat, k < 3 → ∀ j : Nat, (j : Int) < tn k → 0 ≤ gs k j ∧ gs k j ≤ 99) (hx1 : 0 ≤ x1 ∧ x1 < 3) (hx2 : 0 ≤ x2 ∧ x2 < 3) : Met l yX2_distance wsX2_distance { frames := 3, cells := 0, slots := 0, locals := 68 } (zPw D gi gc gr [(w, .inr (1, [.ref rw, .ref bq, .ref sq, .int (iI mp)])), (rw, .inl (gr, 3, .inr (.inr (.inr (.inr (rF ra)))))), (bq, aI gi 121 b), ((ra 0), .inr (3, [.ref (ia 0), .int (iI (tn 0))])), ((ia 0), aI gi 10 (gs 0)), ((ra 1), .inr (3, [.ref (ia 1), .int (iI (tn 1))])), ((ia 1), aI gi 10 (gs 1)), ((ra 2), .inr (3, [.ref (ia 2), .int (iI (tn 2))])), ((ia 2), aI gi 10 (gs 2))] sz [.ref w, .int (iI x1), .int (iI x2)]) (va_Qi (S := Nat → Int) (fun v u => v = iI (EF (gs x1.toNat) (tn x1.toNat) (gs x2.toNat) (tn x2.toNat) 0 0) ∧ ∀ x y : Int, 0 ≤ x → x ≤ tn x1.toNat → 0 ≤ y → y ≤ tn x2.toNat → u (x * 11 + y).toNat = EF (gs x1.toNat) (tn x1.toNat) (gs x2.toNat) (tn x2.toNat) x y) (zB D (va_A [(w, .inr (1, [.ref rw, .ref bq, .ref sq, .int (iI mp)])), (rw, .inl (gr, 3, .inr (.inr (.inr (.inr (rF ra)))))), (bq, aI gi 121 b), ((ra 0), .inr (3, [.ref (ia 0), .int (iI (tn 0))])), ((ia 0), aI gi 10 (gs 0)), ((ra 1), .inr (3, [.ref (ia 1), .int (iI (tn 1))])), ((ia 1), aI gi 10 (gs 1)), ((ra 2), .inr (3, [.ref (ia 2), .int (iI (tn 2))])), ((ia 2), aI gi 10 (gs 2))] sz) (fun u => [(w, .inr (1, [.ref rw, .ref bq, .ref sq, .int (iI mp)])), (rw, .inl (gr, 3, .inr (.inr (.inr (.inr (rF ra)))))), (bq, aI gi 121 u), (ra 0, .inr (3, [.ref (ia 0), .int (iI (tn 0))])), (ia 0, aI gi 10 (gs 0)), (ra 1, .inr (3, [.ref (ia 1), .int (iI (tn 1))])), (ia 1, aI gi 10 (gs 1)), (ra 2, .inr (3, [.ref (ia 2), .int (iI (tn 2))])), (ia 2, aI gi 10 (gs 2))])) (va_A [(w, .inr (1, [.ref rw, .ref bq, .ref sq, .int (iI mp)])), (rw, .inl (gr, 3, .inr (.inr (.inr (.inr (rF ra)))))), (bq, aI gi 121 b), ((ra 0), .inr (3, [.ref (ia 0), .int (iI (tn 0))])), ((ia 0), aI gi 10 (gs 0)), ((ra 1), .inr (3, [.ref (ia 1), .int (iI (tn 1))])), ((ia 1), aI gi 10 (gs 1)), ((ra 2), .inr (3, [.ref (ia 2), .int (iI (tn 2))])), ((ia 2), aI gi 10 (gs 2))] sz)) 0 0 (va_A [(w, .inr (1, [.ref rw, .ref bq, .ref sq, .int (iI mp)])), (rw, .inl (gr, 3, .inr (.inr (.inr (.inr (rF ra)))))), (bq, aI gi 121 b), ((ra 0), .inr (3, [.ref (ia 0), .int (iI (tn 0))])), ((ia 0), aI gi 10 (gs 0)), ((ra 1), .inr (3, [.ref (ia 1), .int (iI (tn 1))])), ((ia 1), aI gi 10 (gs 1)), ((ra 2), .inr (3, [.ref (ia 2), .int (iI (tn 2))])), ((ia 2), aI gi 10 (gs 2))] sz) := by
  refine zt_metWi (own := RX2) (cc := cX2_distance) (maxL := 7) (by decide) rfl rfl (Nat.le_of_ble_eq_true rfl) ?_
  intro p e s m args below meth c Q A C hK hP hD hS hA _ hQ ls hl
  have hx := C.1
  have hb := C.2.1
  have hml := C.2.2.1
  have hown := C.2.2.2.1
  have hts := C.2.2.2.2
  have i2 : ∀ w ∈ u_ws RX2 TX2 4, w ∈ wsX2_distance := by decide +kernel
  have f11 := hts (.fieldLink RX2 11 "Threetwo$Prints" "rows" "[LThreetwo$Row;") (by decide +kernel)
  have f20 := hts (.fieldLink RX2 20 "Threetwo$Prints" "behind" "[I") (by decide +kernel)
  have hl : lv_has ls 7 [(0, .ref w), (1, .int (iI x1)), (2, .int (iI x2))] := hl
  have h1x : x1.toNat < 3 := by omega
  have h2x : x2.toNat < 3 := by omega
  have hn1 := htn _ h1x
  have hn2 := htn _ h2x
  refine lv_aload_n hx hb dX2_distance_0 rfl (lv_at hl 0 rfl) ?_
  refine va_get (D := D) (ci := 1) (v := .ref rw) (C := RX2) (T := TX2) (N := 4) hx hb hts i2 hown hK.1 hP 0 rfl rfl 0 (by decide) f11 (fun _ h9 => h9) rfl dX2_distance_1 ?_
  refine lv_iload_n hx hb dX2_distance_4 rfl (lv_at hl 1 rfl) ?_
  refine zt_aald hx hb hK.1 hP 1 2 rfl rfl (by omega) (by omega) dX2_distance_5 ?_
  refine lv_astore_n (lv' := [(3, .ref (ra x1.toNat)), (0, .ref w), (1, .int (iI x1)), (2, .int (iI x2))]) hx hb dX2_distance_6 rfl hl (by decide) rfl (fun ls hl => ?_)
  refine lv_aload_n hx hb dX2_distance_7 rfl (lv_at hl 1 rfl) ?_
  refine va_get (D := D) (ci := 1) (v := .ref rw) (C := RX2) (T := TX2) (N := 4) hx hb hts i2 hown hK.1 hP 0 rfl rfl 0 (by decide) f11 (fun _ h9 => h9) rfl dX2_distance_8 ?_
  refine lv_iload_n hx hb dX2_distance_11 rfl (lv_at hl 3 rfl) ?_
  refine zt_aald hx hb hK.1 hP 1 2 rfl rfl (by omega) (by omega) dX2_distance_12 ?_
  refine lv_astore (lv' := [(4, .ref (ra x2.toNat)), (3, .ref (ra x1.toNat)), (0, .ref w), (1, .int (iI x1)), (2, .int (iI x2))]) hx hb dX2_distance_13 hl (by decide) rfl (fun ls hl => ?_)
  refine lv_aload_n hx hb dX2_distance_15 rfl (lv_at hl 1 rfl) ?_
  refine zt_callV C (As := []) (rest := []) (c_X4_many l D gi gc gr (ra x1.toNat) (ia x1.toNat) (tn x1.toNat)) (cwV 0 hts gX2_distance_X4_many rfl rfl rfl (by decide +kernel) ⟨Nat.le_of_ble_eq_true rfl, Nat.le_of_ble_eq_true rfl⟩) (zt_preV hK ((zrow (hP.sub (ws' := rowsW gi ra ia tn gs) [3, 4, 5, 6, 7, 8] rfl) h1x).sub [0] rfl) [] 0 rfl rfl) rfl hl.1 rfl (Nat.le_of_ble_eq_true rfl) dX2_distance_16 ⟨Nat.le_of_ble_eq_true rfl, Nat.le_of_ble_eq_true rfl⟩ (fun r_1 hr_1 => ?_)
  obtain rfl := hr_1
  refine lv_istore (lv' := [(5, .int (iI (tn x1.toNat))), (4, .ref (ra x2.toNat)), (3, .ref (ra x1.toNat)), (0, .ref w), (1, .int (iI x1)), (2, .int (iI x2))]) hx hb dX2_distance_19 hl (by decide) rfl (fun ls hl => ?_)
  have loop_21 : ∀ (n_21 : Nat) (i : Int) (b1 : Nat → Int) (hi : -1 ≤ i ∧ i ≤ tn x1.toNat) (hT : TB b1 (tn x1.toNat) (tn x2.toNat) (EF (gs x1.toNat) (tn x1.toNat) (gs x2.toNat) (tn x2.toNat)) i (tn x2.toNat)) (hm_21 : i + 1 < (n_21 : Int)) (H : Heap) (locs : List Loc) (hP : va_P D vwCl [(w, .inr (1, [.ref rw, .ref bq, .ref sq, .int (iI mp)])), (rw, .inl (gr, 3, .inr (.inr (.inr (.inr (rF ra)))))), (bq, aI gi 121 b1), ((ra 0), .inr (3, [.ref (ia 0), .int (iI (tn 0))])), ((ia 0), aI gi 10 (gs 0)), ((ra 1), .inr (3, [.ref (ia 1), .int (iI (tn 1))])), ((ia 1), aI gi 10 (gs 1)), ((ra 2), .inr (3, [.ref (ia 2), .int (iI (tn 2))])), ((ia 2), aI gi 10 (gs 2))] H) (hD : va_D A [(w, .inr (1, [.ref rw, .ref bq, .ref sq, .int (iI mp)])), (rw, .inl (gr, 3, .inr (.inr (.inr (.inr (rF ra)))))), (bq, aI gi 121 b1), ((ra 0), .inr (3, [.ref (ia 0), .int (iI (tn 0))])), ((ia 0), aI gi 10 (gs 0)), ((ra 1), .inr (3, [.ref (ia 1), .int (iI (tn 1))])), ((ia 1), aI gi 10 (gs 1)), ((ra 2), .inr (3, [.ref (ia 2), .int (iI (tn 2))])), ((ia 2), aI gi 10 (gs 2))]) (hS : va_S A s.heap H locs) (ls : Array Slot) (hl : lv_has ls 7 [(0, .ref w), (1, .int (iI x1)), (2, .int (iI x2)), (3, .ref (ra x1.toNat)), (4, .ref (ra x2.toNat)), (5, .int (iI i))]), W p l e { frames := 3, cells := 0, slots := 0, locals := 68 } s m args below meth c H locs 0 0 Q (F0 m 21 ls []) := by
    intro n_21
    induction n_21 with
    | zero => intro i b1 hi hT hm_21 H locs hP hD hS ls hl; exact absurd hm_21 (by omega)
    | succ n_21 ih_21 =>
      intro i b1 hi hT hm_21 H locs hP hD hS ls hl
      refine lv_iload hx hb dX2_distance_21 (lv_at hl 5 rfl) ?_
      refine zt_if_lt (tgt := 74) hx hb dX2_distance_23 (by decide) (by omega) (fun c_2 => ?_) (fun c_2 => ?_)
      · refine lv_aload_n hx hb dX2_distance_74 rfl (lv_at hl 0 rfl) ?_
        refine va_get (D := D) (ci := 1) (v := .ref bq) (C := RX2) (T := TX2) (N := 4) hx hb hts i2 hown hK.1 hP 0 rfl rfl 1 (by decide) f20 (fun _ h9 => h9) rfl dX2_distance_75 ?_
        refine lv_iconst (v := iI (0)) hx hb dX2_distance_78 (by decide +kernel) ?_
        refine zt_iald hx hb hK.1 hP 2 0 rfl rfl (by omega) (by omega) dX2_distance_79 ?_
        exact hQ b1 _ _ _ _ _ (⟨congrArg iI (hT 0 0 (by omega) (by omega) (by omega) (by omega) (by omega)), fun x y q1 q2 q3 q4 => hT x y q1 q2 q3 q4 (by omega)⟩) hP hD hS dX2_distance_80
      · refine lv_aload hx hb dX2_distance_26 (lv_at hl 4 rfl) ?_
        refine zt_callV C (As := []) (rest := []) (c_X4_many l D gi gc gr (ra x2.toNat) (ia x2.toNat) (tn x2.toNat)) (cwV 0 hts gX2_distance_X4_many rfl rfl rfl (by decide +kernel) ⟨Nat.le_of_ble_eq_true rfl, Nat.le_of_ble_eq_true rfl⟩) (zt_preV hK ((zrow (hP.sub (ws' := rowsW gi ra ia tn gs) [3, 4, 5, 6, 7, 8] rfl) h2x).sub [0] rfl) [] 0 rfl rfl) rfl hl.1 rfl (Nat.le_of_ble_eq_true rfl) dX2_distance_28 ⟨Nat.le_of_ble_eq_true rfl, Nat.le_of_ble_eq_true rfl⟩ (fun r_3 hr_3 => ?_)
        obtain rfl := hr_3
        refine lv_istore (lv' := [(6, .int (iI (tn x2.toNat))), (0, .ref w), (1, .int (iI x1)), (2, .int (iI x2)), (3, .ref (ra x1.toNat)), (4, .ref (ra x2.toNat)), (5, .int (iI i))]) hx hb dX2_distance_31 hl (by decide) rfl (fun ls hl => ?_)
        have loop_33 : ∀ (n_33 : Nat) (j : Int) (b2 : Nat → Int) (hj : -1 ≤ j ∧ j ≤ tn x2.toNat) (hT : TB b2 (tn x1.toNat) (tn x2.toNat) (EF (gs x1.toNat) (tn x1.toNat) (gs x2.toNat) (tn x2.toNat)) i j) (hm_33 : j + 1 < (n_33 : Int)) (H : Heap) (locs : List Loc) (hP : va_P D vwCl [(w, .inr (1, [.ref rw, .ref bq, .ref sq, .int (iI mp)])), (rw, .inl (gr, 3, .inr (.inr (.inr (.inr (rF ra)))))), (bq, aI gi 121 b2), ((ra 0), .inr (3, [.ref (ia 0), .int (iI (tn 0))])), ((ia 0), aI gi 10 (gs 0)), ((ra 1), .inr (3, [.ref (ia 1), .int (iI (tn 1))])), ((ia 1), aI gi 10 (gs 1)), ((ra 2), .inr (3, [.ref (ia 2), .int (iI (tn 2))])), ((ia 2), aI gi 10 (gs 2))] H) (hD : va_D A [(w, .inr (1, [.ref rw, .ref bq, .ref sq, .int (iI mp)])), (rw, .inl (gr, 3, .inr (.inr (.inr (.inr (rF ra)))))), (bq, aI gi 121 b2), ((ra 0), .inr (3, [.ref (ia 0), .int (iI (tn 0))])), ((ia 0), aI gi 10 (gs 0)), ((ra 1), .inr (3, [.ref (ia 1), .int (iI (tn 1))])), ((ia 1), aI gi 10 (gs 1)), ((ra 2), .inr (3, [.ref (ia 2), .int (iI (tn 2))])), ((ia 2), aI gi 10 (gs 2))]) (hS : va_S A s.heap H locs) (ls : Array Slot) (hl : lv_has ls 7 [(0, .ref w), (1, .int (iI x1)), (2, .int (iI x2)), (3, .ref (ra x1.toNat)), (4, .ref (ra x2.toNat)), (5, .int (iI i)), (6, .int (iI j))]), W p l e { frames := 3, cells := 0, slots := 0, locals := 68 } s m args below meth c H locs 0 0 Q (F0 m 33 ls []) := by
          intro n_33
          induction n_33 with
          | zero => intro j b2 hj hT hm_33 H locs hP hD hS ls hl; exact absurd hm_33 (by omega)
          | succ n_33 ih_33 =>
            intro j b2 hj hT hm_33 H locs hP hD hS ls hl
            refine lv_iload hx hb dX2_distance_33 (lv_at hl 6 rfl) ?_
            refine zt_if_lt (tgt := 68) hx hb dX2_distance_35 (by decide) (by omega) (fun c_4 => ?_) (fun c_4 => ?_)
            · refine lv_iinc (v := iI (i + (-1))) (lv' := [(5, .int (iI (i + (-1)))), (0, .ref w), (1, .int (iI x1)), (2, .int (iI x2)), (3, .ref (ra x1.toNat)), (4, .ref (ra x2.toNat)), (6, .int (iI j))]) hx hb dX2_distance_68 hl (k := 5) rfl (iI_add _ _) (by decide) rfl (fun ls hl => ?_)
              refine lv_goto (tgt := 21) hx hb dX2_distance_71 (by decide) ?_
              exact ih_21 (i + (-1)) b2 (by omega) (by have hT2 := hT; rw [show j = -1 by omega] at hT2; exact TB_row hT2) (by omega) H locs hP hD hS ls (lv_sub hl [1, 2, 3, 4, 5, 0] rfl)
            · refine lv_aload_n hx hb dX2_distance_38 rfl (lv_at hl 0 rfl) ?_
              refine va_get (D := D) (ci := 1) (v := .ref bq) (C := RX2) (T := TX2) (N := 4) hx hb hts i2 hown hK.1 hP 0 rfl rfl 1 (by decide) f20 (fun _ h9 => h9) rfl dX2_distance_39 ?_
              refine lv_iload hx hb dX2_distance_42 (lv_at hl 5 rfl) ?_
              refine lv_bipush (v := iI (11)) hx hb dX2_distance_44 (by decide +kernel) ?_
              refine zt_imul hx hb dX2_distance_46 ?_
              refine lv_iload hx hb dX2_distance_47 (lv_at hl 6 rfl) ?_
              refine zt_iadd hx hb dX2_distance_49 ?_
              refine lv_aload_n hx hb dX2_distance_50 rfl (lv_at hl 0 rfl) ?_
              refine lv_aload_n hx hb dX2_distance_51 rfl (lv_at hl 3 rfl) ?_
              refine lv_aload hx hb dX2_distance_52 (lv_at hl 4 rfl) ?_
              refine lv_iload hx hb dX2_distance_54 (lv_at hl 5 rfl) ?_
              refine lv_iload hx hb dX2_distance_56 (lv_at hl 6 rfl) ?_
              refine zt_callV C (As := [.ref (ra x1.toNat), .ref (ra x2.toNat), .int (iI i), .int (iI j)]) (rest := [.int (iI ((i * 11) + j)), .ref bq]) (c_X2_leastFrom l D gi gc gr w rw bq sq mp b2 (ra x1.toNat) (ia x1.toNat) (tn x1.toNat) (gs x1.toNat) (ra x2.toNat) (ia x2.toNat) (tn x2.toNat) (gs x2.toNat) i j (⟨hn1, hn2⟩) (hgs _ h1x) (hgs _ h2x) (by first | omega | assumption) (by first | omega | assumption) (hT)) (cwV 4 hts gX2_distance_X2_leastFrom rfl rfl rfl (by decide +kernel) ⟨Nat.le_of_ble_eq_true rfl, Nat.le_of_ble_eq_true rfl⟩) (zt_preV hK ((hP.sub (ws' := [(w, .inr (1, [.ref rw, .ref bq, .ref sq, .int (iI mp)])), (bq, aI gi 121 b2)]) [0, 2] rfl).app (((zrow (hP.sub (ws' := rowsW gi ra ia tn gs) [3, 4, 5, 6, 7, 8] rfl) h1x)).app ((zrow (hP.sub (ws' := rowsW gi ra ia tn gs) [3, 4, 5, 6, 7, 8] rfl) h2x)))) [.ref (ra x1.toNat), .ref (ra x2.toNat), .int (iI i), .int (iI j)] 0 rfl rfl) rfl hl.1 rfl (Nat.le_of_ble_eq_true rfl) dX2_distance_58 ⟨Nat.le_of_ble_eq_true rfl, Nat.le_of_ble_eq_true rfl⟩ (fun r_5 hr_5 => ?_)
              obtain rfl := hr_5
              refine zt_iast (g := b2) (x := EF (gs x1.toNat) (tn x1.toNat) (gs x2.toNat) (tn x2.toNat) i j) hx hb hK.1 hP hD hS 2 0 rfl rfl (by omega) (by omega) dX2_distance_61 (fun H locs hP hD hS => ?_)
              have hP : va_P D vwCl [(w, .inr (1, [.ref rw, .ref bq, .ref sq, .int (iI mp)])), (rw, .inl (gr, 3, .inr (.inr (.inr (.inr (rF ra)))))), (bq, aI gi 121 (uP b2 ((i * 11) + j).toNat (EF (gs x1.toNat) (tn x1.toNat) (gs x2.toNat) (tn x2.toNat) i j))), ((ra 0), .inr (3, [.ref (ia 0), .int (iI (tn 0))])), ((ia 0), aI gi 10 (gs 0)), ((ra 1), .inr (3, [.ref (ia 1), .int (iI (tn 1))])), ((ia 1), aI gi 10 (gs 1)), ((ra 2), .inr (3, [.ref (ia 2), .int (iI (tn 2))])), ((ia 2), aI gi 10 (gs 2))] H := hP
              have hD : va_D A [(w, .inr (1, [.ref rw, .ref bq, .ref sq, .int (iI mp)])), (rw, .inl (gr, 3, .inr (.inr (.inr (.inr (rF ra)))))), (bq, aI gi 121 (uP b2 ((i * 11) + j).toNat (EF (gs x1.toNat) (tn x1.toNat) (gs x2.toNat) (tn x2.toNat) i j))), ((ra 0), .inr (3, [.ref (ia 0), .int (iI (tn 0))])), ((ia 0), aI gi 10 (gs 0)), ((ra 1), .inr (3, [.ref (ia 1), .int (iI (tn 1))])), ((ia 1), aI gi 10 (gs 1)), ((ra 2), .inr (3, [.ref (ia 2), .int (iI (tn 2))])), ((ia 2), aI gi 10 (gs 2))] := hD
              refine lv_iinc (v := iI (j + (-1))) (lv' := [(6, .int (iI (j + (-1)))), (0, .ref w), (1, .int (iI x1)), (2, .int (iI x2)), (3, .ref (ra x1.toNat)), (4, .ref (ra x2.toNat)), (5, .int (iI i))]) hx hb dX2_distance_62 hl (k := 6) rfl (iI_add _ _) (by decide) rfl (fun ls hl => ?_)
              refine lv_goto (tgt := 33) hx hb dX2_distance_65 (by decide) ?_
              exact ih_33 (j + (-1)) (uP b2 ((i * 11) + j).toNat (EF (gs x1.toNat) (tn x1.toNat) (gs x2.toNat) (tn x2.toNat) i j)) (by omega) (by have hT3 := TB_put hn2.2 (by omega) (by omega) hT rfl; exact hT3) (by omega) H locs hP hD hS ls (lv_sub hl [1, 2, 3, 4, 5, 6, 0] rfl)
        exact loop_33 (((tn x2.toNat) + 1 : Int).toNat + 1) (tn x2.toNat) b1 (by omega) (hT) (by omega) H locs hP hD hS ls (lv_sub hl [1, 2, 3, 4, 5, 6, 0] rfl)
  exact loop_21 (((tn x1.toNat) + 1 : Int).toNat + 1) (tn x1.toNat) b (by omega) (TB_0) (by omega) s.heap [] hP hD hS ls (lv_sub hl [3, 4, 5, 2, 1, 0] rfl)
end
section
theorem layL_go {sg : Int → Int → Int} {t1 t2 i j n i2 j2 sv : Int} {k : Nat} (hsv : sv = sg i j) (hc : i < t1 ∨ j < t2) (hi : i2 = i + (if sv = 2 then 0 else 1)) (hj : j2 = j + (if sv = 1 then 0 else 1)) : layL sg t1 t2 (k + 1) i j n = layL sg t1 t2 k i2 j2 (n + 1) := by
  rw [layL_s, if_pos hc, hi, hj, hsv]
theorem layL_end {sg : Int → Int → Int} {t1 t2 i j n : Int} {k : Nat} (h : k = 0 ∨ (t1 ≤ i ∧ t2 ≤ j)) : layL sg t1 t2 k i j n = n := by
  cases k with
  | zero => rfl
  | succ k => rw [layL_s, if_neg (by omega)]
theorem layL_b {sg : Int → Int → Int} {t1 t2 : Int} : ∀ (k : Nat) (i j n : Int), n ≤ layL sg t1 t2 k i j n ∧ layL sg t1 t2 k i j n ≤ n + (k : Int) := by
  intro k
  induction k with
  | zero => intro i j n; show n ≤ n ∧ n ≤ n + ((0 : Nat) : Int); omega
  | succ k ih =>
    intro i j n
    rw [layL_s]
    have h := ih (i + (if sg i j = 2 then 0 else 1)) (j + (if sg i j = 1 then 0 else 1)) (n + 1)
    split <;> omega
theorem EF_1 {g1 g2 : Nat → Int} {t1 t2 i : Int} (hi : 0 ≤ i ∧ i < t1) : EF g1 t1 g2 t2 i t2 = 2 + EF g1 t1 g2 t2 (i + 1) t2 := by
  rw [EF_r (by omega) (by omega), EF_r (by omega) (by omega)]
  omega
theorem sgF_end {g1 g2 : Nat → Int} {tg : Int → Int → Int} {t1 t2 i : Int} (hi : 0 ≤ i ∧ i < t1) : sgF (EF g1 t1 g2 t2) tg t1 t2 i t2 = 1 := by
  unfold sgF
  rw [if_neg (by omega), if_pos ⟨hi.2, EF_1 hi⟩]
theorem sgF_end2 {f tg : Int → Int → Int} {t1 t2 j : Int} : sgF f tg t1 t2 t1 j = 2 := by
  unfold sgF
  rw [if_neg (by omega), if_neg (by omega)]

set_option maxHeartbeats 16000000 in
set_option maxRecDepth 100000 in
theorem c_X2_layOut (l : Launch) (D : va_G) (gi gc gr : ClassId) (sz : Nat) (w : Nat) (rw : Nat) (bq : Nat) (sq : Nat) (mp : Int) (b : Nat → Int) (ra : Nat → Nat) (ia : Nat → Nat) (tn : Nat → Int) (gs : Nat → Nat → Int) (sf : Nat → Int32) (x1 : Int) (x2 : Int) (htn : ∀ k : Nat, k < 3 → 0 ≤ tn k ∧ tn k ≤ 10) (hgs : ∀ k : Nat, k < 3 → ∀ j : Nat, (j : Int) < tn k → 0 ≤ gs k j ∧ gs k j ≤ 99) (hx1 : 0 ≤ x1 ∧ x1 < 3) (hx2 : 0 ≤ x2 ∧ x2 < 3) : Met l yX2_layOut wsX2_layOut { frames := 4, cells := 0, slots := 0, locals := 94 } (zPw D gi gc gr [(w, .inr (1, [.ref rw, .ref bq, .ref sq, .int (iI mp)])), (rw, .inl (gr, 3, .inr (.inr (.inr (.inr (rF ra)))))), (bq, aI gi 121 b), ((ra 0), .inr (3, [.ref (ia 0), .int (iI (tn 0))])), ((ia 0), aI gi 10 (gs 0)), ((ra 1), .inr (3, [.ref (ia 1), .int (iI (tn 1))])), ((ia 1), aI gi 10 (gs 1)), ((ra 2), .inr (3, [.ref (ia 2), .int (iI (tn 2))])), ((ia 2), aI gi 10 (gs 2)), (sq, .inl (gc, 20, .inl sf))] sz [.ref w, .int (iI x1), .int (iI x2)]) (va_Qi (S := (Nat → Int) × (Nat → Int32)) (fun v u => v = iI (layL (sgF (EF (gs x1.toNat) (tn x1.toNat) (gs x2.toNat) (tn x2.toNat)) (fun x y => tog (gs x1.toNat x.toNat) (gs x2.toNat y.toNat)) (tn x1.toNat) (tn x2.toNat)) (tn x1.toNat) (tn x2.toNat) 20 0 0 0)) (zB D (va_A [(w, .inr (1, [.ref rw, .ref bq, .ref sq, .int (iI mp)])), (rw, .inl (gr, 3, .inr (.inr (.inr (.inr (rF ra)))))), (bq, aI gi 121 b), ((ra 0), .inr (3, [.ref (ia 0), .int (iI (tn 0))])), ((ia 0), aI gi 10 (gs 0)), ((ra 1), .inr (3, [.ref (ia 1), .int (iI (tn 1))])), ((ia 1), aI gi 10 (gs 1)), ((ra 2), .inr (3, [.ref (ia 2), .int (iI (tn 2))])), ((ia 2), aI gi 10 (gs 2)), (sq, .inl (gc, 20, .inl sf))] sz) (fun u => [(w, .inr (1, [.ref rw, .ref bq, .ref sq, .int (iI mp)])), (rw, .inl (gr, 3, .inr (.inr (.inr (.inr (rF ra)))))), (bq, aI gi 121 u.1), (ra 0, .inr (3, [.ref (ia 0), .int (iI (tn 0))])), (ia 0, aI gi 10 (gs 0)), (ra 1, .inr (3, [.ref (ia 1), .int (iI (tn 1))])), (ia 1, aI gi 10 (gs 1)), (ra 2, .inr (3, [.ref (ia 2), .int (iI (tn 2))])), (ia 2, aI gi 10 (gs 2)), (sq, .inl (gc, 20, .inl u.2))])) (va_A [(w, .inr (1, [.ref rw, .ref bq, .ref sq, .int (iI mp)])), (rw, .inl (gr, 3, .inr (.inr (.inr (.inr (rF ra)))))), (bq, aI gi 121 b), ((ra 0), .inr (3, [.ref (ia 0), .int (iI (tn 0))])), ((ia 0), aI gi 10 (gs 0)), ((ra 1), .inr (3, [.ref (ia 1), .int (iI (tn 1))])), ((ia 1), aI gi 10 (gs 1)), ((ra 2), .inr (3, [.ref (ia 2), .int (iI (tn 2))])), ((ia 2), aI gi 10 (gs 2)), (sq, .inl (gc, 20, .inl sf))] sz)) 0 0 (va_A [(w, .inr (1, [.ref rw, .ref bq, .ref sq, .int (iI mp)])), (rw, .inl (gr, 3, .inr (.inr (.inr (.inr (rF ra)))))), (bq, aI gi 121 b), ((ra 0), .inr (3, [.ref (ia 0), .int (iI (tn 0))])), ((ia 0), aI gi 10 (gs 0)), ((ra 1), .inr (3, [.ref (ia 1), .int (iI (tn 1))])), ((ia 1), aI gi 10 (gs 1)), ((ra 2), .inr (3, [.ref (ia 2), .int (iI (tn 2))])), ((ia 2), aI gi 10 (gs 2)), (sq, .inl (gc, 20, .inl sf))] sz) := by
  refine zt_metWi (own := RX2) (cc := cX2_layOut) (maxL := 9) (by decide) rfl rfl (Nat.le_of_ble_eq_true rfl) ?_
  intro p e s m args below meth c Q A C hK hP hD hS hA _ hQ ls hl
  have hx := C.1
  have hb := C.2.1
  have hml := C.2.2.1
  have hown := C.2.2.2.1
  have hts := C.2.2.2.2
  have i2 : ∀ w ∈ u_ws RX2 TX2 4, w ∈ wsX2_layOut := by decide +kernel
  have f11 := hts (.fieldLink RX2 11 "Threetwo$Prints" "rows" "[LThreetwo$Row;") (by decide +kernel)
  have f24 := hts (.fieldLink RX2 24 "Threetwo$Prints" "signs" "[C") (by decide +kernel)
  have hl : lv_has ls 9 [(0, .ref w), (1, .int (iI x1)), (2, .int (iI x2))] := hl
  have h1x : x1.toNat < 3 := by omega
  have h2x : x2.toNat < 3 := by omega
  have hn1 := htn _ h1x
  have hn2 := htn _ h2x
  refine lv_aload_n hx hb dX2_layOut_0 rfl (lv_at hl 0 rfl) ?_
  refine lv_iload_n hx hb dX2_layOut_1 rfl (lv_at hl 1 rfl) ?_
  refine lv_iload_n hx hb dX2_layOut_2 rfl (lv_at hl 2 rfl) ?_
  have hPc := hP.sub (ws' := [(w, .inr (1, [.ref rw, .ref bq, .ref sq, .int (iI mp)])), (rw, .inl (gr, 3, .inr (.inr (.inr (.inr (rF ra)))))), (bq, aI gi 121 b), ((ra 0), .inr (3, [.ref (ia 0), .int (iI (tn 0))])), ((ia 0), aI gi 10 (gs 0)), ((ra 1), .inr (3, [.ref (ia 1), .int (iI (tn 1))])), ((ia 1), aI gi 10 (gs 1)), ((ra 2), .inr (3, [.ref (ia 2), .int (iI (tn 2))])), ((ia 2), aI gi 10 (gs 2))]) [0, 1, 2, 3, 4, 5, 6, 7, 8] rfl
  have hDc := hD.sub (ws' := [(w, .inr (1, [.ref rw, .ref bq, .ref sq, .int (iI mp)])), (rw, .inl (gr, 3, .inr (.inr (.inr (.inr (rF ra)))))), (bq, aI gi 121 b), ((ra 0), .inr (3, [.ref (ia 0), .int (iI (tn 0))])), ((ia 0), aI gi 10 (gs 0)), ((ra 1), .inr (3, [.ref (ia 1), .int (iI (tn 1))])), ((ia 1), aI gi 10 (gs 1)), ((ra 2), .inr (3, [.ref (ia 2), .int (iI (tn 2))])), ((ia 2), aI gi 10 (gs 2))]) [0, 1, 2, 3, 4, 5, 6, 7, 8] (by decide) rfl
  have hFc := va_free (wc := [(w, .inr (1, [.ref rw, .ref bq, .ref sq, .int (iI mp)])), (rw, .inl (gr, 3, .inr (.inr (.inr (.inr (rF ra)))))), (bq, aI gi 121 b), ((ra 0), .inr (3, [.ref (ia 0), .int (iI (tn 0))])), ((ia 0), aI gi 10 (gs 0)), ((ra 1), .inr (3, [.ref (ia 1), .int (iI (tn 1))])), ((ia 1), aI gi 10 (gs 1)), ((ra 2), .inr (3, [.ref (ia 2), .int (iI (tn 2))])), ((ia 2), aI gi 10 (gs 2))]) hD hS hA [0, 1, 2, 3, 4, 5, 6, 7, 8] rfl
  refine va_calli (va_runV C (As := [.int (iI x1), .int (iI x2)]) (rest := []) (c_X2_distance l D gi gc gr s.heap.size w rw bq sq mp b ra ia tn gs x1 x2 (by first | omega | assumption) (by first | omega | assumption) (by first | omega | assumption) (by first | omega | assumption)) (cwV 2 hts gX2_layOut_X2_distance rfl rfl rfl (by decide +kernel) ⟨Nat.le_of_ble_eq_true rfl, Nat.le_of_ble_eq_true rfl⟩) (zt_preVw hK hPc hDc [.int (iI x1), .int (iI x2)] 0 rfl rfl) rfl rfl hl.1 rfl (lv_room (Nat.le_of_ble_eq_true rfl)) dX2_layOut_3 ⟨Nat.le_of_ble_eq_true rfl, Nat.le_of_ble_eq_true rfl⟩) hS (fun q _ h => hFc q h) hFc (fun r_1 u_r_1 T9 H1 locs hT9 hvm hw hB hz1 hk1 hS => ?_)
  obtain ⟨hv_1, hT⟩ := hw
  try dsimp only at hT
  subst hv_1
  obtain ⟨hP1, hD1⟩ := hB
  rw [hT9] at hP1
  obtain ⟨hP, hD⟩ := zt_back (w1 := [(w, .inr (1, [.ref rw, .ref bq, .ref sq, .int (iI mp)])), (rw, .inl (gr, 3, .inr (.inr (.inr (.inr (rF ra)))))), (bq, aI gi 121 u_r_1), ((ra 0), .inr (3, [.ref (ia 0), .int (iI (tn 0))])), ((ia 0), aI gi 10 (gs 0)), ((ra 1), .inr (3, [.ref (ia 1), .int (iI (tn 1))])), ((ia 1), aI gi 10 (gs 1)), ((ra 2), .inr (3, [.ref (ia 2), .int (iI (tn 2))])), ((ia 2), aI gi 10 (gs 2))]) (wr := [(sq, .inl (gc, 20, .inl sf))]) (wn := [(w, .inr (1, [.ref rw, .ref bq, .ref sq, .int (iI mp)])), (rw, .inl (gr, 3, .inr (.inr (.inr (.inr (rF ra)))))), (bq, aI gi 121 u_r_1), ((ra 0), .inr (3, [.ref (ia 0), .int (iI (tn 0))])), ((ia 0), aI gi 10 (gs 0)), ((ra 1), .inr (3, [.ref (ia 1), .int (iI (tn 1))])), ((ia 1), aI gi 10 (gs 1)), ((ra 2), .inr (3, [.ref (ia 2), .int (iI (tn 2))])), ((ia 2), aI gi 10 (gs 2)), (sq, .inl (gc, 20, .inl sf))]) hP hD [0, 1, 2, 3, 4, 5, 6, 7, 8] [9] [1, 2, 3, 4, 5, 6, 7, 8, 9, 0] rfl rfl (by decide) (by decide) hk1 hFc hP1 hD1 rfl (by decide)
  generalize H1 = H at hP hS ⊢
  refine lv_pop hx hb dX2_layOut_6 rfl ?_
  refine lv_aload_n hx hb dX2_layOut_7 rfl (lv_at hl 0 rfl) ?_
  refine va_get (D := D) (ci := 1) (v := .ref rw) (C := RX2) (T := TX2) (N := 4) hx hb hts i2 hown hK.1 hP 0 rfl rfl 0 (by decide) f11 (fun _ h9 => h9) rfl dX2_layOut_8 ?_
  refine lv_iload_n hx hb dX2_layOut_11 rfl (lv_at hl 1 rfl) ?_
  refine zt_aald hx hb hK.1 hP 1 2 rfl rfl (by omega) (by omega) dX2_layOut_12 ?_
  refine lv_astore_n (lv' := [(3, .ref (ra x1.toNat)), (0, .ref w), (1, .int (iI x1)), (2, .int (iI x2))]) hx hb dX2_layOut_13 rfl hl (by decide) rfl (fun ls hl => ?_)
  refine lv_aload_n hx hb dX2_layOut_14 rfl (lv_at hl 1 rfl) ?_
  refine va_get (D := D) (ci := 1) (v := .ref rw) (C := RX2) (T := TX2) (N := 4) hx hb hts i2 hown hK.1 hP 0 rfl rfl 0 (by decide) f11 (fun _ h9 => h9) rfl dX2_layOut_15 ?_
  refine lv_iload_n hx hb dX2_layOut_18 rfl (lv_at hl 3 rfl) ?_
  refine zt_aald hx hb hK.1 hP 1 2 rfl rfl (by omega) (by omega) dX2_layOut_19 ?_
  refine lv_astore (lv' := [(4, .ref (ra x2.toNat)), (3, .ref (ra x1.toNat)), (0, .ref w), (1, .int (iI x1)), (2, .int (iI x2))]) hx hb dX2_layOut_20 hl (by decide) rfl (fun ls hl => ?_)
  refine lv_iconst (v := iI (0)) hx hb dX2_layOut_22 (by decide +kernel) ?_
  refine lv_istore (lv' := [(5, .int (iI 0)), (4, .ref (ra x2.toNat)), (3, .ref (ra x1.toNat)), (0, .ref w), (1, .int (iI x1)), (2, .int (iI x2))]) hx hb dX2_layOut_23 hl (by decide) rfl (fun ls hl => ?_)
  refine lv_iconst (v := iI (0)) hx hb dX2_layOut_25 (by decide +kernel) ?_
  refine lv_istore (lv' := [(6, .int (iI 0)), (5, .int (iI 0)), (4, .ref (ra x2.toNat)), (3, .ref (ra x1.toNat)), (0, .ref w), (1, .int (iI x1)), (2, .int (iI x2))]) hx hb dX2_layOut_26 hl (by decide) rfl (fun ls hl => ?_)
  refine lv_iconst (v := iI (0)) hx hb dX2_layOut_28 (by decide +kernel) ?_
  refine lv_istore (lv' := [(7, .int (iI 0)), (6, .int (iI 0)), (5, .int (iI 0)), (4, .ref (ra x2.toNat)), (3, .ref (ra x1.toNat)), (0, .ref w), (1, .int (iI x1)), (2, .int (iI x2))]) hx hb dX2_layOut_29 hl (by decide) rfl (fun ls hl => ?_)
  have loop_31 : ∀ (n_31 : Nat) (i : Int) (j : Int) (n : Int) (s1 : Nat → Int32) (hi : 0 ≤ i ∧ i ≤ tn x1.toNat) (hj : 0 ≤ j ∧ j ≤ tn x2.toNat) (hn : 0 ≤ n ∧ n ≤ 20) (hf : layL (sgF (EF (gs x1.toNat) (tn x1.toNat) (gs x2.toNat) (tn x2.toNat)) (fun x y => tog (gs x1.toNat x.toNat) (gs x2.toNat y.toNat)) (tn x1.toNat) (tn x2.toNat)) (tn x1.toNat) (tn x2.toNat) 20 0 0 0 = layL (sgF (EF (gs x1.toNat) (tn x1.toNat) (gs x2.toNat) (tn x2.toNat)) (fun x y => tog (gs x1.toNat x.toNat) (gs x2.toNat y.toNat)) (tn x1.toNat) (tn x2.toNat)) (tn x1.toNat) (tn x2.toNat) (20 - n).toNat i j n) (hm_31 : 20 - n < (n_31 : Int)) (H : Heap) (locs : List Loc) (hP : va_P D vwCl [(w, .inr (1, [.ref rw, .ref bq, .ref sq, .int (iI mp)])), (rw, .inl (gr, 3, .inr (.inr (.inr (.inr (rF ra)))))), (bq, aI gi 121 u_r_1), ((ra 0), .inr (3, [.ref (ia 0), .int (iI (tn 0))])), ((ia 0), aI gi 10 (gs 0)), ((ra 1), .inr (3, [.ref (ia 1), .int (iI (tn 1))])), ((ia 1), aI gi 10 (gs 1)), ((ra 2), .inr (3, [.ref (ia 2), .int (iI (tn 2))])), ((ia 2), aI gi 10 (gs 2)), (sq, .inl (gc, 20, .inl s1))] H) (hD : va_D A [(w, .inr (1, [.ref rw, .ref bq, .ref sq, .int (iI mp)])), (rw, .inl (gr, 3, .inr (.inr (.inr (.inr (rF ra)))))), (bq, aI gi 121 u_r_1), ((ra 0), .inr (3, [.ref (ia 0), .int (iI (tn 0))])), ((ia 0), aI gi 10 (gs 0)), ((ra 1), .inr (3, [.ref (ia 1), .int (iI (tn 1))])), ((ia 1), aI gi 10 (gs 1)), ((ra 2), .inr (3, [.ref (ia 2), .int (iI (tn 2))])), ((ia 2), aI gi 10 (gs 2)), (sq, .inl (gc, 20, .inl s1))]) (hS : va_S A s.heap H locs) (ls : Array Slot) (hl : lv_has ls 9 [(0, .ref w), (1, .int (iI x1)), (2, .int (iI x2)), (3, .ref (ra x1.toNat)), (4, .ref (ra x2.toNat)), (5, .int (iI i)), (6, .int (iI j)), (7, .int (iI n))]), W p l e { frames := 4, cells := 0, slots := 0, locals := 94 } s m args below meth c H locs 0 0 Q (F0 m 31 ls []) := by
    intro n_31
    induction n_31 with
    | zero => intro i j n s1 hi hj hn hf hm_31 H locs hP hD hS ls hl; exact absurd hm_31 (by omega)
    | succ n_31 ih_31 =>
      intro i j n s1 hi hj hn hf hm_31 H locs hP hD hS ls hl
      refine lv_iload hx hb dX2_layOut_31 (lv_at hl 7 rfl) ?_
      refine lv_aload_n hx hb dX2_layOut_33 rfl (lv_at hl 0 rfl) ?_
      refine va_get (D := D) (ci := 1) (v := .ref sq) (C := RX2) (T := TX2) (N := 4) hx hb hts i2 hown hK.1 hP 0 rfl rfl 2 (by decide) f24 (fun _ h9 => h9) rfl dX2_layOut_34 ?_
      refine va_alen (v := iI 20) hx hb hK.1 hP 9 1 rfl rfl (by first | rfl | exact (iI_ofN _)) dX2_layOut_37 ?_
      refine zt_icmp_ge (tgt := 122) hx hb dX2_layOut_38 (by decide) (by omega) (fun c_2 => ?_) (fun c_2 => ?_)
      · refine lv_iload hx hb dX2_layOut_122 (lv_at hl 7 rfl) ?_
        exact hQ (u_r_1, s1) _ _ _ _ _ (congrArg iI (by rw [hf, layL_end (by omega)])) hP hD hS dX2_layOut_124
      · refine lv_aload_n hx hb dX2_layOut_41 rfl (lv_at hl 3 rfl) ?_
        refine lv_iload hx hb dX2_layOut_42 (lv_at hl 5 rfl) ?_
        refine zt_callV C (As := [.int (iI i)]) (rest := []) (c_X4_has l D gi gc gr (ra x1.toNat) (ia x1.toNat) (tn x1.toNat) i (by first | omega | assumption) (by first | omega | assumption)) (cwV 1 hts gX2_layOut_X4_has rfl rfl rfl (by decide +kernel) ⟨Nat.le_of_ble_eq_true rfl, Nat.le_of_ble_eq_true rfl⟩) (zt_preV hK ((zrow (hP.sub (ws' := rowsW gi ra ia tn gs) [3, 4, 5, 6, 7, 8] rfl) h1x).sub [0] rfl) [.int (iI i)] 0 rfl rfl) rfl hl.1 rfl (Nat.le_of_ble_eq_true rfl) dX2_layOut_44 ⟨Nat.le_of_ble_eq_true rfl, Nat.le_of_ble_eq_true rfl⟩ (fun r_3 hr_3 => ?_)
        obtain ⟨z_4, rfl, hz_4⟩ := hr_3
        refine zt_if_ne (tgt := 60) hx hb dX2_layOut_47 (by decide) (by omega) (fun c_5 => ?_) (fun c_5 => ?_)
        · refine lv_aload_n hx hb dX2_layOut_60 rfl (lv_at hl 0 rfl) ?_
          refine lv_aload_n hx hb dX2_layOut_61 rfl (lv_at hl 3 rfl) ?_
          refine lv_aload hx hb dX2_layOut_62 (lv_at hl 4 rfl) ?_
          refine lv_iload hx hb dX2_layOut_64 (lv_at hl 5 rfl) ?_
          refine lv_iload hx hb dX2_layOut_66 (lv_at hl 6 rfl) ?_
          refine zt_callV C (As := [.ref (ra x1.toNat), .ref (ra x2.toNat), .int (iI i), .int (iI j)]) (rest := []) (c_X2_signAt l D gi gc gr w rw bq sq mp u_r_1 (ra x1.toNat) (ia x1.toNat) (tn x1.toNat) (gs x1.toNat) (ra x2.toNat) (ia x2.toNat) (tn x2.toNat) (gs x2.toNat) i j (⟨hn1, hn2⟩) (hgs _ h1x) (hgs _ h2x) (by first | omega | assumption) (by first | omega | assumption) (by first | omega | assumption) (hT)) (cwV 4 hts gX2_layOut_X2_signAt rfl rfl rfl (by decide +kernel) ⟨Nat.le_of_ble_eq_true rfl, Nat.le_of_ble_eq_true rfl⟩) (zt_preV hK ((hP.sub (ws' := [(w, .inr (1, [.ref rw, .ref bq, .ref sq, .int (iI mp)])), (bq, aI gi 121 u_r_1)]) [0, 2] rfl).app (((zrow (hP.sub (ws' := rowsW gi ra ia tn gs) [3, 4, 5, 6, 7, 8] rfl) h1x)).app ((zrow (hP.sub (ws' := rowsW gi ra ia tn gs) [3, 4, 5, 6, 7, 8] rfl) h2x)))) [.ref (ra x1.toNat), .ref (ra x2.toNat), .int (iI i), .int (iI j)] 0 rfl rfl) rfl hl.1 rfl (Nat.le_of_ble_eq_true rfl) dX2_layOut_68 ⟨Nat.le_of_ble_eq_true rfl, Nat.le_of_ble_eq_true rfl⟩ (fun r_6 hr_6 => ?_)
          obtain ⟨z_7, rfl, hz_7⟩ := hr_6
          obtain ⟨sv, hsv⟩ : ∃ q, q = sgF (EF (gs x1.toNat) (tn x1.toNat) (gs x2.toNat) (tn x2.toNat)) (fun x y => tog (gs x1.toNat x.toNat) (gs x2.toNat y.toNat)) (tn x1.toNat) (tn x2.toNat) i j := ⟨_, rfl⟩
          rw [← hsv] at hz_7
          have hend : j = tn x2.toNat → i < tn x1.toNat → sv = 1 := fun q1 q2 => by rw [hsv, q1]; exact sgF_end ⟨hi.1, q2⟩
          have hend2 : i = tn x1.toNat → sv = 2 := fun q1 => by rw [hsv, q1]; exact sgF_end2
          have hcase : (j = tn x2.toNat ∧ i < tn x1.toNat ∧ sv = 1) ∨ (i = tn x1.toNat ∧ sv = 2) ∨ (i < tn x1.toNat ∧ j < tn x2.toNat) := by
            rcases (show (j = tn x2.toNat ∧ i < tn x1.toNat) ∨ i = tn x1.toNat ∨ (i < tn x1.toNat ∧ j < tn x2.toNat) by omega) with q | q | q
            · exact Or.inl ⟨q.1, q.2, hend q.1 q.2⟩
            · exact Or.inr (Or.inl ⟨q, hend2 q⟩)
            · exact Or.inr (Or.inr q)
          refine lv_istore (lv' := [(8, .int (iI z_7)), (0, .ref w), (1, .int (iI x1)), (2, .int (iI x2)), (3, .ref (ra x1.toNat)), (4, .ref (ra x2.toNat)), (5, .int (iI i)), (6, .int (iI j)), (7, .int (iI n))]) hx hb dX2_layOut_71 hl (by decide) rfl (fun ls hl => ?_)
          refine lv_aload_n hx hb dX2_layOut_73 rfl (lv_at hl 1 rfl) ?_
          refine va_get (D := D) (ci := 1) (v := .ref sq) (C := RX2) (T := TX2) (N := 4) hx hb hts i2 hown hK.1 hP 0 rfl rfl 2 (by decide) f24 (fun _ h9 => h9) rfl dX2_layOut_74 ?_
          refine lv_iload hx hb dX2_layOut_77 (lv_at hl 8 rfl) ?_
          refine lv_iload hx hb dX2_layOut_79 (lv_at hl 0 rfl) ?_
          refine zt_cast hx hb hK.1 hP hD hS 9 1 rfl rfl (by omega) (by omega) dX2_layOut_81 (fun f_8 H locs hP hD hS => ?_)
          have hP : va_P D vwCl [(w, .inr (1, [.ref rw, .ref bq, .ref sq, .int (iI mp)])), (rw, .inl (gr, 3, .inr (.inr (.inr (.inr (rF ra)))))), (bq, aI gi 121 u_r_1), ((ra 0), .inr (3, [.ref (ia 0), .int (iI (tn 0))])), ((ia 0), aI gi 10 (gs 0)), ((ra 1), .inr (3, [.ref (ia 1), .int (iI (tn 1))])), ((ia 1), aI gi 10 (gs 1)), ((ra 2), .inr (3, [.ref (ia 2), .int (iI (tn 2))])), ((ia 2), aI gi 10 (gs 2)), (sq, .inl (gc, 20, .inl f_8))] H := hP
          have hD : va_D A [(w, .inr (1, [.ref rw, .ref bq, .ref sq, .int (iI mp)])), (rw, .inl (gr, 3, .inr (.inr (.inr (.inr (rF ra)))))), (bq, aI gi 121 u_r_1), ((ra 0), .inr (3, [.ref (ia 0), .int (iI (tn 0))])), ((ia 0), aI gi 10 (gs 0)), ((ra 1), .inr (3, [.ref (ia 1), .int (iI (tn 1))])), ((ia 1), aI gi 10 (gs 1)), ((ra 2), .inr (3, [.ref (ia 2), .int (iI (tn 2))])), ((ia 2), aI gi 10 (gs 2)), (sq, .inl (gc, 20, .inl f_8))] := hD
          refine lv_iinc (v := iI (n + 1)) (lv' := [(7, .int (iI (n + 1))), (8, .int (iI z_7)), (0, .ref w), (1, .int (iI x1)), (2, .int (iI x2)), (3, .ref (ra x1.toNat)), (4, .ref (ra x2.toNat)), (5, .int (iI i)), (6, .int (iI j))]) hx hb dX2_layOut_82 hl (k := 8) rfl (iI_add _ _) (by decide) rfl (fun ls hl => ?_)
          refine lv_iload hx hb dX2_layOut_85 (lv_at hl 7 rfl) ?_
          refine lv_iload hx hb dX2_layOut_87 (lv_at hl 1 rfl) ?_
          refine lv_bipush (v := iI (50)) hx hb dX2_layOut_89 (by decide +kernel) ?_
          refine zt_icmp_ne (tgt := 98) hx hb dX2_layOut_91 (by decide) (by omega) (fun c_9 => ?_) (fun c_9 => ?_)
          · refine lv_iconst (v := iI (1)) hx hb dX2_layOut_98 (by decide +kernel) ?_
            refine zt_iadd hx hb dX2_layOut_99 ?_
            refine lv_istore (lv' := [(5, .int (iI (i + 1))), (7, .int (iI (n + 1))), (8, .int (iI z_7)), (0, .ref w), (1, .int (iI x1)), (2, .int (iI x2)), (3, .ref (ra x1.toNat)), (4, .ref (ra x2.toNat)), (6, .int (iI j))]) hx hb dX2_layOut_100 hl (by decide) rfl (fun ls hl => ?_)
            refine lv_iload hx hb dX2_layOut_102 (lv_at hl 8 rfl) ?_
            refine lv_iload hx hb dX2_layOut_104 (lv_at hl 2 rfl) ?_
            refine lv_bipush (v := iI (49)) hx hb dX2_layOut_106 (by decide +kernel) ?_
            refine zt_icmp_ne (tgt := 115) hx hb dX2_layOut_108 (by decide) (by omega) (fun c_10 => ?_) (fun c_10 => ?_)
            · refine lv_iconst (v := iI (1)) hx hb dX2_layOut_115 (by decide +kernel) ?_
              refine zt_iadd hx hb dX2_layOut_116 ?_
              refine lv_istore (lv' := [(6, .int (iI (j + 1))), (5, .int (iI (i + 1))), (7, .int (iI (n + 1))), (8, .int (iI z_7)), (0, .ref w), (1, .int (iI x1)), (2, .int (iI x2)), (3, .ref (ra x1.toNat)), (4, .ref (ra x2.toNat))]) hx hb dX2_layOut_117 hl (by decide) rfl (fun ls hl => ?_)
              refine lv_goto (tgt := 31) hx hb dX2_layOut_119 (by decide) ?_
              exact ih_31 (i + 1) (j + 1) (n + 1) f_8 (by omega) (by omega) (by omega) (by rw [hf, show (20 - n).toNat = (20 - (n + 1)).toNat + 1 by omega]; exact layL_go hsv (by omega) (by split <;> omega) (by split <;> omega)) (by omega) H locs hP hD hS ls (lv_sub hl [4, 5, 6, 7, 8, 1, 0, 2] rfl)
            · refine lv_iconst (v := iI (0)) hx hb dX2_layOut_111 (by decide +kernel) ?_
              refine lv_goto (tgt := 116) hx hb dX2_layOut_112 (by decide) ?_
              refine zt_iadd hx hb dX2_layOut_116 ?_
              refine lv_istore (lv' := [(6, .int (iI (j + 0))), (5, .int (iI (i + 1))), (7, .int (iI (n + 1))), (8, .int (iI z_7)), (0, .ref w), (1, .int (iI x1)), (2, .int (iI x2)), (3, .ref (ra x1.toNat)), (4, .ref (ra x2.toNat))]) hx hb dX2_layOut_117 hl (by decide) rfl (fun ls hl => ?_)
              refine lv_goto (tgt := 31) hx hb dX2_layOut_119 (by decide) ?_
              exact ih_31 (i + 1) (j + 0) (n + 1) f_8 (by omega) (by omega) (by omega) (by rw [hf, show (20 - n).toNat = (20 - (n + 1)).toNat + 1 by omega]; exact layL_go hsv (by omega) (by split <;> omega) (by split <;> omega)) (by omega) H locs hP hD hS ls (lv_sub hl [4, 5, 6, 7, 8, 1, 0, 2] rfl)
          · refine lv_iconst (v := iI (0)) hx hb dX2_layOut_94 (by decide +kernel) ?_
            refine lv_goto (tgt := 99) hx hb dX2_layOut_95 (by decide) ?_
            refine zt_iadd hx hb dX2_layOut_99 ?_
            refine lv_istore (lv' := [(5, .int (iI (i + 0))), (7, .int (iI (n + 1))), (8, .int (iI z_7)), (0, .ref w), (1, .int (iI x1)), (2, .int (iI x2)), (3, .ref (ra x1.toNat)), (4, .ref (ra x2.toNat)), (6, .int (iI j))]) hx hb dX2_layOut_100 hl (by decide) rfl (fun ls hl => ?_)
            refine lv_iload hx hb dX2_layOut_102 (lv_at hl 8 rfl) ?_
            refine lv_iload hx hb dX2_layOut_104 (lv_at hl 2 rfl) ?_
            refine lv_bipush (v := iI (49)) hx hb dX2_layOut_106 (by decide +kernel) ?_
            refine zt_icmp_ne (tgt := 115) hx hb dX2_layOut_108 (by decide) (by omega) (fun c_11 => ?_) (fun c_11 => ?_)
            · refine lv_iconst (v := iI (1)) hx hb dX2_layOut_115 (by decide +kernel) ?_
              refine zt_iadd hx hb dX2_layOut_116 ?_
              refine lv_istore (lv' := [(6, .int (iI (j + 1))), (5, .int (iI (i + 0))), (7, .int (iI (n + 1))), (8, .int (iI z_7)), (0, .ref w), (1, .int (iI x1)), (2, .int (iI x2)), (3, .ref (ra x1.toNat)), (4, .ref (ra x2.toNat))]) hx hb dX2_layOut_117 hl (by decide) rfl (fun ls hl => ?_)
              refine lv_goto (tgt := 31) hx hb dX2_layOut_119 (by decide) ?_
              exact ih_31 (i + 0) (j + 1) (n + 1) f_8 (by omega) (by omega) (by omega) (by rw [hf, show (20 - n).toNat = (20 - (n + 1)).toNat + 1 by omega]; exact layL_go hsv (by omega) (by split <;> omega) (by split <;> omega)) (by omega) H locs hP hD hS ls (lv_sub hl [4, 5, 6, 7, 8, 1, 0, 2] rfl)
            · refine lv_iconst (v := iI (0)) hx hb dX2_layOut_111 (by decide +kernel) ?_
              refine lv_goto (tgt := 116) hx hb dX2_layOut_112 (by decide) ?_
              refine zt_iadd hx hb dX2_layOut_116 ?_
              refine lv_istore (lv' := [(6, .int (iI (j + 0))), (5, .int (iI (i + 0))), (7, .int (iI (n + 1))), (8, .int (iI z_7)), (0, .ref w), (1, .int (iI x1)), (2, .int (iI x2)), (3, .ref (ra x1.toNat)), (4, .ref (ra x2.toNat))]) hx hb dX2_layOut_117 hl (by decide) rfl (fun ls hl => ?_)
              refine lv_goto (tgt := 31) hx hb dX2_layOut_119 (by decide) ?_
              exact ih_31 (i + 0) (j + 0) (n + 1) f_8 (by omega) (by omega) (by omega) (by rw [hf, show (20 - n).toNat = (20 - (n + 1)).toNat + 1 by omega]; exact layL_go hsv (by omega) (by split <;> omega) (by split <;> omega)) (by omega) H locs hP hD hS ls (lv_sub hl [4, 5, 6, 7, 8, 1, 0, 2] rfl)
        · refine lv_aload hx hb dX2_layOut_50 (lv_at hl 4 rfl) ?_
          refine lv_iload hx hb dX2_layOut_52 (lv_at hl 6 rfl) ?_
          refine zt_callV C (As := [.int (iI j)]) (rest := []) (c_X4_has l D gi gc gr (ra x2.toNat) (ia x2.toNat) (tn x2.toNat) j (by first | omega | assumption) (by first | omega | assumption)) (cwV 1 hts gX2_layOut_X4_has rfl rfl rfl (by decide +kernel) ⟨Nat.le_of_ble_eq_true rfl, Nat.le_of_ble_eq_true rfl⟩) (zt_preV hK ((zrow (hP.sub (ws' := rowsW gi ra ia tn gs) [3, 4, 5, 6, 7, 8] rfl) h2x).sub [0] rfl) [.int (iI j)] 0 rfl rfl) rfl hl.1 rfl (Nat.le_of_ble_eq_true rfl) dX2_layOut_54 ⟨Nat.le_of_ble_eq_true rfl, Nat.le_of_ble_eq_true rfl⟩ (fun r_12 hr_12 => ?_)
          obtain ⟨z_13, rfl, hz_13⟩ := hr_12
          refine zt_if_eq (tgt := 122) hx hb dX2_layOut_57 (by decide) (by omega) (fun c_14 => ?_) (fun c_14 => ?_)
          · refine lv_iload hx hb dX2_layOut_122 (lv_at hl 7 rfl) ?_
            exact hQ (u_r_1, s1) _ _ _ _ _ (congrArg iI (by rw [hf, layL_end (by omega)])) hP hD hS dX2_layOut_124
          · refine lv_aload_n hx hb dX2_layOut_60 rfl (lv_at hl 0 rfl) ?_
            refine lv_aload_n hx hb dX2_layOut_61 rfl (lv_at hl 3 rfl) ?_
            refine lv_aload hx hb dX2_layOut_62 (lv_at hl 4 rfl) ?_
            refine lv_iload hx hb dX2_layOut_64 (lv_at hl 5 rfl) ?_
            refine lv_iload hx hb dX2_layOut_66 (lv_at hl 6 rfl) ?_
            refine zt_callV C (As := [.ref (ra x1.toNat), .ref (ra x2.toNat), .int (iI i), .int (iI j)]) (rest := []) (c_X2_signAt l D gi gc gr w rw bq sq mp u_r_1 (ra x1.toNat) (ia x1.toNat) (tn x1.toNat) (gs x1.toNat) (ra x2.toNat) (ia x2.toNat) (tn x2.toNat) (gs x2.toNat) i j (⟨hn1, hn2⟩) (hgs _ h1x) (hgs _ h2x) (by first | omega | assumption) (by first | omega | assumption) (by first | omega | assumption) (hT)) (cwV 4 hts gX2_layOut_X2_signAt rfl rfl rfl (by decide +kernel) ⟨Nat.le_of_ble_eq_true rfl, Nat.le_of_ble_eq_true rfl⟩) (zt_preV hK ((hP.sub (ws' := [(w, .inr (1, [.ref rw, .ref bq, .ref sq, .int (iI mp)])), (bq, aI gi 121 u_r_1)]) [0, 2] rfl).app (((zrow (hP.sub (ws' := rowsW gi ra ia tn gs) [3, 4, 5, 6, 7, 8] rfl) h1x)).app ((zrow (hP.sub (ws' := rowsW gi ra ia tn gs) [3, 4, 5, 6, 7, 8] rfl) h2x)))) [.ref (ra x1.toNat), .ref (ra x2.toNat), .int (iI i), .int (iI j)] 0 rfl rfl) rfl hl.1 rfl (Nat.le_of_ble_eq_true rfl) dX2_layOut_68 ⟨Nat.le_of_ble_eq_true rfl, Nat.le_of_ble_eq_true rfl⟩ (fun r_15 hr_15 => ?_)
            obtain ⟨z_16, rfl, hz_16⟩ := hr_15
            obtain ⟨sv, hsv⟩ : ∃ q, q = sgF (EF (gs x1.toNat) (tn x1.toNat) (gs x2.toNat) (tn x2.toNat)) (fun x y => tog (gs x1.toNat x.toNat) (gs x2.toNat y.toNat)) (tn x1.toNat) (tn x2.toNat) i j := ⟨_, rfl⟩
            rw [← hsv] at hz_16
            have hend : j = tn x2.toNat → i < tn x1.toNat → sv = 1 := fun q1 q2 => by rw [hsv, q1]; exact sgF_end ⟨hi.1, q2⟩
            have hend2 : i = tn x1.toNat → sv = 2 := fun q1 => by rw [hsv, q1]; exact sgF_end2
            have hcase : (j = tn x2.toNat ∧ i < tn x1.toNat ∧ sv = 1) ∨ (i = tn x1.toNat ∧ sv = 2) ∨ (i < tn x1.toNat ∧ j < tn x2.toNat) := by
              rcases (show (j = tn x2.toNat ∧ i < tn x1.toNat) ∨ i = tn x1.toNat ∨ (i < tn x1.toNat ∧ j < tn x2.toNat) by omega) with q | q | q
              · exact Or.inl ⟨q.1, q.2, hend q.1 q.2⟩
              · exact Or.inr (Or.inl ⟨q, hend2 q⟩)
              · exact Or.inr (Or.inr q)
            refine lv_istore (lv' := [(8, .int (iI z_16)), (0, .ref w), (1, .int (iI x1)), (2, .int (iI x2)), (3, .ref (ra x1.toNat)), (4, .ref (ra x2.toNat)), (5, .int (iI i)), (6, .int (iI j)), (7, .int (iI n))]) hx hb dX2_layOut_71 hl (by decide) rfl (fun ls hl => ?_)
            refine lv_aload_n hx hb dX2_layOut_73 rfl (lv_at hl 1 rfl) ?_
            refine va_get (D := D) (ci := 1) (v := .ref sq) (C := RX2) (T := TX2) (N := 4) hx hb hts i2 hown hK.1 hP 0 rfl rfl 2 (by decide) f24 (fun _ h9 => h9) rfl dX2_layOut_74 ?_
            refine lv_iload hx hb dX2_layOut_77 (lv_at hl 8 rfl) ?_
            refine lv_iload hx hb dX2_layOut_79 (lv_at hl 0 rfl) ?_
            refine zt_cast hx hb hK.1 hP hD hS 9 1 rfl rfl (by omega) (by omega) dX2_layOut_81 (fun f_17 H locs hP hD hS => ?_)
            have hP : va_P D vwCl [(w, .inr (1, [.ref rw, .ref bq, .ref sq, .int (iI mp)])), (rw, .inl (gr, 3, .inr (.inr (.inr (.inr (rF ra)))))), (bq, aI gi 121 u_r_1), ((ra 0), .inr (3, [.ref (ia 0), .int (iI (tn 0))])), ((ia 0), aI gi 10 (gs 0)), ((ra 1), .inr (3, [.ref (ia 1), .int (iI (tn 1))])), ((ia 1), aI gi 10 (gs 1)), ((ra 2), .inr (3, [.ref (ia 2), .int (iI (tn 2))])), ((ia 2), aI gi 10 (gs 2)), (sq, .inl (gc, 20, .inl f_17))] H := hP
            have hD : va_D A [(w, .inr (1, [.ref rw, .ref bq, .ref sq, .int (iI mp)])), (rw, .inl (gr, 3, .inr (.inr (.inr (.inr (rF ra)))))), (bq, aI gi 121 u_r_1), ((ra 0), .inr (3, [.ref (ia 0), .int (iI (tn 0))])), ((ia 0), aI gi 10 (gs 0)), ((ra 1), .inr (3, [.ref (ia 1), .int (iI (tn 1))])), ((ia 1), aI gi 10 (gs 1)), ((ra 2), .inr (3, [.ref (ia 2), .int (iI (tn 2))])), ((ia 2), aI gi 10 (gs 2)), (sq, .inl (gc, 20, .inl f_17))] := hD
            refine lv_iinc (v := iI (n + 1)) (lv' := [(7, .int (iI (n + 1))), (8, .int (iI z_16)), (0, .ref w), (1, .int (iI x1)), (2, .int (iI x2)), (3, .ref (ra x1.toNat)), (4, .ref (ra x2.toNat)), (5, .int (iI i)), (6, .int (iI j))]) hx hb dX2_layOut_82 hl (k := 8) rfl (iI_add _ _) (by decide) rfl (fun ls hl => ?_)
            refine lv_iload hx hb dX2_layOut_85 (lv_at hl 7 rfl) ?_
            refine lv_iload hx hb dX2_layOut_87 (lv_at hl 1 rfl) ?_
            refine lv_bipush (v := iI (50)) hx hb dX2_layOut_89 (by decide +kernel) ?_
            refine zt_icmp_ne (tgt := 98) hx hb dX2_layOut_91 (by decide) (by omega) (fun c_18 => ?_) (fun c_18 => ?_)
            · refine lv_iconst (v := iI (1)) hx hb dX2_layOut_98 (by decide +kernel) ?_
              refine zt_iadd hx hb dX2_layOut_99 ?_
              refine lv_istore (lv' := [(5, .int (iI (i + 1))), (7, .int (iI (n + 1))), (8, .int (iI z_16)), (0, .ref w), (1, .int (iI x1)), (2, .int (iI x2)), (3, .ref (ra x1.toNat)), (4, .ref (ra x2.toNat)), (6, .int (iI j))]) hx hb dX2_layOut_100 hl (by decide) rfl (fun ls hl => ?_)
              refine lv_iload hx hb dX2_layOut_102 (lv_at hl 8 rfl) ?_
              refine lv_iload hx hb dX2_layOut_104 (lv_at hl 2 rfl) ?_
              refine lv_bipush (v := iI (49)) hx hb dX2_layOut_106 (by decide +kernel) ?_
              refine zt_icmp_ne (tgt := 115) hx hb dX2_layOut_108 (by decide) (by omega) (fun c_19 => ?_) (fun c_19 => ?_)
              · refine lv_iconst (v := iI (1)) hx hb dX2_layOut_115 (by decide +kernel) ?_
                refine zt_iadd hx hb dX2_layOut_116 ?_
                refine lv_istore (lv' := [(6, .int (iI (j + 1))), (5, .int (iI (i + 1))), (7, .int (iI (n + 1))), (8, .int (iI z_16)), (0, .ref w), (1, .int (iI x1)), (2, .int (iI x2)), (3, .ref (ra x1.toNat)), (4, .ref (ra x2.toNat))]) hx hb dX2_layOut_117 hl (by decide) rfl (fun ls hl => ?_)
                refine lv_goto (tgt := 31) hx hb dX2_layOut_119 (by decide) ?_
                exact ih_31 (i + 1) (j + 1) (n + 1) f_17 (by omega) (by omega) (by omega) (by rw [hf, show (20 - n).toNat = (20 - (n + 1)).toNat + 1 by omega]; exact layL_go hsv (by omega) (by split <;> omega) (by split <;> omega)) (by omega) H locs hP hD hS ls (lv_sub hl [4, 5, 6, 7, 8, 1, 0, 2] rfl)
              · refine lv_iconst (v := iI (0)) hx hb dX2_layOut_111 (by decide +kernel) ?_
                refine lv_goto (tgt := 116) hx hb dX2_layOut_112 (by decide) ?_
                refine zt_iadd hx hb dX2_layOut_116 ?_
                refine lv_istore (lv' := [(6, .int (iI (j + 0))), (5, .int (iI (i + 1))), (7, .int (iI (n + 1))), (8, .int (iI z_16)), (0, .ref w), (1, .int (iI x1)), (2, .int (iI x2)), (3, .ref (ra x1.toNat)), (4, .ref (ra x2.toNat))]) hx hb dX2_layOut_117 hl (by decide) rfl (fun ls hl => ?_)
                refine lv_goto (tgt := 31) hx hb dX2_layOut_119 (by decide) ?_
                exact ih_31 (i + 1) (j + 0) (n + 1) f_17 (by omega) (by omega) (by omega) (by rw [hf, show (20 - n).toNat = (20 - (n + 1)).toNat + 1 by omega]; exact layL_go hsv (by omega) (by split <;> omega) (by split <;> omega)) (by omega) H locs hP hD hS ls (lv_sub hl [4, 5, 6, 7, 8, 1, 0, 2] rfl)
            · refine lv_iconst (v := iI (0)) hx hb dX2_layOut_94 (by decide +kernel) ?_
              refine lv_goto (tgt := 99) hx hb dX2_layOut_95 (by decide) ?_
              refine zt_iadd hx hb dX2_layOut_99 ?_
              refine lv_istore (lv' := [(5, .int (iI (i + 0))), (7, .int (iI (n + 1))), (8, .int (iI z_16)), (0, .ref w), (1, .int (iI x1)), (2, .int (iI x2)), (3, .ref (ra x1.toNat)), (4, .ref (ra x2.toNat)), (6, .int (iI j))]) hx hb dX2_layOut_100 hl (by decide) rfl (fun ls hl => ?_)
              refine lv_iload hx hb dX2_layOut_102 (lv_at hl 8 rfl) ?_
              refine lv_iload hx hb dX2_layOut_104 (lv_at hl 2 rfl) ?_
              refine lv_bipush (v := iI (49)) hx hb dX2_layOut_106 (by decide +kernel) ?_
              refine zt_icmp_ne (tgt := 115) hx hb dX2_layOut_108 (by decide) (by omega) (fun c_20 => ?_) (fun c_20 => ?_)
              · refine lv_iconst (v := iI (1)) hx hb dX2_layOut_115 (by decide +kernel) ?_
                refine zt_iadd hx hb dX2_layOut_116 ?_
                refine lv_istore (lv' := [(6, .int (iI (j + 1))), (5, .int (iI (i + 0))), (7, .int (iI (n + 1))), (8, .int (iI z_16)), (0, .ref w), (1, .int (iI x1)), (2, .int (iI x2)), (3, .ref (ra x1.toNat)), (4, .ref (ra x2.toNat))]) hx hb dX2_layOut_117 hl (by decide) rfl (fun ls hl => ?_)
                refine lv_goto (tgt := 31) hx hb dX2_layOut_119 (by decide) ?_
                exact ih_31 (i + 0) (j + 1) (n + 1) f_17 (by omega) (by omega) (by omega) (by rw [hf, show (20 - n).toNat = (20 - (n + 1)).toNat + 1 by omega]; exact layL_go hsv (by omega) (by split <;> omega) (by split <;> omega)) (by omega) H locs hP hD hS ls (lv_sub hl [4, 5, 6, 7, 8, 1, 0, 2] rfl)
              · refine lv_iconst (v := iI (0)) hx hb dX2_layOut_111 (by decide +kernel) ?_
                refine lv_goto (tgt := 116) hx hb dX2_layOut_112 (by decide) ?_
                refine zt_iadd hx hb dX2_layOut_116 ?_
                refine lv_istore (lv' := [(6, .int (iI (j + 0))), (5, .int (iI (i + 0))), (7, .int (iI (n + 1))), (8, .int (iI z_16)), (0, .ref w), (1, .int (iI x1)), (2, .int (iI x2)), (3, .ref (ra x1.toNat)), (4, .ref (ra x2.toNat))]) hx hb dX2_layOut_117 hl (by decide) rfl (fun ls hl => ?_)
                refine lv_goto (tgt := 31) hx hb dX2_layOut_119 (by decide) ?_
                exact ih_31 (i + 0) (j + 0) (n + 1) f_17 (by omega) (by omega) (by omega) (by rw [hf, show (20 - n).toNat = (20 - (n + 1)).toNat + 1 by omega]; exact layL_go hsv (by omega) (by split <;> omega) (by split <;> omega)) (by omega) H locs hP hD hS ls (lv_sub hl [4, 5, 6, 7, 8, 1, 0, 2] rfl)
  exact loop_31 ((20 - 0 : Int).toNat + 1) 0 0 0 sf (by omega) (by omega) (by omega) (rfl) (by omega) H locs hP hD hS ls (lv_sub hl [5, 6, 7, 4, 3, 2, 1, 0] rfl)
end
