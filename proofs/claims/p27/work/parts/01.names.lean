-- ===== PART A: goes FIRST, ahead of the names: the tables' words, and 'selects' of the private methods out of them =====
/-- a private method of a class that the tables say can be made, by its rows of tables_1 -/
def lw_okq (q : MethodName × Nat) : Prop := (q.1.cls ≠ "java/lang/invoke/MethodHandle" ∧ q.1.cls ≠ "java/lang/invoke/VarHandle") ∧ Cond.instantiable q.1.cls q.2 ∈ tables_1 ∧ Cond.privateMethod q.1 ∈ tables_1 ∧ Cond.instanceMethod q.1 ∈ tables_1
theorem lw_p0 : lw_okq (⟨"Threetwo", "requirePrint", "(I)V"⟩, 7) := ⟨⟨by decide +kernel, by decide +kernel⟩, List.mem_of_getElem? (i := 16) (by decide +kernel), List.mem_of_getElem? (i := 178) (by decide +kernel), List.mem_of_getElem? (i := 179) (by decide +kernel)⟩
theorem lw_p1 : lw_okq (⟨"java/lang/Throwable", "fillInStackTrace", "(I)Ljava/lang/Throwable;"⟩, 6) := ⟨⟨by decide +kernel, by decide +kernel⟩, List.mem_of_getElem? (i := 224) (by decide +kernel), List.mem_of_getElem? (i := 222) (by decide +kernel), List.mem_of_getElem? (i := 223) (by decide +kernel)⟩
theorem lw_p2 : lw_okq (⟨"Threetwo$Prints", "leastFrom", "(LThreetwo$Row;LThreetwo$Row;II)I"⟩, 4) := ⟨⟨by decide +kernel, by decide +kernel⟩, List.mem_of_getElem? (i := 112) (by decide +kernel), List.mem_of_getElem? (i := 262) (by decide +kernel), List.mem_of_getElem? (i := 263) (by decide +kernel)⟩
theorem lw_p3 : lw_okq (⟨"Threetwo$Rhythm", "bestNext", "(IIZI)I"⟩, 9) := ⟨⟨by decide +kernel, by decide +kernel⟩, List.mem_of_getElem? (i := 71) (by decide +kernel), List.mem_of_getElem? (i := 298) (by decide +kernel), List.mem_of_getElem? (i := 299) (by decide +kernel)⟩
theorem lw_p4 : lw_okq (⟨"Threetwo$Rhythm", "bestFirst", "()I"⟩, 9) := ⟨⟨by decide +kernel, by decide +kernel⟩, List.mem_of_getElem? (i := 71) (by decide +kernel), List.mem_of_getElem? (i := 305) (by decide +kernel), List.mem_of_getElem? (i := 306) (by decide +kernel)⟩
theorem lw_p5 : lw_okq (⟨"Threetwo$Rhythm", "tracePath", "(LThreetwo$Row;I)V"⟩, 9) := ⟨⟨by decide +kernel, by decide +kernel⟩, List.mem_of_getElem? (i := 71) (by decide +kernel), List.mem_of_getElem? (i := 309) (by decide +kernel), List.mem_of_getElem? (i := 310) (by decide +kernel)⟩
theorem lw_p6 : lw_okq (⟨"Threetwo$Rhythm", "gatherFrames", "(I)V"⟩, 9) := ⟨⟨by decide +kernel, by decide +kernel⟩, List.mem_of_getElem? (i := 71) (by decide +kernel), List.mem_of_getElem? (i := 313) (by decide +kernel), List.mem_of_getElem? (i := 314) (by decide +kernel)⟩
theorem lw_p7 : lw_okq (⟨"Threetwo$Rhythm", "beginsFrame", "(I)Z"⟩, 9) := ⟨⟨by decide +kernel, by decide +kernel⟩, List.mem_of_getElem? (i := 71) (by decide +kernel), List.mem_of_getElem? (i := 317) (by decide +kernel), List.mem_of_getElem? (i := 318) (by decide +kernel)⟩
theorem lw_p8 : lw_okq (⟨"Threetwo$Buffer", "sumOfSizes", "()I"⟩, 2) := ⟨⟨by decide +kernel, by decide +kernel⟩, List.mem_of_getElem? (i := 135) (by decide +kernel), List.mem_of_getElem? (i := 339) (by decide +kernel), List.mem_of_getElem? (i := 340) (by decide +kernel)⟩
theorem lw_p9 : lw_okq (⟨"Threetwo$Buffer", "cameIn", "(II)I"⟩, 2) := ⟨⟨by decide +kernel, by decide +kernel⟩, List.mem_of_getElem? (i := 135) (by decide +kernel), List.mem_of_getElem? (i := 343) (by decide +kernel), List.mem_of_getElem? (i := 344) (by decide +kernel)⟩
theorem lw_p10 : lw_okq (⟨"Threetwo", "printsAreSound", "()Z"⟩, 7) := ⟨⟨by decide +kernel, by decide +kernel⟩, List.mem_of_getElem? (i := 16) (by decide +kernel), List.mem_of_getElem? (i := 396) (by decide +kernel), List.mem_of_getElem? (i := 397) (by decide +kernel)⟩
theorem lw_p11 : lw_okq (⟨"Threetwo", "pairIsSound", "(II)Z"⟩, 7) := ⟨⟨by decide +kernel, by decide +kernel⟩, List.mem_of_getElem? (i := 16) (by decide +kernel), List.mem_of_getElem? (i := 400) (by decide +kernel), List.mem_of_getElem? (i := 401) (by decide +kernel)⟩
theorem lw_p12 : lw_okq (⟨"Threetwo", "bufferIsSound", "()Z"⟩, 7) := ⟨⟨by decide +kernel, by decide +kernel⟩, List.mem_of_getElem? (i := 16) (by decide +kernel), List.mem_of_getElem? (i := 404) (by decide +kernel), List.mem_of_getElem? (i := 405) (by decide +kernel)⟩
theorem lw_p13 : lw_okq (⟨"Threetwo", "framesAreSound", "()Z"⟩, 7) := ⟨⟨by decide +kernel, by decide +kernel⟩, List.mem_of_getElem? (i := 16) (by decide +kernel), List.mem_of_getElem? (i := 408) (by decide +kernel), List.mem_of_getElem? (i := 409) (by decide +kernel)⟩
theorem lw_p14 : lw_okq (⟨"Threetwo", "withFields", "(J)J"⟩, 7) := ⟨⟨by decide +kernel, by decide +kernel⟩, List.mem_of_getElem? (i := 16) (by decide +kernel), List.mem_of_getElem? (i := 428) (by decide +kernel), List.mem_of_getElem? (i := 429) (by decide +kernel)⟩
theorem lw_p15 : lw_okq (⟨"Threetwo", "requireField", "(I)V"⟩, 7) := ⟨⟨by decide +kernel, by decide +kernel⟩, List.mem_of_getElem? (i := 16) (by decide +kernel), List.mem_of_getElem? (i := 436) (by decide +kernel), List.mem_of_getElem? (i := 437) (by decide +kernel)⟩
def lw_privs_1 : List (MethodName × Nat) := [(⟨"Threetwo", "requirePrint", "(I)V"⟩, 7), (⟨"java/lang/Throwable", "fillInStackTrace", "(I)Ljava/lang/Throwable;"⟩, 6), (⟨"Threetwo$Prints", "leastFrom", "(LThreetwo$Row;LThreetwo$Row;II)I"⟩, 4), (⟨"Threetwo$Rhythm", "bestNext", "(IIZI)I"⟩, 9), (⟨"Threetwo$Rhythm", "bestFirst", "()I"⟩, 9), (⟨"Threetwo$Rhythm", "tracePath", "(LThreetwo$Row;I)V"⟩, 9), (⟨"Threetwo$Rhythm", "gatherFrames", "(I)V"⟩, 9), (⟨"Threetwo$Rhythm", "beginsFrame", "(I)Z"⟩, 9), (⟨"Threetwo$Buffer", "sumOfSizes", "()I"⟩, 2), (⟨"Threetwo$Buffer", "cameIn", "(II)I"⟩, 2), (⟨"Threetwo", "printsAreSound", "()Z"⟩, 7), (⟨"Threetwo", "pairIsSound", "(II)Z"⟩, 7), (⟨"Threetwo", "bufferIsSound", "()Z"⟩, 7), (⟨"Threetwo", "framesAreSound", "()Z"⟩, 7), (⟨"Threetwo", "withFields", "(J)J"⟩, 7), (⟨"Threetwo", "requireField", "(I)V"⟩, 7)]
theorem lw_r1 : ∀ q ∈ lw_privs_1, lw_okq q := List.forall_mem_cons.mpr ⟨lw_p0, List.forall_mem_cons.mpr ⟨lw_p1, List.forall_mem_cons.mpr ⟨lw_p2, List.forall_mem_cons.mpr ⟨lw_p3, List.forall_mem_cons.mpr ⟨lw_p4, List.forall_mem_cons.mpr ⟨lw_p5, List.forall_mem_cons.mpr ⟨lw_p6, List.forall_mem_cons.mpr ⟨lw_p7, List.forall_mem_cons.mpr ⟨lw_p8, List.forall_mem_cons.mpr ⟨lw_p9, List.forall_mem_cons.mpr ⟨lw_p10, List.forall_mem_cons.mpr ⟨lw_p11, List.forall_mem_cons.mpr ⟨lw_p12, List.forall_mem_cons.mpr ⟨lw_p13, List.forall_mem_cons.mpr ⟨lw_p14, List.forall_mem_cons.mpr ⟨lw_p15, fun _ h => absurd h List.not_mem_nil⟩⟩⟩⟩⟩⟩⟩⟩⟩⟩⟩⟩⟩⟩⟩⟩
theorem lw_p16 : lw_okq (⟨"Threetwo", "withFoundFrames", "(J)J"⟩, 7) := ⟨⟨by decide +kernel, by decide +kernel⟩, List.mem_of_getElem? (i := 16) (by decide +kernel), List.mem_of_getElem? (i := 448) (by decide +kernel), List.mem_of_getElem? (i := 449) (by decide +kernel)⟩
theorem lw_p17 : lw_okq (⟨"Threetwo", "withPrints", "(J)J"⟩, 7) := ⟨⟨by decide +kernel, by decide +kernel⟩, List.mem_of_getElem? (i := 16) (by decide +kernel), List.mem_of_getElem? (i := 458) (by decide +kernel), List.mem_of_getElem? (i := 459) (by decide +kernel)⟩
theorem lw_p18 : lw_okq (⟨"Threetwo$Prints", "signAt", "(LThreetwo$Row;LThreetwo$Row;II)C"⟩, 4) := ⟨⟨by decide +kernel, by decide +kernel⟩, List.mem_of_getElem? (i := 112) (by decide +kernel), List.mem_of_getElem? (i := 467) (by decide +kernel), List.mem_of_getElem? (i := 468) (by decide +kernel)⟩
theorem lw_p19 : lw_okq (⟨"Threetwo$Strip", "firstLike", "(I)I"⟩, 6) := ⟨⟨by decide +kernel, by decide +kernel⟩, List.mem_of_getElem? (i := 41) (by decide +kernel), List.mem_of_getElem? (i := 478) (by decide +kernel), List.mem_of_getElem? (i := 479) (by decide +kernel)⟩
def lw_privs_2 : List (MethodName × Nat) := [(⟨"Threetwo", "withFoundFrames", "(J)J"⟩, 7), (⟨"Threetwo", "withPrints", "(J)J"⟩, 7), (⟨"Threetwo$Prints", "signAt", "(LThreetwo$Row;LThreetwo$Row;II)C"⟩, 4), (⟨"Threetwo$Strip", "firstLike", "(I)I"⟩, 6)]
theorem lw_r2 : ∀ q ∈ lw_privs_2, lw_okq q := List.forall_mem_cons.mpr ⟨lw_p16, List.forall_mem_cons.mpr ⟨lw_p17, List.forall_mem_cons.mpr ⟨lw_p18, List.forall_mem_cons.mpr ⟨lw_p19, fun _ h => absurd h List.not_mem_nil⟩⟩⟩⟩
def lw_privs : List (MethodName × Nat) := lw_privs_1 ++ (lw_privs_2)
def lw_tbl : List Cond := k2_sels lw_privs ++ tables_1
theorem lw_privs_ok : ∀ q ∈ lw_privs, lw_okq q := by
  show ∀ q ∈ lw_privs_1 ++ (lw_privs_2), lw_okq q
  exact List.forall_mem_append.mpr ⟨lw_r1, lw_r2⟩
/-! ===== BEGIN words of one list among another's, by their places ===== -/
theorem goodIn_r {big : List Cond} (ws : List Cond) (ps : List Nat) (hp : ws = ps.filterMap (fun i => big[i]?)) (h : ws.all goodWord = true) : GoodIn big ws := by
  intro w hw
  have h1 := List.all_eq_true.mp h w hw
  rw [hp] at hw
  obtain ⟨i, -, hi⟩ := List.mem_filterMap.mp hw
  have hm : w ∈ big := by first | exact List.mem_of_getElem? hi | exact List.getElem?_mem hi
  exact ⟨hm, good_of_word h1⟩
theorem goodIn_app {big a b : List Cond} (ha : GoodIn big a) (hb : GoodIn big b) : GoodIn big (a ++ b) := fun w h => (List.mem_append.mp h).elim (ha w) (hb w)
theorem goodIn_ca {big a b : List Cond} {c : Cond} (ha : GoodIn big (c :: a)) (hb : GoodIn big b) : GoodIn big (c :: (a ++ b)) := fun w h => (List.mem_cons.mp h).elim (fun e => ha w (List.mem_cons.mpr (Or.inl e))) (fun h => (List.mem_append.mp h).elim (fun h => ha w (List.mem_cons.mpr (Or.inr h))) (hb w))
theorem goodIn_sub {big ws : List Cond} (hm : ∀ w ∈ ws, w ∈ big) (h : ws.all goodWord = true) : GoodIn big ws := fun w hw => ⟨hm w hw, good_of_word (List.all_eq_true.mp h w hw)⟩
/-! ===== END ===== -/

/-! ===== BEGIN exceptions that leave a method, and their catching by the caller (launches without stack traces) ===== -/
section VXA
/-! The laws vx_back, vx_callV, vx_callS, vx_callSW, vx_throw0, vx_throwS follow proofs of the library, with one case more: JvmDerived/Free/Laws.lean (Back.of_free), Shelf42/LK1.lean (callV, callS), Shelf/KitTraced.lean (throwNew0V, throwNewS). -/
/-- where a method has thrown q: the class by its name, the cell, what was written, the world -/
def vx_T (XC : String → State → State → Prop) (st : State) (q : Addr) (t : State) (mc ms : Nat) (free : Addr → Prop) : Prop :=
  ∃ (E : String) (ce : Cell) (L : List Loc), XC E st t ∧ t.heap[q]? = some ce ∧ ce.vm = .none ∧ st.vm.findClass E = some ce.cls ∧ st.WarmedH t.vm ∧ st.sameButNew ({ t with vm := st.vm } : State) L mc ms ∧ ∀ z ∈ L, free z.base
def vx_Q (Qc : Array Value → State → Outcome → State → Prop) (XC : String → State → State → Prop) (mc ms : Nat) (free : Addr → Prop) : Array Value → State → Outcome → State → Prop := fun a st o t =>
  (Qc a st o t ∧ ∃ L, FrameEnd st o t L mc ms ∧ ∀ q ∈ L, free q.base) ∨ ∃ q, o = .threw q ∧ vx_T XC st q t mc ms free
/-- a callee that returns or throws -/
def vx_Met (l : Launch) (y : MethodName) (ws : List Cond) (rm : Room) (Pc : Array Value → State → Prop) (Qc : Array Value → State → Outcome → State → Prop) (XC : String → State → State → Prop) (mc ms : Nat) (free : Addr → Prop) : Prop :=
  MetFree l y (headSpec ws rm) Pc (fun _ _ _ _ _ => True) (vx_Q Qc XC mc ms free)
def vx_Post (XC : String → State → State → Prop) (mc ms : Nat) (free : Addr → Prop) : Pt → Array Value → Addr → Pt → Prop := fun A a q B =>
  ∃ (g : JFrame) (mk : MethodId) (t : State) (L : List Loc) (E : String) (ce : Cell), B.U.heap = t.heap ∧ B.U.vm = t.vm ∧ XC E (A.U.calling g mk a) t ∧ t.heap[q]? = some ce ∧ ce.vm = .none ∧ A.U.vm.findClass E = some ce.cls ∧ B.locs = A.locs ++ L ∧ (∀ z ∈ L, free z.base) ∧ B.cells = A.cells + mc ∧ B.slots = A.slots + ms
def vx_Back (l : Launch) (R : Room) (p : Program) (e : Env) (below : List Frame) (s : State) (sargs : Array Value) (y : MethodName) (len W9 : Nat)
    (Pre : Pt → Array Value → Prop) (Post : Pt → Array Value → Option Value → Pt → Prop) (PostX : Pt → Array Value → Addr → Pt → Prop) : Prop :=
  ∀ (m : MethodId) (meth : Method) (c : Code) (A : Pt) (g : JFrame) (ig : Instr) (mk : MethodId) (a : Array Value),
    Stand p l e R s m sargs below meth c A.U A.locs A.cells A.slots → g.method = m → g.locals.size = c.maxLocals → decode c.code g.pc = .ok (ig, len) →
    2 * g.monitorRoom + (g.stack.map fun v => v.category).sum ≤ W9 → A.U.methodNamed? y = some mk → Pre A a →
    (∃ (v : Option Value) (B : Pt), Stand p l e R s m sargs below meth c B.U B.locs B.cells B.slots ∧ Post A a v B ∧
      Steps p.tables e below (doInvoke e (A.U.setTop g) [] mk a).1 (B.U.setTop { g with pc := g.pc + len, stack := v.toList ++ g.stack })) ∨
    (∃ (q : Addr) (B : Pt), Stand p l e R s m sargs below meth c B.U B.locs B.cells B.slots ∧ PostX A a q B ∧
      Steps p.tables e below (doInvoke e (A.U.setTop g) [] mk a).1 ((B.U.setTop g).pushFrame (.throwing q)))
section Payer
variable {l : Launch} {R : Room} {p : Program} {e : Env} {below : List Frame} {s : State} {sargs : Array Value} {y : MethodName} {len W9 : Nat}
theorem vx_back {ws : List Cond} {rm : Room} {Pc : Array Value → State → Prop} {Qc : Array Value → State → Outcome → State → Prop} {XC : String → State → State → Prop} {mc ms : Nat} {free : Addr → Prop} {bytes : ByteArray} {maxL : Nat} {ret : Option FieldType}
    (hM : vx_Met l y ws rm Pc Qc XC mc ms free) (hblind : FrameBlind Pc) (hrc : rm.cells = mc) (hrs : rm.slots = ms)
    (hframes : rm.frames + 1 ≤ R.frames) (hlocals : W9 + (maxL + 11) + rm.locals ≤ R.locals)
    (hws : ∀ w ∈ ws, ∀ a' U, s.WarmedH U.vm → w.before a' U = true) (hcode : Cond.code y bytes maxL ret ∈ ws) (hinit : ∀ a' U, s.WarmedH U.vm → (Cond.initialized y.cls).before a' U = true) :
    vx_Back l R p e below s sargs y len W9 (PreOf R mc ms Pc) (PostOf Qc mc ms free) (vx_Post XC mc ms free) := by
  intro m meth c A g ig mk a X hg hsize hdg hW hn hp
  have h1 : (headSpec ws rm).pre.before a A.U = true := atoms_intro fun w hw => hws w hw _ _ X.warmed
  have h2 : (Cond.code y bytes maxL ret).before a A.U = true := hws _ hcode _ _ X.warmed
  have h3 : (Cond.initialized y.cls).before a A.U = true := hinit _ _ X.warmed
  have h4 : A.cells + (headSpec ws rm).room.cells ≤ R.cells := by rw [show (headSpec ws rm).room.cells = mc from hrc]; exact hp.1
  have h5 : A.slots + (headSpec ws rm).room.slots ≤ R.slots := by rw [show (headSpec ws rm).room.slots = ms from hrs]; exact hp.2.1
  have hPc : Pc a (A.U.calling g mk a) := hblind _ _ _ _ hp.2.2
  obtain ⟨U, Ls, c0, s0⟩ := A
  dsimp only [Pt.U, Pt.locs, Pt.cells, Pt.slots] at h1 h2 h3 h4 h5 X hn hPc ⊢
  obtain ⟨methY, cY, hmY, hcY, -, hlY, -, -, -, -⟩ := Cond.code_spec hn h2
  obtain ⟨kY, hkY, -⟩ := className_of_methodNamed hn
  have hinitY : kY.init = .initialized := Cond.initialized_spec (findClass_of_methodNamed hn) hkY h3
  have h : At U g.method c below := by rw [hg]; exact X.here
  have hlocals9 : W9 + (maxL + 11) + (headSpec ws rm).room.locals ≤ R.locals := hlocals
  have happ : (headSpec ws rm).appliesLoose y e.platform (U.calling g mk a) = true :=
    Spec.appliesLoose_calling (g := g) h hdg hn hkY hinitY
      (X.room_calling (g := g) (R' := (headSpec ws rm).room) hsize hmY hcY hframes (by rw [hlY]; omega) h4 h5) h1
  obtain ⟨mid, hmid⟩ := h.above
  have hfr : (U.setTop g).frames = (.java g :: mid) ++ below := by rw [State.frames_setTop' g h.top, hmid]; rfl
  obtain ⟨o, s₂, hsteps, -, hend, hq⟩ := Steps.callFree hM p X.admits X.cas X.clock (acts := []) hfr happ hPc trivial
  have hq' : vx_Q Qc XC mc ms free a (U.calling g mk a) o s₂ := hq
  rw [State.frames_setTop' g h.top] at hend
  obtain ⟨g₀, hg0⟩ := Option.isSome_iff_exists.mp h.top
  obtain ⟨r, hr⟩ := State.topJava?_eq_some.mp hg0
  have hr' : (({ U with heap := s₂.heap, slotsUsed := s₂.slotsUsed } : State).setVm s₂.vm).frames = .java g₀ :: r := hr
  rcases hq' with ⟨hqc, L, hfe, hL⟩ | ⟨q, rfl, E, ce, L, hx, hce, hcv, hcl, hW₂, hsm, hL⟩
  · obtain ⟨⟨v, rfl⟩, hW₂, e2, q2, q3, q4, q5, q6⟩ := id hfe
    have e3 : s₂ = ({ (U.calling g mk a).setFrames s₂.frames with heap := s₂.heap, slotsUsed := s₂.slotsUsed } : State).setVm s₂.vm := by
      have : s₂ = ({ s₂ with vm := (U.calling g mk a).vm } : State).setVm s₂.vm := rfl
      rw [e2] at this
      exact this
    obtain ⟨c₂, i₂, len₂, hc₂, hd₂, hf₂⟩ := hend
    have hW' : U.WarmedH s₂.vm := hW₂
    have hcc : c₂ = c := by
      have h1 : s₂.code? g.method = U.code? g.method := by
        rw [State.code?_eq, State.code?_eq, hW'.alike.method?]
      exact Option.some.inj (hc₂.symm.trans (h1.trans h.code))
    subst hcc
    have hlen : len₂ = len := by rw [hdg] at hd₂; cases hd₂; rfl
    subst hlen
    have hs₂ : s₂ = (({ U with heap := s₂.heap, slotsUsed := s₂.slotsUsed } : State).setVm s₂.vm).setTop { g with pc := g.pc + len₂, stack := v.toList ++ g.stack } := by
      refine e3.trans ?_
      rw [hf₂, State.calling_eq h.top, State.setFrames_setFrames, State.setTop_of_frames _ hr', hr]
      rfl
    have hsame : U.sameButNew ({ U with heap := s₂.heap, slotsUsed := s₂.slotsUsed } : State) L mc ms := by
      refine ⟨?_, q2, q3, q4, q5, q6⟩
      obtain ⟨t, ht, -⟩ := State.frames_cons hr
      show ({ U with heap := s₂.heap, slotsUsed := s₂.slotsUsed } : State) = { U.setFrames U.frames with heap := s₂.heap, slotsUsed := s₂.slotsUsed }
      rw [State.setFrames_self ht]
    subst hg
    refine Or.inl ⟨v, ⟨(({ U with heap := s₂.heap, slotsUsed := s₂.slotsUsed } : State).setVm s₂.vm), Ls ++ L, c0 + mc, s0 + ms⟩,
      ⟨X.admits, X.cas, X.clock, X.frames, X.room, X.hears, X.method, X.code, (X.here.setHeapUsed s₂.heap s₂.slotsUsed).setVm hW'.alike, X.tail, State.WarmedH.trans X.warmed hW', X.limits, X.bytes, X.same.trans (hsame.setVm s.vm)⟩,
      ⟨g, mk, s₂, L, rfl, rfl, hqc, rfl, hL, rfl, rfl⟩, ?_⟩
    show Steps p.tables e below _ ((({ U with heap := s₂.heap, slotsUsed := s₂.slotsUsed } : State).setVm s₂.vm).setTop { g with pc := g.pc + len₂, stack := v.toList ++ g.stack })
    rw [← hs₂]
    exact hsteps
  · obtain ⟨e2, q2, q3, q4, q5, q6⟩ := id hsm
    have e3 : s₂ = ({ (U.calling g mk a).setFrames s₂.frames with heap := s₂.heap, slotsUsed := s₂.slotsUsed } : State).setVm s₂.vm := by
      have : s₂ = ({ s₂ with vm := (U.calling g mk a).vm } : State).setVm s₂.vm := rfl
      rw [e2] at this
      exact this
    have hf₂ : s₂.frames = .throwing q :: .java g :: U.frames.tail := hend
    have hW' : U.WarmedH s₂.vm := hW₂
    have hs₂ : s₂ = ((({ U with heap := s₂.heap, slotsUsed := s₂.slotsUsed } : State).setVm s₂.vm).setTop g).pushFrame (.throwing q) := by
      refine e3.trans ?_
      rw [hf₂, State.calling_eq h.top, State.setFrames_setFrames, State.pushFrame, State.frames_setTop _ hr', State.setTop_of_frames _ hr', State.setFrames_setFrames, hr]
      rfl
    have hsame : U.sameButNew ({ U with heap := s₂.heap, slotsUsed := s₂.slotsUsed } : State) L mc ms := by
      refine ⟨?_, q2, q3, q4, q5, q6⟩
      obtain ⟨t, ht, -⟩ := State.frames_cons hr
      show ({ U with heap := s₂.heap, slotsUsed := s₂.slotsUsed } : State) = { U.setFrames U.frames with heap := s₂.heap, slotsUsed := s₂.slotsUsed }
      rw [State.setFrames_self ht]
    subst hg
    refine Or.inr ⟨q, ⟨(({ U with heap := s₂.heap, slotsUsed := s₂.slotsUsed } : State).setVm s₂.vm), Ls ++ L, c0 + mc, s0 + ms⟩,
      ⟨X.admits, X.cas, X.clock, X.frames, X.room, X.hears, X.method, X.code, (X.here.setHeapUsed s₂.heap s₂.slotsUsed).setVm hW'.alike, X.tail, State.WarmedH.trans X.warmed hW', X.limits, X.bytes, X.same.trans (hsame.setVm s.vm)⟩,
      ⟨g, mk, s₂, L, E, ce, rfl, rfl, hx, hce, hcv, hcl, rfl, hL, rfl, rfl⟩, ?_⟩
    show Steps p.tables e below _ (((({ U with heap := s₂.heap, slotsUsed := s₂.slotsUsed } : State).setVm s₂.vm).setTop g).pushFrame (.throwing q))
    rw [← hs₂]
    exact hsteps
end Payer
section Calls
variable {p : Program} {l : Launch} {e : Env} {R : Room} {s : State} {m : MethodId} {args : Array Value} {below : List Frame} {meth : Method} {c : Code} {T : State} {locs : List Loc} {cells slots : Nat}
theorem vx_callV (X : Stand p l e R s m args below meth c T locs cells slots) (hexec : p.tables.exec = Jvm.exec) {own C : String} {index : Nat} {y : MethodName} {bytes : ByteArray} {maxL : Nat} {ret : Option FieldType}
    (hown : s.vm.findClass own = some m.cls) (hlink : (Cond.methodLink own index y).before args s = true) (hinst : (Cond.instanceMethod y).before args s = true) (hsel : (Cond.selects C y y).before args s = true)
    (hcode : (Cond.code y bytes maxL ret).before args s = true) (hy : y.cls ≠ "java/lang/invoke/MethodHandle" ∧ y.cls ≠ "java/lang/invoke/VarHandle")
    {W9 : Nat} {Pre : Pt → Array Value → Prop} {Post : Pt → Array Value → Option Value → Pt → Prop} {PostX : Pt → Array Value → Addr → Pt → Prop} (hK : vx_Back l R p e below s args y 3 W9 Pre Post PostX)
    {b : Addr} {cellB : Cell} (hcell : T.heap[b]? = some cellB) (hobj : cellB.vm.isStatics = false) (hcls : s.vm.findClass C = some cellB.cls)
    {g : JFrame} (hg : g.method = m) (hsize : g.locals.size = c.maxLocals) {argsL rest : List Value} (hlen : ∀ sig, parseMethodDescriptor y.desc = some sig → argsL.length = sig.parameters.length)
    (hstack : g.stack = argsL.reverse ++ .ref b :: rest) (hW : 2 * g.monitorRoom + (rest.map fun v => v.category).sum ≤ W9) (hdg : decode c.code g.pc = .ok (.invokevirtual index, 3))
    (hpre : ∀ vm₁, s.WarmedH vm₁ → Pre ⟨T.setVm vm₁, locs, cells, slots⟩ (Value.ref b :: argsL).toArray) :
    (∃ (v : Option Value) (vm₁ : Vm) (B : Pt), s.WarmedH vm₁ ∧ Stand p l e R s m args below meth c B.U B.locs B.cells B.slots ∧ Post ⟨T.setVm vm₁, locs, cells, slots⟩ (Value.ref b :: argsL).toArray v B ∧
      ∀ target, Steps p.tables e below (B.U.setTop { g with pc := g.pc + 3, stack := v.toList ++ rest }) target → Steps p.tables e below (T.setTop g) target) ∨
    (∃ (q : Addr) (vm₁ : Vm) (B : Pt), s.WarmedH vm₁ ∧ Stand p l e R s m args below meth c B.U B.locs B.cells B.slots ∧ PostX ⟨T.setVm vm₁, locs, cells, slots⟩ (Value.ref b :: argsL).toArray q B ∧
      Steps p.tables e below (T.setTop g) ((B.U.setTop { g with stack := rest }).pushFrame (.throwing q))) := by
  obtain ⟨mk, methM, hnamed, hmethM, hstM, habM⟩ := Cond.instanceMethod_spec hinst
  obtain ⟨methM', cM, hmethM', -, -, -, -, -, -, hsigM⟩ := Cond.code_spec hnamed hcode
  cases hmethM.symm.trans hmethM'
  obtain ⟨c2, r2, m2, q1, q2, q3, q4, kP, hkP, hkPi⟩ := Cond.selects_spec hsel
  cases hcls.symm.trans q1
  cases (State.methodFound?_of_named hnamed hy).symm.trans q2
  cases hnamed.symm.trans q3
  have hselP : selectMethod e.platform s.vm cellB.cls mk = .method mk := by rw [Launch.admits_selectMethod X.admits]; exact q4
  obtain ⟨vm₁, X₁, hstep₁⟩ := X.invokevirtual hexec hown hlink hnamed hmethM hstM hkP hkPi hy (a := b) (cell := cellB) hcell
    (fun z h => by rw [h] at hobj; cases hobj) hselP hmethM habM hkP hkPi (g := g) hg (argsL := argsL) (rest := rest) (hlen _ hsigM) hstack hdg
  rcases hK m meth c ⟨T.setVm vm₁, locs, cells, slots⟩ { g with stack := rest } (.invokevirtual index) mk (Value.ref b :: argsL).toArray X₁ hg hsize hdg hW (X₁.named hnamed) (hpre vm₁ X₁.warmed) with ⟨v, B, X', hpost, hsteps⟩ | ⟨q, B, X', hpost, hsteps⟩
  · exact Or.inl ⟨v, vm₁, B, X₁.warmed, X', hpost, fun target h => hstep₁ _ fun acts => by rw [doInvoke_state]; exact hsteps.trans h⟩
  · exact Or.inr ⟨q, vm₁, B, X₁.warmed, X', hpost, hstep₁ _ fun acts => by rw [doInvoke_state]; exact hsteps⟩
theorem vx_callS (X : Stand p l e R s m args below meth c T locs cells slots) (hexec : p.tables.exec = Jvm.exec) {own : String} {index : Nat} {y : MethodName} {bytes : ByteArray} {maxL : Nat} {ret : Option FieldType}
    (hown : s.vm.findClass own = some m.cls) (hlink : (Cond.methodLink own index y).before args s = true) (hstat : (Cond.static y).before args s = true) (hinit : (Cond.initialized y.cls).before args s = true)
    (hcode : (Cond.code y bytes maxL ret).before args s = true) (hy : y.cls ≠ "java/lang/invoke/MethodHandle" ∧ y.cls ≠ "java/lang/invoke/VarHandle")
    {W9 : Nat} {Pre : Pt → Array Value → Prop} {Post : Pt → Array Value → Option Value → Pt → Prop} {PostX : Pt → Array Value → Addr → Pt → Prop} (hK : vx_Back l R p e below s args y 3 W9 Pre Post PostX)
    {g : JFrame} (hg : g.method = m) (hsize : g.locals.size = c.maxLocals) {argsL rest : List Value} (hlen : ∀ sig, parseMethodDescriptor y.desc = some sig → argsL.length = sig.parameters.length)
    (hstack : g.stack = argsL.reverse ++ rest) (hW : 2 * g.monitorRoom + (rest.map fun v => v.category).sum ≤ W9) (hdg : decode c.code g.pc = .ok (.invokestatic index, 3))
    (hpre : ∀ vm₁, s.WarmedH vm₁ → Pre ⟨T.setVm vm₁, locs, cells, slots⟩ argsL.toArray) :
    (∃ (v : Option Value) (vm₁ : Vm) (B : Pt), s.WarmedH vm₁ ∧ Stand p l e R s m args below meth c B.U B.locs B.cells B.slots ∧ Post ⟨T.setVm vm₁, locs, cells, slots⟩ argsL.toArray v B ∧
      ∀ target, Steps p.tables e below (B.U.setTop { g with pc := g.pc + 3, stack := v.toList ++ rest }) target → Steps p.tables e below (T.setTop g) target) ∨
    (∃ (q : Addr) (vm₁ : Vm) (B : Pt), s.WarmedH vm₁ ∧ Stand p l e R s m args below meth c B.U B.locs B.cells B.slots ∧ PostX ⟨T.setVm vm₁, locs, cells, slots⟩ argsL.toArray q B ∧
      Steps p.tables e below (T.setTop g) ((B.U.setTop { g with stack := rest }).pushFrame (.throwing q))) := by
  obtain ⟨mk, hnamed⟩ := Cond.code_named hcode
  obtain ⟨methM, cM, hmethM, -, -, -, -, -, -, hsigM⟩ := Cond.code_spec hnamed hcode
  have hstatic : methM.isStatic = true := Cond.static_spec hnamed hmethM hstat
  obtain ⟨kP, hkP, -⟩ := className_of_methodNamed hnamed
  have hinitP : kP.init = .initialized := Cond.initialized_spec (findClass_of_methodNamed hnamed) hkP hinit
  obtain ⟨vm₁, X₁, hstep₁⟩ := X.invokestatic hexec hown hlink hnamed hmethM hstatic hkP hinitP hy (g := g) hg (argsL := argsL) (rest := rest) (hlen _ hsigM) hstack hdg
  rcases hK m meth c ⟨T.setVm vm₁, locs, cells, slots⟩ { g with stack := rest } (.invokestatic index) mk argsL.toArray X₁ hg hsize hdg hW (X₁.named hnamed) (hpre vm₁ X₁.warmed) with ⟨v, B, X', hpost, hsteps⟩ | ⟨q, B, X', hpost, hsteps⟩
  · exact Or.inl ⟨v, vm₁, B, X₁.warmed, X', hpost, fun target h => hstep₁ _ fun acts => by rw [doInvoke_state]; exact hsteps.trans h⟩
  · exact Or.inr ⟨q, vm₁, B, X₁.warmed, X', hpost, hstep₁ _ fun acts => by rw [doInvoke_state]; exact hsteps⟩
end Calls
theorem vx_cls {s : State} {T : State} {vm₁ : Vm} {E : String} {k : ClassId} (hW : s.WarmedH vm₁) (h : (T.setVm vm₁).vm.findClass E = some k) : s.vm.findClass E = some k := by
  have h1 : vm₁.findClass E = some k := h
  rw [hW.alike.findClass] at h1
  exact h1
/-- the method's frame g, with q thrown over it -/
def vx_W (p : Program) (l : Launch) (e : Env) (R : Room) (s : State) (m : MethodId) (args : Array Value) (below : List Frame) (meth : Method) (c : Code) (H : Heap) (locs : List Loc) (cells slots : Nat) (Q : State → Prop) (g : JFrame) (q : Addr) : Prop :=
  ∀ T : State, T.heap = H → Stand p l e R s m args below meth c T locs cells slots → ∃ t, Steps p.tables e below ((T.setTop g).pushFrame (.throwing q)) t ∧ Q t
def vx_Run (p : Program) (l : Launch) (e : Env) (R : Room) (s : State) (m : MethodId) (args : Array Value) (below : List Frame) (meth : Method) (c : Code) (H : Heap) (locs : List Loc) (cells slots mc ms : Nat) (g : JFrame) (rest : List Value) (Qa : State → Outcome → State → Prop) (XC : String → State → State → Prop) (free : Addr → Prop) : Prop :=
  ∀ T : State, T.heap = H → Stand p l e R s m args below meth c T locs cells slots →
    (∃ (v : Option Value) (st₀ t T' : State) (L : List Loc), st₀.heap = H ∧ Stand p l e R s m args below meth c T' (locs ++ L) (cells + mc) (slots + ms) ∧ (∀ q ∈ L, free q.base) ∧ T'.heap = t.heap ∧ T'.vm = t.vm ∧ Qa st₀ (.returned v) t ∧
      Goes p e below T g T' { g with pc := g.pc + 3, stack := v.toList ++ rest }) ∨
    (∃ (q : Addr) (st₀ t T' : State) (L : List Loc) (E : String) (ce : Cell), st₀.heap = H ∧ Stand p l e R s m args below meth c T' (locs ++ L) (cells + mc) (slots + ms) ∧ (∀ z ∈ L, free z.base) ∧ T'.heap = t.heap ∧ T'.vm = t.vm ∧ XC E st₀ t ∧ t.heap[q]? = some ce ∧ ce.vm = .none ∧ s.vm.findClass E = some ce.cls ∧
      Steps p.tables e below (T.setTop g) ((T'.setTop { g with stack := rest }).pushFrame (.throwing q)))
def vx_X {S : Type} (px : S → Prop) (B : String → S → State → Prop) (A : Nat → Prop) : String → State → State → Prop := fun E st t => ∃ u : S, px u ∧ B E u t ∧ va_F A st t
section Runs
variable {p : Program} {l : Launch} {e : Env} {R : Room} {s : State} {m : MethodId} {args : Array Value} {below : List Frame} {meth : Method} {c : Code} {H : Heap} {locs : List Loc} {cells slots : Nat}
variable {y : MethodName} {bytes cc : ByteArray} {maxL nL mc ms n index : Nat} {ret : Option FieldType} {ws : List Cond} {rm : Room} {Pc : Array Value → State → Prop} {Qc : Array Value → State → Outcome → State → Prop} {XC : String → State → State → Prop} {free : Addr → Prop} {Ts : List Cond} {own C : String} {b : Addr} {As rest : List Value} {g : JFrame}
theorem vx_callBack (cb : CallB R s args own index y bytes maxL ret ws rm mc ms n) (hM : vx_Met l y ws rm Pc Qc XC mc ms free) (hbl : FrameBlind Pc) : vx_Back l R p e below s args y 3 8 (PreOf R mc ms Pc) (PostOf Qc mc ms free) (vx_Post XC mc ms free) := by
  obtain ⟨hrc, hrs, hfr, hlo, hws, hcw, -, hini, -⟩ := cb
  exact vx_back (bytes := bytes) (maxL := maxL) (ret := ret) hM hbl hrc hrs hfr hlo hws hcw (fun a' U hW => word_at hW (Or.inl (by first | rfl | simp [Cond.onTables, Cond.keeps, Cond.steady])) hini)
theorem vx_runV (S : CallFix p m c cc nL s args Ts own) (hM : vx_Met l y ws rm Pc Qc XC mc ms free) (cw : CallW R s args own C index y bytes maxL ret ws rm mc ms n) (hp : PreV s H C b Pc As)
    (hg : g.method = m) (hn : As.length = n) (hsize : g.locals.size = nL) (hstack : g.stack = As.reverse ++ .ref b :: rest) (hW : 2 * g.monitorRoom + (rest.map fun v => v.category).sum ≤ 8) (hdg : decode cc g.pc = .ok (.invokevirtual index, 3)) (hf : cells + mc ≤ R.cells ∧ slots + ms ≤ R.slots) :
    vx_Run p l e R s m args below meth c H locs cells slots mc ms g rest (Qc (Value.ref b :: As).toArray) XC free := by
  have hK : vx_Back l R p e below s args y 3 8 (PreOf R mc ms Pc) (PostOf Qc mc ms free) (vx_Post XC mc ms free) := vx_callBack cw.1 hM hp.1
  obtain ⟨⟨-, -, -, -, -, -, hcode, -, hy, hlen, hl⟩, hin, hse⟩ := cw
  obtain ⟨hx, hb, hml, ho, -⟩ := S
  obtain ⟨-, ⟨cellB, hcB, hoB, hclB⟩, hPc⟩ := hp
  intro T hT X
  rcases vx_callV X hx (C := C) (bytes := bytes) (maxL := maxL) (ret := ret) ho hl hin hse hcode hy hK (by rw [hT]; exact hcB) hoB hclB hg (hsize.trans hml.symm) (argsL := As) (rest := rest) (fun sig h => hn.trans (hlen sig h)) hstack hW (by rw [hb]; exact hdg)
    (fun vm₁ hW₁ => ⟨hf.1, hf.2, hPc (T.setVm vm₁) hT hW₁⟩) with ⟨v, vm₁, ⟨U', l2, c2, s2⟩, hW₁, X', ⟨g', mk, t, L, e1, e2, hq, h1, hL, h2, h3⟩, st⟩ | ⟨q, vm₁, ⟨U', l2, c2, s2⟩, hW₁, X', ⟨g', mk, t, L, E, ce, e1, e2, hq, hce, hcv, hcl, h1, hL, h2, h3⟩, st⟩
  · dsimp only [Pt.U, Pt.locs, Pt.cells, Pt.slots] at X' e1 e2 h1 h2 h3 st
    subst h1; subst h2; subst h3
    exact Or.inl ⟨v, (T.setVm vm₁).calling g' mk (Value.ref b :: As).toArray, t, U', L, hT, X', hL, e1, e2, hq, st⟩
  · dsimp only [Pt.U, Pt.locs, Pt.cells, Pt.slots] at X' e1 e2 h1 h2 h3 st hcl
    subst h1; subst h2; subst h3
    exact Or.inr ⟨q, (T.setVm vm₁).calling g' mk (Value.ref b :: As).toArray, t, U', L, E, ce, hT, X', hL, e1, e2, hq, hce, hcv, vx_cls hW₁ hcl, st⟩
theorem vx_runS (S : CallFix p m c cc nL s args Ts own) (hM : vx_Met l y ws rm Pc Qc XC mc ms free) (cw : CallB R s args own index y bytes maxL ret ws rm mc ms n ∧ (Cond.static y).before args s = true) (hp : PreS s H Pc As)
    (hg : g.method = m) (hn : As.length = n) (hsize : g.locals.size = nL) (hstack : g.stack = As.reverse ++ rest) (hW : 2 * g.monitorRoom + (rest.map fun v => v.category).sum ≤ 8) (hdg : decode cc g.pc = .ok (.invokestatic index, 3)) (hf : cells + mc ≤ R.cells ∧ slots + ms ≤ R.slots) :
    vx_Run p l e R s m args below meth c H locs cells slots mc ms g rest (Qc As.toArray) XC free := by
  have hK : vx_Back l R p e below s args y 3 8 (PreOf R mc ms Pc) (PostOf Qc mc ms free) (vx_Post XC mc ms free) := vx_callBack cw.1 hM hp.1
  obtain ⟨⟨-, -, -, -, -, -, hcode, hini, hy, hlen, hl⟩, hstt⟩ := cw
  obtain ⟨hx, hb, hml, ho, -⟩ := S
  intro T hT X
  rcases vx_callS X hx (bytes := bytes) (maxL := maxL) (ret := ret) ho hl hstt hini hcode hy hK hg (hsize.trans hml.symm) (argsL := As) (rest := rest) (fun sig h => hn.trans (hlen sig h)) hstack hW (by rw [hb]; exact hdg)
    (fun vm₁ hW₁ => ⟨hf.1, hf.2, hp.2 (T.setVm vm₁) hT hW₁⟩) with ⟨v, vm₁, ⟨U', l2, c2, s2⟩, hW₁, X', ⟨g', mk, t, L, e1, e2, hq, h1, hL, h2, h3⟩, st⟩ | ⟨q, vm₁, ⟨U', l2, c2, s2⟩, hW₁, X', ⟨g', mk, t, L, E, ce, e1, e2, hq, hce, hcv, hcl, h1, hL, h2, h3⟩, st⟩
  · dsimp only [Pt.U, Pt.locs, Pt.cells, Pt.slots] at X' e1 e2 h1 h2 h3 st
    subst h1; subst h2; subst h3
    exact Or.inl ⟨v, (T.setVm vm₁).calling g' mk As.toArray, t, U', L, hT, X', hL, e1, e2, hq, st⟩
  · dsimp only [Pt.U, Pt.locs, Pt.cells, Pt.slots] at X' e1 e2 h1 h2 h3 st hcl
    subst h1; subst h2; subst h3
    exact Or.inr ⟨q, (T.setVm vm₁).calling g' mk As.toArray, t, U', L, E, ce, hT, X', hL, e1, e2, hq, hce, hcv, vx_cls hW₁ hcl, st⟩
end Runs
section Rows
variable {p : Program} {l : Launch} {e : Env} {R : Room} {s : State} {m : MethodId} {args : Array Value} {below : List Frame} {meth : Method} {c : Code} {H : Heap} {locs : List Loc} {cells slots : Nat} {Q : State → Prop}
variable {mc ms : Nat} {free : Addr → Prop} {A0 A1 : Nat → Prop} {H0 : Heap} {a : Array Value} {pc : Nat} {ls : Array Slot} {st0 rest : List Value}
theorem vx_keep {st₀ t T' : State} {L : List Loc} (h0 : st₀.heap = H) (e1 : T'.heap = t.heap) (hS : va_S A0 H0 H locs) (hA : ∀ q, q < H.size → A1 q → A0 q) (hf : ∀ q, free q → A0 q) (hL : ∀ q ∈ L, free q.base) (hF : va_F A1 st₀ t) :
    H.size ≤ T'.heap.size ∧ (∀ q : Nat, q < H.size → ¬ A1 q → T'.heap[q]? = H[q]?) ∧ va_S A0 H0 T'.heap (locs ++ L) := by
  obtain ⟨hz, hk⟩ := hF
  rw [h0] at hz hk
  exact ⟨by rw [e1]; exact hz, fun q h1 h2 => by rw [e1]; exact hk q h1 h2,
    ⟨Nat.le_trans hS.1 (by rw [e1]; exact hz), fun q h1 h2 => by rw [e1, hk q (Nat.lt_of_lt_of_le h1 hS.1) (fun z => h2 (hA q (Nat.lt_of_lt_of_le h1 hS.1) z))]; exact hS.2.1 q h1 h2, fun q hq => by
      rcases List.mem_append.mp hq with h | h
      · exact hS.2.2 q h
      · exact hf _ (hL q h)⟩⟩
theorem vx_calli {S SX : Type} {post : Int32 → S → Prop} {px : SX → Prop} {B : S → State → Prop} {BX : String → SX → State → Prop} {AX : Nat → Prop} (hr : vx_Run p l e R s m args below meth c H locs cells slots mc ms (F0 m pc ls st0) rest (va_Qi post B A1 a) (vx_X px BX AX) free) (hS : va_S A0 H0 H locs) (hA : ∀ q, q < H.size → A1 q → A0 q) (hf : ∀ q, free q → A0 q) (hAX : ∀ q, q < H.size → AX q → A0 q)
    (kx : ∀ (E : String) (ce : Cell) (q9 : Addr) (u : SX) (t : State) (H1 : Heap) (locs1 : List Loc), t.heap = H1 → s.vm.Alike t.vm → px u → BX E u t → H.size ≤ H1.size → (∀ q : Nat, q < H.size → ¬ AX q → H1[q]? = H[q]?) → va_S A0 H0 H1 locs1 → H1[q9]? = some ce → ce.vm = .none → s.vm.findClass E = some ce.cls → vx_W p l e R s m args below meth c H1 locs1 (cells + mc) (slots + ms) Q (F0 m pc ls rest) q9)
    (kk : ∀ (r : Int32) (u : S) (t : State) (H1 : Heap) (locs1 : List Loc), t.heap = H1 → s.vm.Alike t.vm → post r u → B u t → H.size ≤ H1.size → (∀ q : Nat, q < H.size → ¬ A1 q → H1[q]? = H[q]?) → va_S A0 H0 H1 locs1 → W p l e R s m args below meth c H1 locs1 (cells + mc) (slots + ms) Q (F0 m (pc + 3) ls (.int r :: rest))) : W p l e R s m args below meth c H locs cells slots Q (F0 m pc ls st0) := by
  intro T hT X
  rcases hr T hT X with ⟨v, st₀, t, T', L, h0, X', hL, e1, e2, ⟨⟨r, u, hv, hp, hb⟩, hF⟩, st⟩ | ⟨q, st₀, t, T', L, E, ce, h0, X', hL, e1, e2, ⟨u, hp, hb, hF⟩, hce, hcv, hcl, st⟩
  · cases hv
    obtain ⟨k1, k2, k3⟩ := vx_keep h0 e1 hS hA hf hL hF
    obtain ⟨t2, a1, b1⟩ := kk r u t T'.heap (locs ++ L) e1.symm (by rw [← e2]; exact X'.warmed.alike) hp hb k1 k2 k3 T' rfl X'
    exact ⟨t2, st t2 a1, b1⟩
  · obtain ⟨k1, k2, k3⟩ := vx_keep h0 e1 hS hAX hf hL hF
    obtain ⟨t2, a1, b1⟩ := kx E ce q u t T'.heap (locs ++ L) e1.symm (by rw [← e2]; exact X'.warmed.alike) hp hb k1 k2 k3 (by rw [e1]; exact hce) hcv hcl T' rfl X'
    exact ⟨t2, st.trans a1, b1⟩
theorem vx_calll {S SX : Type} {post : Int64 → S → Prop} {px : SX → Prop} {B : S → State → Prop} {BX : String → SX → State → Prop} {AX : Nat → Prop} (hr : vx_Run p l e R s m args below meth c H locs cells slots mc ms (F0 m pc ls st0) rest (va_Ql post B A1 a) (vx_X px BX AX) free) (hS : va_S A0 H0 H locs) (hA : ∀ q, q < H.size → A1 q → A0 q) (hf : ∀ q, free q → A0 q) (hAX : ∀ q, q < H.size → AX q → A0 q)
    (kx : ∀ (E : String) (ce : Cell) (q9 : Addr) (u : SX) (t : State) (H1 : Heap) (locs1 : List Loc), t.heap = H1 → s.vm.Alike t.vm → px u → BX E u t → H.size ≤ H1.size → (∀ q : Nat, q < H.size → ¬ AX q → H1[q]? = H[q]?) → va_S A0 H0 H1 locs1 → H1[q9]? = some ce → ce.vm = .none → s.vm.findClass E = some ce.cls → vx_W p l e R s m args below meth c H1 locs1 (cells + mc) (slots + ms) Q (F0 m pc ls rest) q9)
    (kk : ∀ (r : Int64) (u : S) (t : State) (H1 : Heap) (locs1 : List Loc), t.heap = H1 → s.vm.Alike t.vm → post r u → B u t → H.size ≤ H1.size → (∀ q : Nat, q < H.size → ¬ A1 q → H1[q]? = H[q]?) → va_S A0 H0 H1 locs1 → W p l e R s m args below meth c H1 locs1 (cells + mc) (slots + ms) Q (F0 m (pc + 3) ls (.long r :: rest))) : W p l e R s m args below meth c H locs cells slots Q (F0 m pc ls st0) := by
  intro T hT X
  rcases hr T hT X with ⟨v, st₀, t, T', L, h0, X', hL, e1, e2, ⟨⟨r, u, hv, hp, hb⟩, hF⟩, st⟩ | ⟨q, st₀, t, T', L, E, ce, h0, X', hL, e1, e2, ⟨u, hp, hb, hF⟩, hce, hcv, hcl, st⟩
  · cases hv
    obtain ⟨k1, k2, k3⟩ := vx_keep h0 e1 hS hA hf hL hF
    obtain ⟨t2, a1, b1⟩ := kk r u t T'.heap (locs ++ L) e1.symm (by rw [← e2]; exact X'.warmed.alike) hp hb k1 k2 k3 T' rfl X'
    exact ⟨t2, st t2 a1, b1⟩
  · obtain ⟨k1, k2, k3⟩ := vx_keep h0 e1 hS hAX hf hL hF
    obtain ⟨t2, a1, b1⟩ := kx E ce q u t T'.heap (locs ++ L) e1.symm (by rw [← e2]; exact X'.warmed.alike) hp hb k1 k2 k3 (by rw [e1]; exact hce) hcv hcl T' rfl X'
    exact ⟨t2, st.trans a1, b1⟩
theorem vx_callf {S SX : Type} {post : UInt32 → S → Prop} {px : SX → Prop} {B : S → State → Prop} {BX : String → SX → State → Prop} {AX : Nat → Prop} (hr : vx_Run p l e R s m args below meth c H locs cells slots mc ms (F0 m pc ls st0) rest (va_Qf post B A1 a) (vx_X px BX AX) free) (hS : va_S A0 H0 H locs) (hA : ∀ q, q < H.size → A1 q → A0 q) (hf : ∀ q, free q → A0 q) (hAX : ∀ q, q < H.size → AX q → A0 q)
    (kx : ∀ (E : String) (ce : Cell) (q9 : Addr) (u : SX) (t : State) (H1 : Heap) (locs1 : List Loc), t.heap = H1 → s.vm.Alike t.vm → px u → BX E u t → H.size ≤ H1.size → (∀ q : Nat, q < H.size → ¬ AX q → H1[q]? = H[q]?) → va_S A0 H0 H1 locs1 → H1[q9]? = some ce → ce.vm = .none → s.vm.findClass E = some ce.cls → vx_W p l e R s m args below meth c H1 locs1 (cells + mc) (slots + ms) Q (F0 m pc ls rest) q9)
    (kk : ∀ (r : UInt32) (u : S) (t : State) (H1 : Heap) (locs1 : List Loc), t.heap = H1 → s.vm.Alike t.vm → post r u → B u t → H.size ≤ H1.size → (∀ q : Nat, q < H.size → ¬ A1 q → H1[q]? = H[q]?) → va_S A0 H0 H1 locs1 → W p l e R s m args below meth c H1 locs1 (cells + mc) (slots + ms) Q (F0 m (pc + 3) ls (.float r :: rest))) : W p l e R s m args below meth c H locs cells slots Q (F0 m pc ls st0) := by
  intro T hT X
  rcases hr T hT X with ⟨v, st₀, t, T', L, h0, X', hL, e1, e2, ⟨⟨r, u, hv, hp, hb⟩, hF⟩, st⟩ | ⟨q, st₀, t, T', L, E, ce, h0, X', hL, e1, e2, ⟨u, hp, hb, hF⟩, hce, hcv, hcl, st⟩
  · cases hv
    obtain ⟨k1, k2, k3⟩ := vx_keep h0 e1 hS hA hf hL hF
    obtain ⟨t2, a1, b1⟩ := kk r u t T'.heap (locs ++ L) e1.symm (by rw [← e2]; exact X'.warmed.alike) hp hb k1 k2 k3 T' rfl X'
    exact ⟨t2, st t2 a1, b1⟩
  · obtain ⟨k1, k2, k3⟩ := vx_keep h0 e1 hS hAX hf hL hF
    obtain ⟨t2, a1, b1⟩ := kx E ce q u t T'.heap (locs ++ L) e1.symm (by rw [← e2]; exact X'.warmed.alike) hp hb k1 k2 k3 (by rw [e1]; exact hce) hcv hcl T' rfl X'
    exact ⟨t2, st.trans a1, b1⟩
theorem vx_calld {S SX : Type} {post : UInt64 → S → Prop} {px : SX → Prop} {B : S → State → Prop} {BX : String → SX → State → Prop} {AX : Nat → Prop} (hr : vx_Run p l e R s m args below meth c H locs cells slots mc ms (F0 m pc ls st0) rest (va_Qd post B A1 a) (vx_X px BX AX) free) (hS : va_S A0 H0 H locs) (hA : ∀ q, q < H.size → A1 q → A0 q) (hf : ∀ q, free q → A0 q) (hAX : ∀ q, q < H.size → AX q → A0 q)
    (kx : ∀ (E : String) (ce : Cell) (q9 : Addr) (u : SX) (t : State) (H1 : Heap) (locs1 : List Loc), t.heap = H1 → s.vm.Alike t.vm → px u → BX E u t → H.size ≤ H1.size → (∀ q : Nat, q < H.size → ¬ AX q → H1[q]? = H[q]?) → va_S A0 H0 H1 locs1 → H1[q9]? = some ce → ce.vm = .none → s.vm.findClass E = some ce.cls → vx_W p l e R s m args below meth c H1 locs1 (cells + mc) (slots + ms) Q (F0 m pc ls rest) q9)
    (kk : ∀ (r : UInt64) (u : S) (t : State) (H1 : Heap) (locs1 : List Loc), t.heap = H1 → s.vm.Alike t.vm → post r u → B u t → H.size ≤ H1.size → (∀ q : Nat, q < H.size → ¬ A1 q → H1[q]? = H[q]?) → va_S A0 H0 H1 locs1 → W p l e R s m args below meth c H1 locs1 (cells + mc) (slots + ms) Q (F0 m (pc + 3) ls (.double r :: rest))) : W p l e R s m args below meth c H locs cells slots Q (F0 m pc ls st0) := by
  intro T hT X
  rcases hr T hT X with ⟨v, st₀, t, T', L, h0, X', hL, e1, e2, ⟨⟨r, u, hv, hp, hb⟩, hF⟩, st⟩ | ⟨q, st₀, t, T', L, E, ce, h0, X', hL, e1, e2, ⟨u, hp, hb, hF⟩, hce, hcv, hcl, st⟩
  · cases hv
    obtain ⟨k1, k2, k3⟩ := vx_keep h0 e1 hS hA hf hL hF
    obtain ⟨t2, a1, b1⟩ := kk r u t T'.heap (locs ++ L) e1.symm (by rw [← e2]; exact X'.warmed.alike) hp hb k1 k2 k3 T' rfl X'
    exact ⟨t2, st t2 a1, b1⟩
  · obtain ⟨k1, k2, k3⟩ := vx_keep h0 e1 hS hAX hf hL hF
    obtain ⟨t2, a1, b1⟩ := kx E ce q u t T'.heap (locs ++ L) e1.symm (by rw [← e2]; exact X'.warmed.alike) hp hb k1 k2 k3 (by rw [e1]; exact hce) hcv hcl T' rfl X'
    exact ⟨t2, st.trans a1, b1⟩
theorem vx_callv {S SX : Type} {post : S → Prop} {px : SX → Prop} {B : S → State → Prop} {BX : String → SX → State → Prop} {AX : Nat → Prop} (hr : vx_Run p l e R s m args below meth c H locs cells slots mc ms (F0 m pc ls st0) rest (va_Qv post B A1 a) (vx_X px BX AX) free) (hS : va_S A0 H0 H locs) (hA : ∀ q, q < H.size → A1 q → A0 q) (hf : ∀ q, free q → A0 q) (hAX : ∀ q, q < H.size → AX q → A0 q)
    (kx : ∀ (E : String) (ce : Cell) (q9 : Addr) (u : SX) (t : State) (H1 : Heap) (locs1 : List Loc), t.heap = H1 → s.vm.Alike t.vm → px u → BX E u t → H.size ≤ H1.size → (∀ q : Nat, q < H.size → ¬ AX q → H1[q]? = H[q]?) → va_S A0 H0 H1 locs1 → H1[q9]? = some ce → ce.vm = .none → s.vm.findClass E = some ce.cls → vx_W p l e R s m args below meth c H1 locs1 (cells + mc) (slots + ms) Q (F0 m pc ls rest) q9)
    (kk : ∀ (u : S) (t : State) (H1 : Heap) (locs1 : List Loc), t.heap = H1 → s.vm.Alike t.vm → post u → B u t → H.size ≤ H1.size → (∀ q : Nat, q < H.size → ¬ A1 q → H1[q]? = H[q]?) → va_S A0 H0 H1 locs1 → W p l e R s m args below meth c H1 locs1 (cells + mc) (slots + ms) Q (F0 m (pc + 3) ls (rest))) : W p l e R s m args below meth c H locs cells slots Q (F0 m pc ls st0) := by
  intro T hT X
  rcases hr T hT X with ⟨v, st₀, t, T', L, h0, X', hL, e1, e2, ⟨⟨u, hv, hp, hb⟩, hF⟩, st⟩ | ⟨q, st₀, t, T', L, E, ce, h0, X', hL, e1, e2, ⟨u, hp, hb, hF⟩, hce, hcv, hcl, st⟩
  · cases hv
    obtain ⟨k1, k2, k3⟩ := vx_keep h0 e1 hS hA hf hL hF
    obtain ⟨t2, a1, b1⟩ := kk u t T'.heap (locs ++ L) e1.symm (by rw [← e2]; exact X'.warmed.alike) hp hb k1 k2 k3 T' rfl X'
    exact ⟨t2, st t2 a1, b1⟩
  · obtain ⟨k1, k2, k3⟩ := vx_keep h0 e1 hS hAX hf hL hF
    obtain ⟨t2, a1, b1⟩ := kx E ce q u t T'.heap (locs ++ L) e1.symm (by rw [← e2]; exact X'.warmed.alike) hp hb k1 k2 k3 (by rw [e1]; exact hce) hcv hcl T' rfl X'
    exact ⟨t2, st.trans a1, b1⟩
/-- caught by the row x of this method's table; the rows ahead don't take it -/
theorem vx_catch {own name : String} {E : String} {ce : Cell} {q : Addr} (hown : s.vm.findClass own = some m.cls) (pre : List ExceptionTableEntry) (x : ExceptionTableEntry) (suf : List ExceptionTableEntry) (hsplit : c.exceptionTable.toList = pre ++ x :: suf)
    (hpass : ∀ z ∈ pre, covers z pc = false ∨ (z.catchType ≠ 0 ∧ ∃ nm : String, (Cond.classLink own z.catchType nm).before args s = true ∧ va_Nc E nm s)) (hx : covers x pc = true) (h0 : x.catchType ≠ 0)
    (hlink : (Cond.classLink own x.catchType name).before args s = true) (hcast : (Cond.castable E name).before args s = true) (hcell : H[q]? = some ce) (hv : ce.vm = .none) (hcl : s.vm.findClass E = some ce.cls)
    (kk : W p l e R s m args below meth c H locs cells slots Q (F0 m x.handlerPc ls [.ref q])) : vx_W p l e R s m args below meth c H locs cells slots Q (F0 m pc ls rest) q := by
  intro T hT X
  have hpl : e.platform.magicAccessors = ({} : Platform).magicAccessors := by rw [X.admits.platform]
  obtain ⟨c3, c4, hc3, hc4, hasg⟩ := Cond.castable_spec hcast
  cases Option.some.inj (hc3.symm.trans hcl)
  obtain ⟨c5, hc5, hcl5⟩ := Cond.classLink_spec hown hlink e.platform hpl
  cases Option.some.inj (hc4.symm.trans hc5)
  obtain ⟨vm', X', st⟩ := X.thenCaughtThrough q (g := F0 m pc ls rest) rfl (Steps.refl _) (by rw [hT]; exact hcell) (by rw [hv]; rfl) (by obtain ⟨k9, h9, -⟩ := Vm.findClass_spec hcl; exact ⟨k9, h9⟩) pre x suf hsplit
    (fun z hz => by
      rcases hpass z hz with h | ⟨hz0, nm, hl1, hn1⟩
      · exact Or.inl h
      · obtain ⟨c6, hc6, hcl6⟩ := Cond.classLink_spec hown hl1 e.platform hpl
        obtain ⟨a8, b8, h1, h2, h3⟩ := hn1
        cases Option.some.inj (h1.symm.trans hcl)
        cases Option.some.inj (h2.symm.trans hc6)
        exact Or.inr ⟨hz0, _, hcl6, h3⟩) hx (Or.inr ⟨h0, c4, hcl5, hasg⟩)
  obtain ⟨t, a1, b1⟩ := kk (T.setVm vm') hT X'
  exact ⟨t, st.trans a1, b1⟩
end Rows
section Ends
variable {p : Program} {l : Launch} {e : Env} {R : Room} {s : State} {m : MethodId} {args : Array Value} {below : List Frame} {meth : Method} {c : Code} {H : Heap} {locs : List Loc} {cells slots : Nat} {Q : State → Prop}
variable {mc ms : Nat} {free : Addr → Prop} {A0 A1 : Nat → Prop} {H0 : Heap} {a : Array Value} {ls : Array Slot} {st0 rest : List Value}
variable {Qc : Array Value → State → Outcome → State → Prop} {XC : String → State → State → Prop}
/-- what a body that may throw owes at its end -/
def vx_MQ (below : List Frame) (Qc : Array Value → State → Outcome → State → Prop) (XC : String → State → State → Prop) (a : Array Value) (s : State) (mc ms : Nat) (free : Addr → Prop) : State → Prop := fun t =>
  ∃ o, t.status = .running ∧ Ended t below o ∧ vx_Q Qc XC mc ms free a s o t
theorem vx_ret {g : JFrame} {mc ms : Nat} (k : W p l e R s m args below meth c H locs cells slots (MQ below Qc args s mc ms free) g) : W p l e R s m args below meth c H locs cells slots (vx_MQ below Qc XC args s mc ms free) g := by
  intro T hT X
  obtain ⟨t, a1, o, b1, b2, b3, b4⟩ := k T hT X
  exact ⟨t, a1, o, b1, b2, Or.inl ⟨b3, b4⟩⟩
/-- not caught here: it goes on to the caller -/
theorem vx_widen {g : JFrame} {q : Addr} {k n : Nat} (h1 : cells ≤ k) (h2 : slots ≤ n) (kk : vx_W p l e R s m args below meth c H locs k n Q g q) : vx_W p l e R s m args below meth c H locs cells slots Q g q := fun T hT X => kk T hT (stand_widen X h1 h2)
theorem vx_out {pc : Nat} {E : String} {ce : Cell} {q : Addr} {mc ms : Nat} (hout : ∀ x ∈ c.exceptionTable.toList, covers x pc = false) (hlocks : meth.locks = false) (hcell : H[q]? = some ce) (hv : ce.vm = .none) (hcl : s.vm.findClass E = some ce.cls)
    (hx : ∀ t : State, t.heap = H → s.vm.Alike t.vm → XC E s t) (hf : ∀ z ∈ locs, free z.base) (hc : cells ≤ mc) (hs : slots ≤ ms) :
    vx_W p l e R s m args below meth c H locs cells slots (vx_MQ below Qc XC args s mc ms free) (F0 m pc ls rest) q := by
  intro T hT X
  obtain ⟨st1, hrun, hend, hW, hsm⟩ := X.leaveThrown q (g := F0 m pc ls rest) rfl rfl rfl hout hlocks
  have hcell9 : (T.setFrames (.throwing q :: below)).heap[q]? = some ce := by
    show T.heap[q]? = some ce
    rw [hT]; exact hcell
  exact ⟨_, st1, .threw q, hrun, hend, Or.inr ⟨q, rfl, E, ce, locs, hx _ hT hW.alike, hcell9, hv, hcl, hW, hsm.mono hc hs, hf⟩⟩
theorem vx_frame {U : State} {k n : Nat} (h : s.sameButNew ({ U with vm := s.vm } : State) locs k n) : s.heap.size ≤ U.heap.size ∧ ∀ q : Nat, q < s.heap.size → (∀ z ∈ locs, z.base ≠ q) → U.heap[q]? = s.heap[q]? := by
  obtain ⟨-, h2, -, -, -, h6⟩ := h
  refine ⟨h2, fun q hq hz => ?_⟩
  obtain ⟨c9, e1, e2, e3, e4⟩ := h6 q _ (Array.getElem?_eq_getElem hq)
  have hs : c9.slots = (s.heap[q]).slots := Array.ext_getElem? fun i => e4 i fun hm => hz _ hm rfl
  have h9 : c9 = s.heap[q] := by
    rw [hs] at e2
    exact e2
  have e5 : U.heap[q]? = some c9 := e1
  rw [e5, h9, Array.getElem?_eq_getElem hq]
/-- the words of a throw but the four that speak of the heap -/
def vx_no (w : Cond) : Bool := decide (w ≠ .isRef (.static Bundle.tN "UNASSIGNED_STACK" Bundle.steD)) && decide (w ≠ .isRef (.static Bundle.tN "SUPPRESSED_SENTINEL" Bundle.listD)) && decide (w ≠ .laysStatic Bundle.tN "UNASSIGNED_STACK" Bundle.steD) && decide (w ≠ .laysStatic Bundle.tN "SUPPRESSED_SENTINEL" Bundle.listD)
def vx_at0 (own : String) (ic : Nat) (X : String) (names : List String) : List Cond := (Bundle.ownAtoms0 own ic X names).filter vx_no
def vx_atS (own : String) (ic : Nat) (X : String) (names : List String) : List Cond := (Bundle.ownAtoms own ic X names).filter vx_no
/-- a word that the tables alone decide, or a good one -/
def vx_ot (w : Cond) : Bool := w.onTables || goodWord w
theorem vx_ot_at {args a' : Array Value} {s U : State} {w : Cond} (hW : s.WarmedH U.vm) (hvm : s.vm = U.vm) (hg : vx_ot w = true) (h : w.before args s = true) : w.before a' U = true := by
  simp only [vx_ot, Bool.or_eq_true] at hg
  rcases hg with hg | hg
  · exact va_tabs hg hvm h
  · exact word_at hW (good_of_word hg) h
/-- a list's words: the good ones out of the method's own list, the others by premises of their own -/
theorem vx_hat {args : Array Value} {s : State} {L B : List Cond} (h1 : ∀ w ∈ L.filter goodWord, w.before args s = true) (h2 : ∀ w ∈ L.filter (fun w => !goodWord w), w ∈ B) (h3 : ∀ w ∈ B, w.before args s = true) : ∀ w ∈ L, w.before args s = true := by
  intro w hw
  by_cases g : goodWord w = true
  · exact h1 w (List.mem_filter.mpr ⟨hw, g⟩)
  · refine h3 w (h2 w (List.mem_filter.mpr ⟨hw, ?_⟩))
    show (!goodWord w) = true
    cases hgw : goodWord w
    · rfl
    · exact absurd hgw g
theorem vx_c {args : Array Value} {s : State} {w : Cond} {B : List Cond} (h : w.before args s = true) (t : ∀ w ∈ B, w.before args s = true) : ∀ w' ∈ w :: B, w'.before args s = true := fun w' h' => (List.mem_cons.mp h').elim (fun e => by rw [e]; exact h) (t w')
theorem vx_n {args : Array Value} {s : State} : ∀ w ∈ ([] : List Cond), w.before args s = true := fun _ h => nomatch h
theorem vx_own {args : Array Value} {s : State} {L : List Cond} (h1 : ∀ w ∈ L.filter vx_no, w.before args s = true)
    (hU : (Cond.isRef (.static Bundle.tN "UNASSIGNED_STACK" Bundle.steD)).before args s = true) (hN : (Cond.isRef (.static Bundle.tN "SUPPRESSED_SENTINEL" Bundle.listD)).before args s = true)
    (lU : (Cond.laysStatic Bundle.tN "UNASSIGNED_STACK" Bundle.steD).before args s = true) (lN : (Cond.laysStatic Bundle.tN "SUPPRESSED_SENTINEL" Bundle.listD).before args s = true) : ∀ w ∈ L, w.before args s = true := by
  intro w hw
  by_cases e1 : w = .isRef (.static Bundle.tN "UNASSIGNED_STACK" Bundle.steD)
  · rw [e1]; exact hU
  · by_cases e2 : w = .isRef (.static Bundle.tN "SUPPRESSED_SENTINEL" Bundle.listD)
    · rw [e2]; exact hN
    · by_cases e3 : w = .laysStatic Bundle.tN "UNASSIGNED_STACK" Bundle.steD
      · rw [e3]; exact lU
      · by_cases e4 : w = .laysStatic Bundle.tN "SUPPRESSED_SENTINEL" Bundle.listD
        · rw [e4]; exact lN
        · exact h1 w (List.mem_filter.mpr ⟨hw, by unfold vx_no; rw [decide_eq_true e1, decide_eq_true e2, decide_eq_true e3, decide_eq_true e4]; rfl⟩)
/-- where a static field lies, its class's statics cell in H -/
def vx_L (C n d : String) (A : Nat → Prop) (U : State) (H : Heap) : Prop := ∃ (c : ClassId) (k : Class) (i : Nat) (f : Field) (a : Nat) (cell : Cell), U.vm.findClass C = some c ∧ U.fieldFound? C n d = some (c, k, i, f) ∧ f.isStatic = true ∧ k.statics = some a ∧ H[a]? = some cell ∧ cell.vm.isStatics = true ∧ cell.cls = c ∧ f.slot < cell.slots.size ∧ k.staticTypes[f.slot]? = some f.type ∧ ¬ A a
theorem vx_L.moved {C n d : String} {A : Nat → Prop} {u U : State} {H : Heap} (hvm : u.vm.Alike U.vm) (h : vx_L C n d A u H) : vx_L C n d A U H := by
  obtain ⟨c, k, i, f, a, cell, h1, h2, h3, h4, h5, h6, h7, h8, h9, h10⟩ := h
  obtain ⟨k', hi', he⟩ := State.fieldFound?_setVm hvm h2
  exact ⟨c, k', i, f, a, cell, by rw [hvm.findClass]; exact h1, hi', h3, by rw [he]; exact h4, h5, h6, h7, h8, by rw [he]; exact h9, h10⟩
theorem vx_L.kept {C n d : String} {A : Nat → Prop} {U : State} {H H1 : Heap} (h : vx_L C n d A U H) (hq : ∀ a : Nat, a < H.size → ¬ A a → H1[a]? = H[a]?) : vx_L C n d A U H1 := by
  obtain ⟨c, k, i, f, a, cell, h1, h2, h3, h4, h5, h6, h7, h8, h9, h10⟩ := h
  exact ⟨c, k, i, f, a, cell, h1, h2, h3, h4, by rw [hq a (Array.getElem?_eq_some_iff.mp h5).1 h10]; exact h5, h6, h7, h8, h9, h10⟩
theorem vx_L.narrow {C n d : String} {A B : Nat → Prop} {U : State} {H : Heap} (h : vx_L C n d A U H) (hAB : ∀ q, B q → A q) : vx_L C n d B U H := by
  obtain ⟨c, k, i, f, a, cell, h1, h2, h3, h4, h5, h6, h7, h8, h9, h10⟩ := h
  exact ⟨c, k, i, f, a, cell, h1, h2, h3, h4, h5, h6, h7, h8, h9, fun z => h10 (hAB _ z)⟩
theorem vx_L.word {C n d : String} {A : Nat → Prop} {s : State} {args : Array Value} (h : vx_L C n d A s s.heap) : (Cond.laysStatic C n d).before args s = true := by
  obtain ⟨c, k, i, f, a, cell, h1, h2, h3, h4, h5, h6, h7, h8, h9, -⟩ := h
  show (Cond.laysStatic C n d).holds args s none s [] = true
  exact Cond.laysStatic_of h1 h2 h3 h4 h5 h6 h7 h8 h9
/-- .. and what it holds: null or some reference -/
def vx_Zq (C n d : String) (A : Nat → Prop) (U : State) (H : Heap) : Prop := va_Zq C n d A U H ∧ vx_L C n d A U H
theorem vx_Zq.moved {C n d : String} {A : Nat → Prop} {u U : State} {H : Heap} (hvm : u.vm.Alike U.vm) (h : vx_Zq C n d A u H) : vx_Zq C n d A U H := ⟨va_Zq.moved hvm h.1, vx_L.moved hvm h.2⟩
theorem vx_Zq.kept {C n d : String} {A : Nat → Prop} {U : State} {H H1 : Heap} (h : vx_Zq C n d A U H) (hq : ∀ a : Nat, a < H.size → ¬ A a → H1[a]? = H[a]?) : vx_Zq C n d A U H1 := ⟨va_Zq.kept h.1 hq, vx_L.kept h.2 hq⟩
theorem vx_Zq.narrow {C n d : String} {A B : Nat → Prop} {U : State} {H : Heap} (h : vx_Zq C n d A U H) (hAB : ∀ q, B q → A q) : vx_Zq C n d B U H := ⟨va_Zq.narrow h.1 hAB, vx_L.narrow h.2 hAB⟩
theorem vx_Zqof {args : Array Value} {s : State} {C n d : String} {A : Nat → Prop} (hl : (Cond.laysStatic C n d).before args s = true) (hini : (Cond.initialized C).before args s = true) (h : (Cond.isRef (.static C n d)).before args s = true) (hA : ∀ a : Nat, a < s.heap.size → ¬ A a) : vx_Zq C n d A s s.heap := by
  refine ⟨va_Zqof hl hini h hA, ?_⟩
  obtain ⟨c, k, i, f, a, cell, h1, h2, h3, h4, h5, h6, h7, h8, h9⟩ := Cond.laysStatic_spec hl
  exact ⟨c, k, i, f, a, cell, h1, h2, h3, h4, h5, h6, h7, h8, h9, hA a (Array.getElem?_eq_some_iff.mp h5).1⟩
theorem vx_isRef {C n d : String} {v : Value} {A : Nat → Prop} {s : State} {args : Array Value} (h : va_Z C n d v A s s.heap) (hv : v.isRef = true) : (Cond.isRef (.static C n d)).before args s = true := by
  obtain ⟨cf, kf, fi, f, a, cell, h1, h2, h3, h4, h5, h6, h7, -⟩ := h
  have he : (Term.static C n d).eval args s none [] s = some v := by
    simp [Term.eval, State.fieldNamed?, h1, h2, h4, h5, h6, h7]
  simp only [Cond.before, Cond.holds, Cond.value, he]
  cases v <;> simp_all [Value.isRef]
theorem vx_isRefq {C n d : String} {A : Nat → Prop} {s : State} {args : Array Value} (h : va_Zq C n d A s s.heap) : (Cond.isRef (.static C n d)).before args s = true := by
  rcases h with h | ⟨t, h⟩
  · exact vx_isRef h rfl
  · exact vx_isRef h rfl
/-- the same frame, seen from here: as if the method were called anew in this heap -/
theorem vx_rebase {T : State} (X : Stand p l e R s m args below meth c T locs cells slots) {R' : Room} (hf : R'.frames ≤ R.frames) (hl : R'.locals ≤ R.locals) (hc : cells + R'.cells ≤ R.cells) (hs : slots + R'.slots ≤ R.slots) :
    Stand p l e R' ((T.setVm s.vm).setFrames (.invoking m args :: below)) m args below meth c T [] 0 0 := by
  have htop : (T.setVm s.vm).topJava?.isSome := X.here.top
  have hF : ((T.setVm s.vm).setFrames (.invoking m args :: below)).frames = .invoking m args :: below := State.frames_setFrames _ (State.cur_lt_of_top htop)
  obtain ⟨g₀, hg0⟩ := Option.isSome_iff_exists.mp htop
  obtain ⟨r, hr⟩ := State.topJava?_eq_some.mp hg0
  have hl9 : e.platform.stackLimits (T.setVm s.vm).me = e.platform.stackLimits s.me := X.limits
  have hb9 : (T.setVm s.vm).me.stackBytes = s.me.stackBytes := X.bytes
  refine ⟨X.admits, X.cas, X.clock, hF, ?_, X.hears, X.method, X.code, X.here, X.tail, X.warmed, ?_, ?_, ?_⟩
  · have h := X.room
    have hU : ((T.setVm s.vm).setFrames (.invoking m args :: below)).localsInUse = s.localsInUse := by
      rw [State.localsInUse_invoking hF (meth := meth) (c := c) X.method X.code, State.localsInUse_invoking X.frames X.method X.code]
    simp only [State.hasRoom, Bool.and_eq_true, decide_eq_true_eq] at h ⊢
    obtain ⟨⟨⟨⟨h1, h2, h3, h4, h5, h6⟩, h7⟩, h8⟩, h9⟩ := h
    rw [X.frames, List.length_cons] at h2 h3
    have q1 := X.heapSize
    have q2 := X.used
    simp only [hF, hU, List.length_cons, State.stackLimits_setFrames, State.stackBytes_setFrames, hl9, hb9]
    refine ⟨⟨⟨⟨by omega, by omega, by omega, by omega, by omega, h6⟩, ?_⟩, ?_⟩, X.book⟩
    · show T.heap.size + R'.cells ≤ e.platform.maxCells
      omega
    · show T.slotsUsed + R'.slots ≤ e.platform.maxSlots
      omega
  · rw [State.stackLimits_setFrames]; rfl
  · rw [State.stackBytes_setFrames]; rfl
  · refine ⟨?_, Nat.le_refl _, Nat.le_refl _, ?_, ?_, fun a c9 h9 => ⟨c9, h9, rfl, rfl, fun _ _ => rfl⟩⟩
    · obtain ⟨t, ht, -⟩ := State.frames_cons hr
      show T.setVm s.vm = { ((T.setVm s.vm).setFrames (.invoking m args :: below)).setFrames (T.setVm s.vm).frames with heap := T.heap, slotsUsed := T.slotsUsed }
      rw [State.setFrames_setFrames, State.setFrames_self ht]
      rfl
    · show T.slotsUsed = T.slotsUsed + ((T.heap.toList.drop T.heap.size).map (·.slots.size)).sum
      rw [List.drop_eq_nil_of_le (Nat.le_of_eq Array.length_toList)]
      rfl
    · show ((T.heap.toList.drop T.heap.size).map (·.slots.size)).sum ≤ 0
      rw [List.drop_eq_nil_of_le (Nat.le_of_eq Array.length_toList)]
      exact Nat.le_refl _
/-- 'throw new E()': new; dup; invokespecial; athrow -/
theorem vx_throw0 {cc : ByteArray} {pc : Nat} (hexec : p.tables.exec = Jvm.exec) (hb : c.code = cc) (hl : l.stackTraces = false) {own cls : String} {names : List String} {ik ic mc ms : Nat} {A : Nat → Prop}
    (hown : s.vm.findClass own = some m.cls) (hcls : Bundle.fit cls = true) (hnames : ∀ n ∈ names, Bundle.fit n = true)
    (hk : (Cond.classLink own ik cls).before args s = true) (hini : (Cond.initialized cls).before args s = true) (hat : ∀ w ∈ vx_at0 own ic cls names, w.before args s = true)
    (hgood : ∀ w ∈ Cond.classLink own ik cls :: Cond.initialized cls :: vx_at0 own ic cls names, vx_ot w = true)
    (hU : vx_Zq Bundle.tN "UNASSIGNED_STACK" Bundle.steD A s s.heap) (hN : vx_Zq Bundle.tN "SUPPRESSED_SENTINEL" Bundle.listD A s s.heap) (hS : va_S A s.heap H locs) (hsize : ls.size = c.maxLocals)
    (d0 : decode cc pc = .ok (.new ik, 3)) (d3 : decode cc (pc + 3) = .ok (.dup, 1)) (d4 : decode cc (pc + 4) = .ok (.invokespecial ic, 3)) (d7 : decode cc (pc + 7) = .ok (.athrow, 1))
    (hout : ∀ x ∈ c.exceptionTable.toList, covers x (pc + 7) = false)
    (hRframes : names.length + 3 < R.frames) (hRlocals : (rest.map fun v => v.category).sum + (13 * (names.length + 1) + 42) ≤ R.locals) (hRcells : cells + 1 ≤ R.cells) (hRslots : slots + 6 ≤ R.slots) (hlocks : meth.locks = false)
    (hx : ∀ t : State, s.vm.Alike t.vm → H.size ≤ t.heap.size → (∀ q : Nat, q < H.size → t.heap[q]? = H[q]?) → XC cls s t)
    (hf : ∀ z ∈ locs, free z.base) (hc : cells + 1 ≤ mc) (hs : slots + 6 ≤ ms) :
    W p l e R s m args below meth c H locs cells slots (vx_MQ below Qc XC args s mc ms free) (F0 m pc ls rest) := by
  intro T hT X
  have htr : e.platform.stackTraces = false := (show e.platform.stackTraces = l.stackTraces by rw [X.admits.platform]).trans hl
  have Y := vx_rebase X (R' := { frames := R.frames, locals := R.locals, cells := 1, slots := 6 }) (Nat.le_refl _) (Nat.le_refl _) hRcells hRslots
  obtain ⟨s', hA⟩ : ∃ z, z = (T.setVm s.vm).setFrames (.invoking m args :: below) := ⟨_, rfl⟩
  rw [← hA] at Y
  have hvm : s'.vm = s.vm := by rw [hA]; rfl
  have hhp : s'.heap = H := by rw [hA]; exact hT
  have hW0 : s.WarmedH s'.vm := by rw [hvm]; exact State.WarmedH.refl s
  have hat' : ∀ w ∈ vx_at0 own ic cls names, w.before args s' = true := fun w hw => vx_ot_at hW0 hvm.symm (hgood w (List.mem_cons_of_mem _ (List.mem_cons_of_mem _ hw))) (hat w hw)
  have hk' : (Cond.classLink own ik cls).before args s' = true := vx_ot_at hW0 hvm.symm (hgood _ List.mem_cons_self) hk
  have hini' : (Cond.initialized cls).before args s' = true := vx_ot_at hW0 hvm.symm (hgood _ (List.mem_cons_of_mem _ List.mem_cons_self)) hini
  have hU' : vx_Zq Bundle.tN "UNASSIGNED_STACK" Bundle.steD A s' s'.heap := by rw [hhp]; exact vx_Zq.moved hW0.alike (hU.kept hS.2.1)
  have hN' : vx_Zq Bundle.tN "SUPPRESSED_SENTINEL" Bundle.listD A s' s'.heap := by rw [hhp]; exact vx_Zq.moved hW0.alike (hN.kept hS.2.1)
  have h : ∀ w ∈ Bundle.ownAtoms0 own ic cls names, w.before args s' = true := vx_own hat' (vx_isRefq hU'.1) (vx_isRefq hN'.1) hU'.2.word hN'.2.word
  have hown' : s'.vm.findClass own = some m.cls := by rw [hvm]; exact hown
  have hins : (Cond.instantiable cls 6).before args s' = true := h _ (by simp [Bundle.ownAtoms0])
  obtain ⟨vm₁, cX, kX, hfX, hkX, -, -, X₁, st1⟩ := Y.newCold hexec (own := own) (C := cls) (index := ik) (n := 6) hown' hk' hins hini'
    (g := F0 m pc ls rest) rfl (by rw [hb]; exact d0) (Nat.le_refl _) (Nat.le_refl _)
  generalize hT1 : (T.setVm vm₁).pushCell { cls := cX, slots := kX.instanceTypes.map defaultValue, vm := .none } = T1 at X₁ st1
  have hcat : (Value.ref T.heap.size).category = 1 := rfl
  have hcellA : T1.heap[T.heap.size]? = some (freshCell cX kX) := by rw [← hT1]; exact State.heap_pushCell_size _ _
  have d3' : decode c.code (pc + 3) = .ok (.dup, 1) := by rw [hb]; exact d3
  obtain ⟨U, hsteps, hrun, hend, hW, hsame, ce, hce, hO⟩ := X₁.ctorThrow0 hexec htr (own := own) (cls := cls) (names := names) (ic := ic) hown' hcls hnames h (fun x hx => nomatch hx) hfX hkX hcellA (by rw [hhp, hT]; exact Nat.le_refl _)
    (g := { method := m, pc := pc + 4, locals := ls, stack := .ref T.heap.size :: .ref T.heap.size :: rest, locked := none }) rfl hsize rfl rfl (rest := rest) rfl
    (by rw [hb]; exact d4) (by rw [hb]; exact d7) hout hRframes (by simp only [List.map_cons, List.sum_cons, hcat]; omega) hlocks
  obtain ⟨f1, f2⟩ := vx_frame hsame
  rw [hhp] at f1 f2
  have hWs : s.WarmedH U.vm := State.WarmedH.trans hW0 hW
  have hcl : s.vm.findClass cls = some ce.cls := by
    have h9 := hO.cls
    rw [hvm] at h9
    exact h9
  have hall : s.sameButNew ({ U with vm := s.vm } : State) locs mc ms := by
    subst hA
    obtain ⟨e1, e2⟩ := hsame
    rw [State.setFrames_setFrames] at e1
    have h2 : (T.setVm s.vm).sameButNew ({ U with vm := s.vm } : State) [] (0 + 1) (0 + 6) := ⟨e1, e2⟩
    have h3 := X.same.trans h2
    rw [List.append_nil] at h3
    exact h3.mono hc hs
  refine ⟨U, ?_, .threw T.heap.size, hrun, hend, Or.inr ⟨T.heap.size, rfl, cls, ce, locs, hx U hWs.alike f1 (fun q hq => f2 q hq (fun z hz => nomatch hz)), hce, hO.vm, hcl, hWs, hall, hf⟩⟩
  refine st1 _ ?_
  show Steps p.tables e below (T1.setTop { method := m, pc := pc + 3, locals := ls, stack := .ref T.heap.size :: rest, locked := none }) _
  jvm_step X₁.here [X₁.here.top, hexec, d3', Value.category]
  exact hsteps
/-- 'throw new E("text")': new; dup; ldc; invokespecial; athrow -/
theorem vx_throwS {cc : ByteArray} {pc : Nat} (hexec : p.tables.exec = Jvm.exec) (hb : c.code = cc) (hl : l.stackTraces = false) {own cls text : String} {names : List String} {ik is ic mc ms sa : Nat} {A : Nat → Prop}
    (hown : s.vm.findClass own = some m.cls) (hcls : Bundle.fit cls = true) (hnames : ∀ n ∈ names, Bundle.fit n = true)
    (hk : (Cond.classLink own ik cls).before args s = true) (hini : (Cond.initialized cls).before args s = true) (hstr : vk_R own is text sa s) (hat : ∀ w ∈ vx_atS own ic cls names, w.before args s = true)
    (hgood : ∀ w ∈ Cond.classLink own ik cls :: Cond.initialized cls :: vx_atS own ic cls names, vx_ot w = true)
    (hU : vx_Zq Bundle.tN "UNASSIGNED_STACK" Bundle.steD A s s.heap) (hN : vx_Zq Bundle.tN "SUPPRESSED_SENTINEL" Bundle.listD A s s.heap) (hS : va_S A s.heap H locs) (hsize : ls.size = c.maxLocals)
    (d0 : decode cc pc = .ok (.new ik, 3)) (d3 : decode cc (pc + 3) = .ok (.dup, 1)) (d4 : decode cc (pc + 4) = .ok (.ldc is, 2)) (d6 : decode cc (pc + 6) = .ok (.invokespecial ic, 3)) (d9 : decode cc (pc + 9) = .ok (.athrow, 1))
    (hout : ∀ x ∈ c.exceptionTable.toList, covers x (pc + 9) = false)
    (hRframes : names.length + 3 < R.frames) (hRlocals : (rest.map fun v => v.category).sum + (13 * (names.length + 1) + 43) ≤ R.locals) (hRcells : cells + 1 ≤ R.cells) (hRslots : slots + 6 ≤ R.slots) (hlocks : meth.locks = false)
    (hx : ∀ t : State, s.vm.Alike t.vm → H.size ≤ t.heap.size → (∀ q : Nat, q < H.size → t.heap[q]? = H[q]?) → XC cls s t)
    (hf : ∀ z ∈ locs, free z.base) (hc : cells + 1 ≤ mc) (hs : slots + 6 ≤ ms) :
    W p l e R s m args below meth c H locs cells slots (vx_MQ below Qc XC args s mc ms free) (F0 m pc ls rest) := by
  intro T hT X
  have htr : e.platform.stackTraces = false := (show e.platform.stackTraces = l.stackTraces by rw [X.admits.platform]).trans hl
  have Y := vx_rebase X (R' := { frames := R.frames, locals := R.locals, cells := 1, slots := 6 }) (Nat.le_refl _) (Nat.le_refl _) hRcells hRslots
  obtain ⟨s', hA⟩ : ∃ z, z = (T.setVm s.vm).setFrames (.invoking m args :: below) := ⟨_, rfl⟩
  rw [← hA] at Y
  have hvm : s'.vm = s.vm := by rw [hA]; rfl
  have hhp : s'.heap = H := by rw [hA]; exact hT
  have hW0 : s.WarmedH s'.vm := by rw [hvm]; exact State.WarmedH.refl s
  have hat' : ∀ w ∈ vx_atS own ic cls names, w.before args s' = true := fun w hw => vx_ot_at hW0 hvm.symm (hgood w (List.mem_cons_of_mem _ (List.mem_cons_of_mem _ hw))) (hat w hw)
  have hk' : (Cond.classLink own ik cls).before args s' = true := vx_ot_at hW0 hvm.symm (hgood _ List.mem_cons_self) hk
  have hini' : (Cond.initialized cls).before args s' = true := vx_ot_at hW0 hvm.symm (hgood _ (List.mem_cons_of_mem _ List.mem_cons_self)) hini
  have hU' : vx_Zq Bundle.tN "UNASSIGNED_STACK" Bundle.steD A s' s'.heap := by rw [hhp]; exact vx_Zq.moved hW0.alike (hU.kept hS.2.1)
  have hN' : vx_Zq Bundle.tN "SUPPRESSED_SENTINEL" Bundle.listD A s' s'.heap := by rw [hhp]; exact vx_Zq.moved hW0.alike (hN.kept hS.2.1)
  have h : ∀ w ∈ Bundle.ownAtoms own ic cls names, w.before args s' = true := vx_own hat' (vx_isRefq hU'.1) (vx_isRefq hN'.1) hU'.2.word hN'.2.word
  have hown' : s'.vm.findClass own = some m.cls := by rw [hvm]; exact hown
  have hins : (Cond.instantiable cls 6).before args s' = true := h _ (by simp [Bundle.ownAtoms])
  obtain ⟨vm₁, cX, kX, hfX, hkX, -, -, X₁, st1⟩ := Y.newCold hexec (own := own) (C := cls) (index := ik) (n := 6) hown' hk' hins hini'
    (g := F0 m pc ls rest) rfl (by rw [hb]; exact d0) (Nat.le_refl _) (Nat.le_refl _)
  generalize hT1 : (T.setVm vm₁).pushCell { cls := cX, slots := kX.instanceTypes.map defaultValue, vm := .none } = T1 at X₁ st1
  have hcat : (Value.ref T.heap.size).category = 1 := rfl
  have hcellA : T1.heap[T.heap.size]? = some (freshCell cX kX) := by rw [← hT1]; exact State.heap_pushCell_size _ _
  have d3' : decode c.code (pc + 3) = .ok (.dup, 1) := by rw [hb]; exact d3
  have d4' : decode c.code (pc + 4) = .ok (.ldc is, 2) := by rw [hb]; exact d4
  have hstr' : vk_R own is text sa s' := vk_R.warm hW0 hstr
  obtain ⟨U, hsteps, hrun, hend, hW, hsame, ce, hce, hO⟩ := X₁.ctorThrowS hexec htr (own := own) (cls := cls) (names := names) (ic := ic) hown' hcls hnames h (fun x hx => nomatch hx) hfX hkX hcellA (by rw [hhp, hT]; exact Nat.le_refl _) (msg := .ref sa) rfl
    (g := { method := m, pc := pc + 6, locals := ls, stack := .ref sa :: .ref T.heap.size :: .ref T.heap.size :: rest, locked := none }) rfl hsize rfl rfl (rest := rest) rfl
    (by rw [hb]; exact d6) (by rw [hb]; exact d9) hout hRframes (by simp only [List.map_cons, List.sum_cons, hcat]; omega) hlocks
  obtain ⟨f1, f2⟩ := vx_frame hsame
  rw [hhp] at f1 f2
  have hWs : s.WarmedH U.vm := State.WarmedH.trans hW0 hW
  have hcl : s.vm.findClass cls = some ce.cls := by
    have h9 := hO.cls
    rw [hvm] at h9
    exact h9
  have hall : s.sameButNew ({ U with vm := s.vm } : State) locs mc ms := by
    subst hA
    obtain ⟨e1, e2⟩ := hsame
    rw [State.setFrames_setFrames] at e1
    have h2 : (T.setVm s.vm).sameButNew ({ U with vm := s.vm } : State) [] (0 + 1) (0 + 6) := ⟨e1, e2⟩
    have h3 := X.same.trans h2
    rw [List.append_nil] at h3
    exact h3.mono hc hs
  refine ⟨U, ?_, .threw T.heap.size, hrun, hend, Or.inr ⟨T.heap.size, rfl, cls, ce, locs, hx U hWs.alike f1 (fun q hq => f2 q hq (fun z hz => nomatch hz)), hce, hO.vm, hcl, hWs, hall, hf⟩⟩
  refine st1 _ ?_
  show Steps p.tables e below (T1.setTop { method := m, pc := pc + 3, locals := ls, stack := .ref T.heap.size :: rest, locked := none }) _
  jvm_step X₁.here [X₁.here.top, hexec, d3', Value.category]
  exact X₁.ldcString hexec (own := own) (text := text) (index := is) (a := sa) hown' hstr'.1 hstr'.2
    (g := { method := m, pc := pc + 4, locals := ls, stack := .ref T.heap.size :: .ref T.heap.size :: rest, locked := none }) rfl d4' _ hsteps
/-- 'throw new E("text")', the text by a wide index -/
theorem vx_throwSW {cc : ByteArray} {pc : Nat} (hexec : p.tables.exec = Jvm.exec) (hb : c.code = cc) (hl : l.stackTraces = false) {own cls text : String} {names : List String} {ik is ic mc ms sa : Nat} {A : Nat → Prop}
    (hown : s.vm.findClass own = some m.cls) (hcls : Bundle.fit cls = true) (hnames : ∀ n ∈ names, Bundle.fit n = true)
    (hk : (Cond.classLink own ik cls).before args s = true) (hini : (Cond.initialized cls).before args s = true) (hstr : vk_R own is text sa s) (hat : ∀ w ∈ vx_atS own ic cls names, w.before args s = true)
    (hgood : ∀ w ∈ Cond.classLink own ik cls :: Cond.initialized cls :: vx_atS own ic cls names, vx_ot w = true)
    (hU : vx_Zq Bundle.tN "UNASSIGNED_STACK" Bundle.steD A s s.heap) (hN : vx_Zq Bundle.tN "SUPPRESSED_SENTINEL" Bundle.listD A s s.heap) (hS : va_S A s.heap H locs) (hsize : ls.size = c.maxLocals)
    (d0 : decode cc pc = .ok (.new ik, 3)) (d3 : decode cc (pc + 3) = .ok (.dup, 1)) (d4 : decode cc (pc + 4) = .ok (.ldc_w is, 3)) (d7 : decode cc (pc + 7) = .ok (.invokespecial ic, 3)) (d10 : decode cc (pc + 10) = .ok (.athrow, 1))
    (hout : ∀ x ∈ c.exceptionTable.toList, covers x (pc + 10) = false)
    (hRframes : names.length + 3 < R.frames) (hRlocals : (rest.map fun v => v.category).sum + (13 * (names.length + 1) + 43) ≤ R.locals) (hRcells : cells + 1 ≤ R.cells) (hRslots : slots + 6 ≤ R.slots) (hlocks : meth.locks = false)
    (hx : ∀ t : State, s.vm.Alike t.vm → H.size ≤ t.heap.size → (∀ q : Nat, q < H.size → t.heap[q]? = H[q]?) → XC cls s t)
    (hf : ∀ z ∈ locs, free z.base) (hc : cells + 1 ≤ mc) (hs : slots + 6 ≤ ms) :
    W p l e R s m args below meth c H locs cells slots (vx_MQ below Qc XC args s mc ms free) (F0 m pc ls rest) := by
  intro T hT X
  have htr : e.platform.stackTraces = false := (show e.platform.stackTraces = l.stackTraces by rw [X.admits.platform]).trans hl
  have Y := vx_rebase X (R' := { frames := R.frames, locals := R.locals, cells := 1, slots := 6 }) (Nat.le_refl _) (Nat.le_refl _) hRcells hRslots
  obtain ⟨s', hA⟩ : ∃ z, z = (T.setVm s.vm).setFrames (.invoking m args :: below) := ⟨_, rfl⟩
  rw [← hA] at Y
  have hvm : s'.vm = s.vm := by rw [hA]; rfl
  have hhp : s'.heap = H := by rw [hA]; exact hT
  have hW0 : s.WarmedH s'.vm := by rw [hvm]; exact State.WarmedH.refl s
  have hat' : ∀ w ∈ vx_atS own ic cls names, w.before args s' = true := fun w hw => vx_ot_at hW0 hvm.symm (hgood w (List.mem_cons_of_mem _ (List.mem_cons_of_mem _ hw))) (hat w hw)
  have hk' : (Cond.classLink own ik cls).before args s' = true := vx_ot_at hW0 hvm.symm (hgood _ List.mem_cons_self) hk
  have hini' : (Cond.initialized cls).before args s' = true := vx_ot_at hW0 hvm.symm (hgood _ (List.mem_cons_of_mem _ List.mem_cons_self)) hini
  have hU' : vx_Zq Bundle.tN "UNASSIGNED_STACK" Bundle.steD A s' s'.heap := by rw [hhp]; exact vx_Zq.moved hW0.alike (hU.kept hS.2.1)
  have hN' : vx_Zq Bundle.tN "SUPPRESSED_SENTINEL" Bundle.listD A s' s'.heap := by rw [hhp]; exact vx_Zq.moved hW0.alike (hN.kept hS.2.1)
  have h : ∀ w ∈ Bundle.ownAtoms own ic cls names, w.before args s' = true := vx_own hat' (vx_isRefq hU'.1) (vx_isRefq hN'.1) hU'.2.word hN'.2.word
  have hown' : s'.vm.findClass own = some m.cls := by rw [hvm]; exact hown
  have hins : (Cond.instantiable cls 6).before args s' = true := h _ (by simp [Bundle.ownAtoms])
  obtain ⟨vm₁, cX, kX, hfX, hkX, -, -, X₁, st1⟩ := Y.newCold hexec (own := own) (C := cls) (index := ik) (n := 6) hown' hk' hins hini'
    (g := F0 m pc ls rest) rfl (by rw [hb]; exact d0) (Nat.le_refl _) (Nat.le_refl _)
  generalize hT1 : (T.setVm vm₁).pushCell { cls := cX, slots := kX.instanceTypes.map defaultValue, vm := .none } = T1 at X₁ st1
  have hcat : (Value.ref T.heap.size).category = 1 := rfl
  have hcellA : T1.heap[T.heap.size]? = some (freshCell cX kX) := by rw [← hT1]; exact State.heap_pushCell_size _ _
  have d3' : decode c.code (pc + 3) = .ok (.dup, 1) := by rw [hb]; exact d3
  have d4' : decode c.code (pc + 4) = .ok (.ldc_w is, 3) := by rw [hb]; exact d4
  have hstr' : vk_R own is text sa s' := vk_R.warm hW0 hstr
  obtain ⟨U, hsteps, hrun, hend, hW, hsame, ce, hce, hO⟩ := X₁.ctorThrowS hexec htr (own := own) (cls := cls) (names := names) (ic := ic) hown' hcls hnames h (fun x hx => nomatch hx) hfX hkX hcellA (by rw [hhp, hT]; exact Nat.le_refl _) (msg := .ref sa) rfl
    (g := { method := m, pc := pc + 7, locals := ls, stack := .ref sa :: .ref T.heap.size :: .ref T.heap.size :: rest, locked := none }) rfl hsize rfl rfl (rest := rest) rfl
    (by rw [hb]; exact d7) (by rw [hb]; exact d10) hout hRframes (by simp only [List.map_cons, List.sum_cons, hcat]; omega) hlocks
  obtain ⟨f1, f2⟩ := vx_frame hsame
  rw [hhp] at f1 f2
  have hWs : s.WarmedH U.vm := State.WarmedH.trans hW0 hW
  have hcl : s.vm.findClass cls = some ce.cls := by
    have h9 := hO.cls
    rw [hvm] at h9
    exact h9
  have hall : s.sameButNew ({ U with vm := s.vm } : State) locs mc ms := by
    subst hA
    obtain ⟨e1, e2⟩ := hsame
    rw [State.setFrames_setFrames] at e1
    have h2 : (T.setVm s.vm).sameButNew ({ U with vm := s.vm } : State) [] (0 + 1) (0 + 6) := ⟨e1, e2⟩
    have h3 := X.same.trans h2
    rw [List.append_nil] at h3
    exact h3.mono hc hs
  refine ⟨U, ?_, .threw T.heap.size, hrun, hend, Or.inr ⟨T.heap.size, rfl, cls, ce, locs, hx U hWs.alike f1 (fun q hq => f2 q hq (fun z hz => nomatch hz)), hce, hO.vm, hcl, hWs, hall, hf⟩⟩
  refine st1 _ ?_
  show Steps p.tables e below (T1.setTop { method := m, pc := pc + 3, locals := ls, stack := .ref T.heap.size :: rest, locked := none }) _
  jvm_step X₁.here [X₁.here.top, hexec, d3', Value.category]
  exact X₁.ldcStringW hexec (own := own) (text := text) (index := is) (a := sa) hown' hstr'.1 hstr'.2
    (g := { method := m, pc := pc + 4, locals := ls, stack := .ref T.heap.size :: .ref T.heap.size :: rest, locked := none }) rfl d4' _ hsteps
end Ends
section Bodies
variable {l : Launch}
theorem vx_ofW {y : MethodName} {ws ws' : List Cond} {rm : Room} {Pc : Array Value → State → Prop} {Qc : Array Value → State → Outcome → State → Prop} {XC : String → State → State → Prop} {mc ms : Nat} {free : Addr → Prop} {cc : ByteArray} {maxL : Nat} {ret : Option FieldType}
    (hy : plainName y.cls = true) (hw : ws = Cond.code y cc maxL ret :: ws')
    (body : ∀ p e s m args below meth c s₁, BodyLoose p l y (headSpec ws rm) cc maxL ret e s m args below meth c s₁ → c.maxLocals = maxL → (∀ x ∈ c.exceptionTable.toList, False) → Pc args s →
      W p l e (headSpec ws rm).room s m args below meth c s.heap [] 0 0 (vx_MQ below Qc XC args s mc ms free) (entryFrame m args maxL)) : vx_Met l y ws rm Pc Qc XC mc ms free := by
  refine MetFree.of_bodyS (code := cc) (maxLocals := maxL) (ret := ret) hy ?_ ?_
  · intro args s m h hn
    obtain ⟨meth, c, h1, h2, h3, h4, h5, h6, -, -⟩ := Cond.code_spec hn (atoms_spec (ws := ws) h _ (by rw [hw]; exact List.mem_cons_self))
    exact ⟨meth, c, h1, h2, h3, h4, h5, h6⟩
  · intro p e s m args below meth c s₁ B hml hP _
    have hh0 : s₁.heap = s.heap := by rw [B.state]; rfl
    have ht : ∀ x ∈ c.exceptionTable.toList, False := by
      obtain ⟨meth9, c9, h1, h2, -, -, -, -, h7, -⟩ := Cond.code_spec B.named (atoms_spec (ws := ws) B.pre _ (by rw [hw]; exact List.mem_cons_self))
      cases Option.some.inj (h1.symm.trans B.method)
      cases Option.some.inj (h2.symm.trans (Stand.of_body B).code)
      intro x hx
      rw [Array.isEmpty_iff.mp h7] at hx
      cases hx
    obtain ⟨t, a1, o, b1, b2, b3⟩ := body p e s m args below meth c s₁ B hml ht hP s₁ hh0 (Stand.of_body B)
    exact ⟨t, o, a1, b1, b2, b3⟩
/-- the table of a body with handlers -/
theorem vx_table {p : Program} {x y : MethodName} {S : Spec} {cc bytes : ByteArray} {maxL maxL' : Nat} {ret ret' : Option FieldType} {e : Env} {s s₁ : State} {m : MethodId} {args : Array Value} {below : List Frame} {meth : Method} {c : Code} {hh : List (Nat × Nat × Nat × Nat)}
    (B : BodyLoose p l y S cc maxL ret e s m args below meth c s₁) (h : (Cond.codeWith y bytes maxL' ret' hh).before args s = true) : c.exceptionTable.toList = tableOf hh := by
  obtain ⟨m9, meth9, c9, hn9, h1, h2, -, -, h6, -⟩ := Cond.codeWith_spec h
  cases Option.some.inj (hn9.symm.trans B.named)
  cases Option.some.inj (h1.symm.trans B.method)
  cases Option.some.inj (h2.symm.trans (Stand.of_body B).code)
  rw [← h6, table_eq]
end Bodies
end VXA
/-! ===== END ===== -/
/-! ===== BEGIN a static call of a method with an exception table ===== -/
section VXS
variable {p : Program} {l : Launch} {e : Env} {R : Room} {s : State} {m : MethodId} {args : Array Value} {below : List Frame} {meth : Method} {c : Code} {T : State} {H : Heap} {locs : List Loc} {cells slots : Nat}
abbrev vx_CSW (R : Room) (s : State) (args : Array Value) (own : String) (index : Nat) (y : MethodName) (bytes : ByteArray) (maxL : Nat) (ret : Option FieldType) (hh : List (Nat × Nat × Nat × Nat)) (ws : List Cond) (rm : Room) (mc ms n : Nat) : Prop :=
  (rm.cells = mc ∧ rm.slots = ms ∧ rm.frames + 1 ≤ R.frames ∧ 8 + (maxL + 11) + rm.locals ≤ R.locals ∧ (∀ w ∈ ws, ∀ (a' : Array Value) (U : State), s.WarmedH U.vm → w.before a' U = true) ∧ Cond.codeWith y bytes maxL ret hh ∈ ws) ∧
  (Cond.codeWith y bytes maxL ret hh).before args s = true ∧ (Cond.initialized y.cls).before args s = true ∧ (y.cls ≠ "java/lang/invoke/MethodHandle" ∧ y.cls ≠ "java/lang/invoke/VarHandle") ∧
  (∀ sig, parseMethodDescriptor y.desc = some sig → n = sig.parameters.length) ∧ (Cond.methodLink own index y).before args s = true ∧ (Cond.static y).before args s = true
theorem vx_cwSW {own : String} {index maxL mc ms : Nat} {y : MethodName} {bytes : ByteArray} {ret : Option FieldType} {hh : List (Nat × Nat × Nat × Nat)} {Ts ws ws' : List Cond} {rm : Room} (n : Nat) (ht : ∀ w ∈ Ts, w.before args s = true) (hT : GoodIn Ts (va_wsS own index y ws)) (hw : ws = Cond.codeWith y bytes maxL ret hh :: ws') (hrc : rm.cells = mc) (hrs : rm.slots = ms)
    (hd : y.cls ≠ "java/lang/invoke/MethodHandle" ∧ y.cls ≠ "java/lang/invoke/VarHandle" ∧ (parseMethodDescriptor y.desc).map (fun d => d.parameters.length) = some n) (hR : rm.frames + 1 ≤ R.frames ∧ 8 + (maxL + 11) + rm.locals ≤ R.locals) :
    vx_CSW R s args own index y bytes maxL ret hh ws rm mc ms n := by
  have ok : ∀ w ∈ va_wsS own index y ws, w.before args s = true := fun w h => ht w (hT w h).1
  have hG : GoodIn Ts ws := fun w h => hT w (by unfold va_wsS; exact List.mem_append_right _ h)
  have hc : Cond.codeWith y bytes maxL ret hh ∈ ws := by rw [hw]; exact List.mem_cons_self
  refine ⟨⟨hrc, hrs, hR.1, hR.2, pay_in ht hG, hc⟩, ht _ (hG _ hc).1, ok _ (by simp [va_wsS]), ⟨hd.1, hd.2.1⟩, fun sig h => ?_, ok _ (by simp [va_wsS]), ok _ (by simp [va_wsS])⟩
  have h2 := hd.2.2
  rw [h] at h2
  exact (Option.some.inj h2).symm
theorem vx_callSW (X : Stand p l e R s m args below meth c T locs cells slots) (hexec : p.tables.exec = Jvm.exec) {own : String} {index : Nat} {y : MethodName} {bytes : ByteArray} {maxL : Nat} {ret : Option FieldType} {hh : List (Nat × Nat × Nat × Nat)}
    (hown : s.vm.findClass own = some m.cls) (hlink : (Cond.methodLink own index y).before args s = true) (hstat : (Cond.static y).before args s = true) (hinit : (Cond.initialized y.cls).before args s = true)
    (hcode : (Cond.codeWith y bytes maxL ret hh).before args s = true) (hy : y.cls ≠ "java/lang/invoke/MethodHandle" ∧ y.cls ≠ "java/lang/invoke/VarHandle")
    {W9 : Nat} {Pre : Pt → Array Value → Prop} {Post : Pt → Array Value → Option Value → Pt → Prop} (hK : Back l R p e below s args y 3 W9 Pre Post)
    {g : JFrame} (hg : g.method = m) (hsize : g.locals.size = c.maxLocals) {argsL rest : List Value} (hlen : ∀ sig, parseMethodDescriptor y.desc = some sig → argsL.length = sig.parameters.length)
    (hstack : g.stack = argsL.reverse ++ rest) (hW : 2 * g.monitorRoom + (rest.map fun v => v.category).sum ≤ W9) (hdg : decode c.code g.pc = .ok (.invokestatic index, 3))
    (hpre : ∀ vm₁, s.WarmedH vm₁ → Pre ⟨T.setVm vm₁, locs, cells, slots⟩ argsL.toArray) :
    ∃ (v : Option Value) (vm₁ : Vm) (B : Pt), s.WarmedH vm₁ ∧ Stand p l e R s m args below meth c B.U B.locs B.cells B.slots ∧ Post ⟨T.setVm vm₁, locs, cells, slots⟩ argsL.toArray v B ∧
      ∀ target, Steps p.tables e below (B.U.setTop { g with pc := g.pc + 3, stack := v.toList ++ rest }) target → Steps p.tables e below (T.setTop g) target := by
  obtain ⟨mk, methM, cM, hnamed, hmethM, -, -, -, -, -, -, hsigM⟩ := Cond.codeWith_spec hcode
  have hstatic : methM.isStatic = true := Cond.static_spec hnamed hmethM hstat
  obtain ⟨kP, hkP, -⟩ := className_of_methodNamed hnamed
  have hinitP : kP.init = .initialized := Cond.initialized_spec (findClass_of_methodNamed hnamed) hkP hinit
  obtain ⟨vm₁, X₁, hstep₁⟩ := X.invokestatic hexec hown hlink hnamed hmethM hstatic hkP hinitP hy (g := g) hg (argsL := argsL) (rest := rest) (hlen _ hsigM) hstack hdg
  obtain ⟨v, B, X', hpost, hsteps⟩ := hK m meth c ⟨T.setVm vm₁, locs, cells, slots⟩ { g with stack := rest } (.invokestatic index) mk argsL.toArray X₁ hg hsize hdg hW (X₁.named hnamed) (hpre vm₁ X₁.warmed)
  exact ⟨v, vm₁, B, X₁.warmed, X', hpost, fun target h => hstep₁ _ fun acts => by rw [doInvoke_state]; exact hsteps.trans h⟩
theorem vx_runSW {y : MethodName} {bytes cc : ByteArray} {maxL nL mc ms n index : Nat} {ret : Option FieldType} {hh : List (Nat × Nat × Nat × Nat)} {ws : List Cond} {rm : Room} {Pc : Array Value → State → Prop} {Qc : Array Value → State → Outcome → State → Prop} {free : Addr → Prop} {Ts : List Cond} {own : String} {As rest : List Value} {g : JFrame}
    (S : CallFix p m c cc nL s args Ts own) (hM : Met l y ws rm Pc Qc mc ms free) (cw : vx_CSW R s args own index y bytes maxL ret hh ws rm mc ms n) (hp : PreS s H Pc As)
    (hg : g.method = m) (hn : As.length = n) (hsize : g.locals.size = nL) (hstack : g.stack = As.reverse ++ rest) (hW : 2 * g.monitorRoom + (rest.map fun v => v.category).sum ≤ 8) (hdg : decode cc g.pc = .ok (.invokestatic index, 3)) (hf : cells + mc ≤ R.cells ∧ slots + ms ≤ R.slots) :
    va_Run p l e R s m args below meth c H locs cells slots mc ms g rest (Qc As.toArray) (free) := by
  obtain ⟨⟨hrc, hrs, hfr, hlo, hws, hcw⟩, hcode, hini, hy, hlen, hl, hstt⟩ := cw
  have hK : Back l R p e below s args y 3 8 (PreOf R mc ms Pc) (PostOf Qc mc ms free) := va_backW (hh := hh) (bytes := bytes) (maxL := maxL) (ret := ret) hM hp.1 hrc hrs hfr hlo hws hcw (fun a' U hW => word_at hW (Or.inl (by first | rfl | simp [Cond.onTables, Cond.keeps, Cond.steady])) hini)
  obtain ⟨hx, hb, hml, ho, -⟩ := S
  intro T hT X
  obtain ⟨v, vm₁, ⟨U', l2, c2, s2⟩, hW₁, X', ⟨g', mk, t, L, e1, e2, hq, h1, hL, h2, h3⟩, st⟩ := vx_callSW X hx (hh := hh) (bytes := bytes) (maxL := maxL) (ret := ret) ho hl hstt hini hcode hy hK hg (hsize.trans hml.symm) (argsL := As) (rest := rest) (fun sig h => hn.trans (hlen sig h)) hstack hW (by rw [hb]; exact hdg)
    (fun vm₁ hW₁ => ⟨hf.1, hf.2, hp.2 (T.setVm vm₁) hT hW₁⟩)
  dsimp only [Pt.U, Pt.locs, Pt.cells, Pt.slots] at X' e1 e2 h1 h2 h3 st
  subst h1; subst h2; subst h3
  exact ⟨v, (T.setVm vm₁).calling g' mk As.toArray, t, U', L, hT, X', hL, e1, e2, hq, st⟩
/-- not caught here, past rows that name other classes: it goes on to the caller -/
theorem vx_outP {p : Program} {l : Launch} {e : Env} {R : Room} {s : State} {m : MethodId} {args : Array Value} {below : List Frame} {meth : Method} {c : Code} {H : Heap} {locs : List Loc} {cells slots : Nat} {free : Addr → Prop} {ls : Array Slot} {rest : List Value} {Qc : Array Value → State → Outcome → State → Prop} {XC : String → State → State → Prop}
    {pc : Nat} {own E : String} {ce : Cell} {q : Addr} {mc ms : Nat} (hown : s.vm.findClass own = some m.cls) (hlocks : meth.locks = false)
    (hpass : ∀ z ∈ c.exceptionTable.toList, covers z pc = false ∨ (z.catchType ≠ 0 ∧ ∃ nm : String, (Cond.classLink own z.catchType nm).before args s = true ∧ va_Nc E nm s)) (hcell : H[q]? = some ce) (hv : ce.vm = .none) (hcl : s.vm.findClass E = some ce.cls)
    (hx : ∀ t : State, t.heap = H → s.vm.Alike t.vm → XC E s t) (hf : ∀ z ∈ locs, free z.base) (hc : cells ≤ mc) (hs : slots ≤ ms) :
    vx_W p l e R s m args below meth c H locs cells slots (vx_MQ below Qc XC args s mc ms free) (F0 m pc ls rest) q := by
  intro T hT X
  have hpl : e.platform.magicAccessors = ({} : Platform).magicAccessors := by rw [X.admits.platform]
  obtain ⟨vm', hW', X', st⟩ := X.outThrough hlocks q (g := F0 m pc ls rest) rfl rfl rfl (cell := ce) (by rw [hT]; exact hcell) (by rw [hv]; rfl)
    (by obtain ⟨k9, h9, -⟩ := Vm.findClass_spec hcl; exact ⟨k9, h9⟩) (fun z hz => by
      rcases hpass z hz with h | ⟨hz0, nm, hl1, hn1⟩
      · exact Or.inl h
      · obtain ⟨c6, hc6, hcl6⟩ := Cond.classLink_spec hown hl1 e.platform hpl
        obtain ⟨a8, b8, h1, h2, h3⟩ := hn1
        cases Option.some.inj (h1.symm.trans hcl)
        cases Option.some.inj (h2.symm.trans hc6)
        exact Or.inr ⟨hz0, _, hcl6, h3⟩)
  obtain ⟨g₀, hfr⟩ := X'.frames_eq
  have hcell9 : ((T.setVm vm').setFrames (.throwing q :: below)).heap[q]? = some ce := by
    show T.heap[q]? = some ce
    rw [hT]; exact hcell
  have hend : Ended ((T.setVm vm').setFrames (.throwing q :: below)) below (.threw q) := State.frames_setFrames _ (State.cur_lt_of_frames hfr)
  refine ⟨(T.setVm vm').setFrames (.throwing q :: below), ?_, .threw q, X'.here.running, hend, Or.inr ⟨q, rfl, E, ce, locs, hx _ hT (X'.ends _).1.alike, hcell9, hv, hcl, (X'.ends _).1, (X'.ends _).2.mono hc hs, hf⟩⟩
  rw [X.pushThrowing_eq]
  exact st
/-- a thing of a world lies in the heap -/
theorem vx_lt {D : va_G} {cl : List vw_C} {ws : va_W} {H1 : Heap} (h : va_P D cl ws H1) {k : Nat} {q : Nat × va_E} (hk : ws[k]? = some q) : q.1 < H1.size := (h k q hk).lt
end VXS
/-! ===== END ===== -/
/-! ===== BEGIN methods with a table of their own: called by a name, returning or throwing ===== -/
section VXH
/-! vx_backW, vx_callVX, vx_callSX, vx_callVW, vx_runVW, vx_runVX, vx_runSX, vx_ofWH follow the same proofs as their sisters above (Free/Laws.lean, Shelf42/LK1.lean); vx_outP calls Shelf42/NT130.lean (outThrough). -/
section
variable {l : Launch} {R : Room} {p : Program} {e : Env} {below : List Frame} {s : State} {sargs : Array Value} {y : MethodName} {len W9 : Nat}
theorem vx_backW {ws : List Cond} {rm : Room} {Pc : Array Value → State → Prop} {Qc : Array Value → State → Outcome → State → Prop} {XC : String → State → State → Prop} {mc ms : Nat} {free : Addr → Prop} {bytes : ByteArray} {maxL : Nat} {ret : Option FieldType} {hh : List (Nat × Nat × Nat × Nat)}
    (hM : vx_Met l y ws rm Pc Qc XC mc ms free) (hblind : FrameBlind Pc) (hrc : rm.cells = mc) (hrs : rm.slots = ms)
    (hframes : rm.frames + 1 ≤ R.frames) (hlocals : W9 + (maxL + 11) + rm.locals ≤ R.locals)
    (hws : ∀ w ∈ ws, ∀ a' U, s.WarmedH U.vm → w.before a' U = true) (hcode : Cond.codeWith y bytes maxL ret hh ∈ ws) (hinit : ∀ a' U, s.WarmedH U.vm → (Cond.initialized y.cls).before a' U = true) :
    vx_Back l R p e below s sargs y len W9 (PreOf R mc ms Pc) (PostOf Qc mc ms free) (vx_Post XC mc ms free) := by
  intro m meth c A g ig mk a X hg hsize hdg hW hn hp
  have h1 : (headSpec ws rm).pre.before a A.U = true := atoms_intro fun w hw => hws w hw _ _ X.warmed
  have h2 : (Cond.codeWith y bytes maxL ret hh).before a A.U = true := hws _ hcode _ _ X.warmed
  have h3 : (Cond.initialized y.cls).before a A.U = true := hinit _ _ X.warmed
  have h4 : A.cells + (headSpec ws rm).room.cells ≤ R.cells := by rw [show (headSpec ws rm).room.cells = mc from hrc]; exact hp.1
  have h5 : A.slots + (headSpec ws rm).room.slots ≤ R.slots := by rw [show (headSpec ws rm).room.slots = ms from hrs]; exact hp.2.1
  have hPc : Pc a (A.U.calling g mk a) := hblind _ _ _ _ hp.2.2
  obtain ⟨U, Ls, c0, s0⟩ := A
  dsimp only [Pt.U, Pt.locs, Pt.cells, Pt.slots] at h1 h2 h3 h4 h5 X hn hPc ⊢
  obtain ⟨m9, methY, cY, hn9, hmY, hcY, -, hlY, -⟩ := Cond.codeWith_spec h2
  cases Option.some.inj (hn9.symm.trans hn)
  obtain ⟨kY, hkY, -⟩ := className_of_methodNamed hn
  have hinitY : kY.init = .initialized := Cond.initialized_spec (findClass_of_methodNamed hn) hkY h3
  have h : At U g.method c below := by rw [hg]; exact X.here
  have hlocals9 : W9 + (maxL + 11) + (headSpec ws rm).room.locals ≤ R.locals := hlocals
  have happ : (headSpec ws rm).appliesLoose y e.platform (U.calling g mk a) = true :=
    Spec.appliesLoose_calling (g := g) h hdg hn hkY hinitY
      (X.room_calling (g := g) (R' := (headSpec ws rm).room) hsize hmY hcY hframes (by rw [hlY]; omega) h4 h5) h1
  obtain ⟨mid, hmid⟩ := h.above
  have hfr : (U.setTop g).frames = (.java g :: mid) ++ below := by rw [State.frames_setTop' g h.top, hmid]; rfl
  obtain ⟨o, s₂, hsteps, -, hend, hq⟩ := Steps.callFree hM p X.admits X.cas X.clock (acts := []) hfr happ hPc trivial
  have hq' : vx_Q Qc XC mc ms free a (U.calling g mk a) o s₂ := hq
  rw [State.frames_setTop' g h.top] at hend
  obtain ⟨g₀, hg0⟩ := Option.isSome_iff_exists.mp h.top
  obtain ⟨r, hr⟩ := State.topJava?_eq_some.mp hg0
  have hr' : (({ U with heap := s₂.heap, slotsUsed := s₂.slotsUsed } : State).setVm s₂.vm).frames = .java g₀ :: r := hr
  rcases hq' with ⟨hqc, L, hfe, hL⟩ | ⟨q, rfl, E, ce, L, hx, hce, hcv, hcl, hW₂, hsm, hL⟩
  · obtain ⟨⟨v, rfl⟩, hW₂, e2, q2, q3, q4, q5, q6⟩ := id hfe
    have e3 : s₂ = ({ (U.calling g mk a).setFrames s₂.frames with heap := s₂.heap, slotsUsed := s₂.slotsUsed } : State).setVm s₂.vm := by
      have : s₂ = ({ s₂ with vm := (U.calling g mk a).vm } : State).setVm s₂.vm := rfl
      rw [e2] at this
      exact this
    obtain ⟨c₂, i₂, len₂, hc₂, hd₂, hf₂⟩ := hend
    have hW' : U.WarmedH s₂.vm := hW₂
    have hcc : c₂ = c := by
      have h1 : s₂.code? g.method = U.code? g.method := by
        rw [State.code?_eq, State.code?_eq, hW'.alike.method?]
      exact Option.some.inj (hc₂.symm.trans (h1.trans h.code))
    subst hcc
    have hlen : len₂ = len := by rw [hdg] at hd₂; cases hd₂; rfl
    subst hlen
    have hs₂ : s₂ = (({ U with heap := s₂.heap, slotsUsed := s₂.slotsUsed } : State).setVm s₂.vm).setTop { g with pc := g.pc + len₂, stack := v.toList ++ g.stack } := by
      refine e3.trans ?_
      rw [hf₂, State.calling_eq h.top, State.setFrames_setFrames, State.setTop_of_frames _ hr', hr]
      rfl
    have hsame : U.sameButNew ({ U with heap := s₂.heap, slotsUsed := s₂.slotsUsed } : State) L mc ms := by
      refine ⟨?_, q2, q3, q4, q5, q6⟩
      obtain ⟨t, ht, -⟩ := State.frames_cons hr
      show ({ U with heap := s₂.heap, slotsUsed := s₂.slotsUsed } : State) = { U.setFrames U.frames with heap := s₂.heap, slotsUsed := s₂.slotsUsed }
      rw [State.setFrames_self ht]
    subst hg
    refine Or.inl ⟨v, ⟨(({ U with heap := s₂.heap, slotsUsed := s₂.slotsUsed } : State).setVm s₂.vm), Ls ++ L, c0 + mc, s0 + ms⟩,
      ⟨X.admits, X.cas, X.clock, X.frames, X.room, X.hears, X.method, X.code, (X.here.setHeapUsed s₂.heap s₂.slotsUsed).setVm hW'.alike, X.tail, State.WarmedH.trans X.warmed hW', X.limits, X.bytes, X.same.trans (hsame.setVm s.vm)⟩,
      ⟨g, mk, s₂, L, rfl, rfl, hqc, rfl, hL, rfl, rfl⟩, ?_⟩
    show Steps p.tables e below _ ((({ U with heap := s₂.heap, slotsUsed := s₂.slotsUsed } : State).setVm s₂.vm).setTop { g with pc := g.pc + len₂, stack := v.toList ++ g.stack })
    rw [← hs₂]
    exact hsteps
  · obtain ⟨e2, q2, q3, q4, q5, q6⟩ := id hsm
    have e3 : s₂ = ({ (U.calling g mk a).setFrames s₂.frames with heap := s₂.heap, slotsUsed := s₂.slotsUsed } : State).setVm s₂.vm := by
      have : s₂ = ({ s₂ with vm := (U.calling g mk a).vm } : State).setVm s₂.vm := rfl
      rw [e2] at this
      exact this
    have hf₂ : s₂.frames = .throwing q :: .java g :: U.frames.tail := hend
    have hW' : U.WarmedH s₂.vm := hW₂
    have hs₂ : s₂ = ((({ U with heap := s₂.heap, slotsUsed := s₂.slotsUsed } : State).setVm s₂.vm).setTop g).pushFrame (.throwing q) := by
      refine e3.trans ?_
      rw [hf₂, State.calling_eq h.top, State.setFrames_setFrames, State.pushFrame, State.frames_setTop _ hr', State.setTop_of_frames _ hr', State.setFrames_setFrames, hr]
      rfl
    have hsame : U.sameButNew ({ U with heap := s₂.heap, slotsUsed := s₂.slotsUsed } : State) L mc ms := by
      refine ⟨?_, q2, q3, q4, q5, q6⟩
      obtain ⟨t, ht, -⟩ := State.frames_cons hr
      show ({ U with heap := s₂.heap, slotsUsed := s₂.slotsUsed } : State) = { U.setFrames U.frames with heap := s₂.heap, slotsUsed := s₂.slotsUsed }
      rw [State.setFrames_self ht]
    subst hg
    refine Or.inr ⟨q, ⟨(({ U with heap := s₂.heap, slotsUsed := s₂.slotsUsed } : State).setVm s₂.vm), Ls ++ L, c0 + mc, s0 + ms⟩,
      ⟨X.admits, X.cas, X.clock, X.frames, X.room, X.hears, X.method, X.code, (X.here.setHeapUsed s₂.heap s₂.slotsUsed).setVm hW'.alike, X.tail, State.WarmedH.trans X.warmed hW', X.limits, X.bytes, X.same.trans (hsame.setVm s.vm)⟩,
      ⟨g, mk, s₂, L, E, ce, rfl, rfl, hx, hce, hcv, hcl, rfl, hL, rfl, rfl⟩, ?_⟩
    show Steps p.tables e below _ (((({ U with heap := s₂.heap, slotsUsed := s₂.slotsUsed } : State).setVm s₂.vm).setTop g).pushFrame (.throwing q))
    rw [← hs₂]
    exact hsteps
end
variable {p : Program} {l : Launch} {e : Env} {R : Room} {s : State} {m : MethodId} {args : Array Value} {below : List Frame} {meth : Method} {c : Code} {T : State} {H : Heap} {locs : List Loc} {cells slots : Nat}
theorem vx_callVX (X : Stand p l e R s m args below meth c T locs cells slots) (hexec : p.tables.exec = Jvm.exec) {own C : String} {index : Nat} {y : MethodName} {bytes : ByteArray} {maxL : Nat} {ret : Option FieldType} {hh : List (Nat × Nat × Nat × Nat)}
    (hown : s.vm.findClass own = some m.cls) (hlink : (Cond.methodLink own index y).before args s = true) (hinst : (Cond.instanceMethod y).before args s = true) (hsel : (Cond.selects C y y).before args s = true)
    (hcode : (Cond.codeWith y bytes maxL ret hh).before args s = true) (hy : y.cls ≠ "java/lang/invoke/MethodHandle" ∧ y.cls ≠ "java/lang/invoke/VarHandle")
    {W9 : Nat} {Pre : Pt → Array Value → Prop} {Post : Pt → Array Value → Option Value → Pt → Prop} {PostX : Pt → Array Value → Addr → Pt → Prop} (hK : vx_Back l R p e below s args y 3 W9 Pre Post PostX)
    {b : Addr} {cellB : Cell} (hcell : T.heap[b]? = some cellB) (hobj : cellB.vm.isStatics = false) (hcls : s.vm.findClass C = some cellB.cls)
    {g : JFrame} (hg : g.method = m) (hsize : g.locals.size = c.maxLocals) {argsL rest : List Value} (hlen : ∀ sig, parseMethodDescriptor y.desc = some sig → argsL.length = sig.parameters.length)
    (hstack : g.stack = argsL.reverse ++ .ref b :: rest) (hW : 2 * g.monitorRoom + (rest.map fun v => v.category).sum ≤ W9) (hdg : decode c.code g.pc = .ok (.invokevirtual index, 3))
    (hpre : ∀ vm₁, s.WarmedH vm₁ → Pre ⟨T.setVm vm₁, locs, cells, slots⟩ (Value.ref b :: argsL).toArray) :
    (∃ (v : Option Value) (vm₁ : Vm) (B : Pt), s.WarmedH vm₁ ∧ Stand p l e R s m args below meth c B.U B.locs B.cells B.slots ∧ Post ⟨T.setVm vm₁, locs, cells, slots⟩ (Value.ref b :: argsL).toArray v B ∧
      ∀ target, Steps p.tables e below (B.U.setTop { g with pc := g.pc + 3, stack := v.toList ++ rest }) target → Steps p.tables e below (T.setTop g) target) ∨
    (∃ (q : Addr) (vm₁ : Vm) (B : Pt), s.WarmedH vm₁ ∧ Stand p l e R s m args below meth c B.U B.locs B.cells B.slots ∧ PostX ⟨T.setVm vm₁, locs, cells, slots⟩ (Value.ref b :: argsL).toArray q B ∧
      Steps p.tables e below (T.setTop g) ((B.U.setTop { g with stack := rest }).pushFrame (.throwing q))) := by
  obtain ⟨mk, methM, hnamed, hmethM, hstM, habM⟩ := Cond.instanceMethod_spec hinst
  obtain ⟨m8, methM', cM, hn8, hmethM', -, -, -, -, -, -, hsigM⟩ := Cond.codeWith_spec hcode
  cases Option.some.inj (hn8.symm.trans hnamed)
  cases hmethM.symm.trans hmethM'
  obtain ⟨c2, r2, m2, q1, q2, q3, q4, kP, hkP, hkPi⟩ := Cond.selects_spec hsel
  cases hcls.symm.trans q1
  cases (State.methodFound?_of_named hnamed hy).symm.trans q2
  cases hnamed.symm.trans q3
  have hselP : selectMethod e.platform s.vm cellB.cls mk = .method mk := by rw [Launch.admits_selectMethod X.admits]; exact q4
  obtain ⟨vm₁, X₁, hstep₁⟩ := X.invokevirtual hexec hown hlink hnamed hmethM hstM hkP hkPi hy (a := b) (cell := cellB) hcell
    (fun z h => by rw [h] at hobj; cases hobj) hselP hmethM habM hkP hkPi (g := g) hg (argsL := argsL) (rest := rest) (hlen _ hsigM) hstack hdg
  rcases hK m meth c ⟨T.setVm vm₁, locs, cells, slots⟩ { g with stack := rest } (.invokevirtual index) mk (Value.ref b :: argsL).toArray X₁ hg hsize hdg hW (X₁.named hnamed) (hpre vm₁ X₁.warmed) with ⟨v, B, X', hpost, hsteps⟩ | ⟨q, B, X', hpost, hsteps⟩
  · exact Or.inl ⟨v, vm₁, B, X₁.warmed, X', hpost, fun target h => hstep₁ _ fun acts => by rw [doInvoke_state]; exact hsteps.trans h⟩
  · exact Or.inr ⟨q, vm₁, B, X₁.warmed, X', hpost, hstep₁ _ fun acts => by rw [doInvoke_state]; exact hsteps⟩
theorem vx_callSX (X : Stand p l e R s m args below meth c T locs cells slots) (hexec : p.tables.exec = Jvm.exec) {own : String} {index : Nat} {y : MethodName} {bytes : ByteArray} {maxL : Nat} {ret : Option FieldType} {hh : List (Nat × Nat × Nat × Nat)}
    (hown : s.vm.findClass own = some m.cls) (hlink : (Cond.methodLink own index y).before args s = true) (hstat : (Cond.static y).before args s = true) (hinit : (Cond.initialized y.cls).before args s = true)
    (hcode : (Cond.codeWith y bytes maxL ret hh).before args s = true) (hy : y.cls ≠ "java/lang/invoke/MethodHandle" ∧ y.cls ≠ "java/lang/invoke/VarHandle")
    {W9 : Nat} {Pre : Pt → Array Value → Prop} {Post : Pt → Array Value → Option Value → Pt → Prop} {PostX : Pt → Array Value → Addr → Pt → Prop} (hK : vx_Back l R p e below s args y 3 W9 Pre Post PostX)
    {g : JFrame} (hg : g.method = m) (hsize : g.locals.size = c.maxLocals) {argsL rest : List Value} (hlen : ∀ sig, parseMethodDescriptor y.desc = some sig → argsL.length = sig.parameters.length)
    (hstack : g.stack = argsL.reverse ++ rest) (hW : 2 * g.monitorRoom + (rest.map fun v => v.category).sum ≤ W9) (hdg : decode c.code g.pc = .ok (.invokestatic index, 3))
    (hpre : ∀ vm₁, s.WarmedH vm₁ → Pre ⟨T.setVm vm₁, locs, cells, slots⟩ argsL.toArray) :
    (∃ (v : Option Value) (vm₁ : Vm) (B : Pt), s.WarmedH vm₁ ∧ Stand p l e R s m args below meth c B.U B.locs B.cells B.slots ∧ Post ⟨T.setVm vm₁, locs, cells, slots⟩ argsL.toArray v B ∧
      ∀ target, Steps p.tables e below (B.U.setTop { g with pc := g.pc + 3, stack := v.toList ++ rest }) target → Steps p.tables e below (T.setTop g) target) ∨
    (∃ (q : Addr) (vm₁ : Vm) (B : Pt), s.WarmedH vm₁ ∧ Stand p l e R s m args below meth c B.U B.locs B.cells B.slots ∧ PostX ⟨T.setVm vm₁, locs, cells, slots⟩ argsL.toArray q B ∧
      Steps p.tables e below (T.setTop g) ((B.U.setTop { g with stack := rest }).pushFrame (.throwing q))) := by
  obtain ⟨mk, methM, cM, hnamed, hmethM, -, -, -, -, -, -, hsigM⟩ := Cond.codeWith_spec hcode
  have hstatic : methM.isStatic = true := Cond.static_spec hnamed hmethM hstat
  obtain ⟨kP, hkP, -⟩ := className_of_methodNamed hnamed
  have hinitP : kP.init = .initialized := Cond.initialized_spec (findClass_of_methodNamed hnamed) hkP hinit
  obtain ⟨vm₁, X₁, hstep₁⟩ := X.invokestatic hexec hown hlink hnamed hmethM hstatic hkP hinitP hy (g := g) hg (argsL := argsL) (rest := rest) (hlen _ hsigM) hstack hdg
  rcases hK m meth c ⟨T.setVm vm₁, locs, cells, slots⟩ { g with stack := rest } (.invokestatic index) mk argsL.toArray X₁ hg hsize hdg hW (X₁.named hnamed) (hpre vm₁ X₁.warmed) with ⟨v, B, X', hpost, hsteps⟩ | ⟨q, B, X', hpost, hsteps⟩
  · exact Or.inl ⟨v, vm₁, B, X₁.warmed, X', hpost, fun target h => hstep₁ _ fun acts => by rw [doInvoke_state]; exact hsteps.trans h⟩
  · exact Or.inr ⟨q, vm₁, B, X₁.warmed, X', hpost, hstep₁ _ fun acts => by rw [doInvoke_state]; exact hsteps⟩
theorem vx_callVW (X : Stand p l e R s m args below meth c T locs cells slots) (hexec : p.tables.exec = Jvm.exec) {own C : String} {index : Nat} {y : MethodName} {bytes : ByteArray} {maxL : Nat} {ret : Option FieldType} {hh : List (Nat × Nat × Nat × Nat)}
    (hown : s.vm.findClass own = some m.cls) (hlink : (Cond.methodLink own index y).before args s = true) (hinst : (Cond.instanceMethod y).before args s = true) (hsel : (Cond.selects C y y).before args s = true)
    (hcode : (Cond.codeWith y bytes maxL ret hh).before args s = true) (hy : y.cls ≠ "java/lang/invoke/MethodHandle" ∧ y.cls ≠ "java/lang/invoke/VarHandle")
    {W9 : Nat} {Pre : Pt → Array Value → Prop} {Post : Pt → Array Value → Option Value → Pt → Prop} (hK : Back l R p e below s args y 3 W9 Pre Post)
    {b : Addr} {cellB : Cell} (hcell : T.heap[b]? = some cellB) (hobj : cellB.vm.isStatics = false) (hcls : s.vm.findClass C = some cellB.cls)
    {g : JFrame} (hg : g.method = m) (hsize : g.locals.size = c.maxLocals) {argsL rest : List Value} (hlen : ∀ sig, parseMethodDescriptor y.desc = some sig → argsL.length = sig.parameters.length)
    (hstack : g.stack = argsL.reverse ++ .ref b :: rest) (hW : 2 * g.monitorRoom + (rest.map fun v => v.category).sum ≤ W9) (hdg : decode c.code g.pc = .ok (.invokevirtual index, 3))
    (hpre : ∀ vm₁, s.WarmedH vm₁ → Pre ⟨T.setVm vm₁, locs, cells, slots⟩ (Value.ref b :: argsL).toArray) :
    ∃ (v : Option Value) (vm₁ : Vm) (B : Pt), s.WarmedH vm₁ ∧ Stand p l e R s m args below meth c B.U B.locs B.cells B.slots ∧ Post ⟨T.setVm vm₁, locs, cells, slots⟩ (Value.ref b :: argsL).toArray v B ∧
      ∀ target, Steps p.tables e below (B.U.setTop { g with pc := g.pc + 3, stack := v.toList ++ rest }) target → Steps p.tables e below (T.setTop g) target := by
  obtain ⟨mk, methM, hnamed, hmethM, hstM, habM⟩ := Cond.instanceMethod_spec hinst
  obtain ⟨m8, methM', cM, hn8, hmethM', -, -, -, -, -, -, hsigM⟩ := Cond.codeWith_spec hcode
  cases Option.some.inj (hn8.symm.trans hnamed)
  cases hmethM.symm.trans hmethM'
  obtain ⟨c2, r2, m2, q1, q2, q3, q4, kP, hkP, hkPi⟩ := Cond.selects_spec hsel
  cases hcls.symm.trans q1
  cases (State.methodFound?_of_named hnamed hy).symm.trans q2
  cases hnamed.symm.trans q3
  have hselP : selectMethod e.platform s.vm cellB.cls mk = .method mk := by rw [Launch.admits_selectMethod X.admits]; exact q4
  obtain ⟨vm₁, X₁, hstep₁⟩ := X.invokevirtual hexec hown hlink hnamed hmethM hstM hkP hkPi hy (a := b) (cell := cellB) hcell
    (fun z h => by rw [h] at hobj; cases hobj) hselP hmethM habM hkP hkPi (g := g) hg (argsL := argsL) (rest := rest) (hlen _ hsigM) hstack hdg
  obtain ⟨v, B, X', hpost, hsteps⟩ := hK m meth c ⟨T.setVm vm₁, locs, cells, slots⟩ { g with stack := rest } (.invokevirtual index) mk (Value.ref b :: argsL).toArray X₁ hg hsize hdg hW (X₁.named hnamed) (hpre vm₁ X₁.warmed)
  exact ⟨v, vm₁, B, X₁.warmed, X', hpost, fun target h => hstep₁ _ fun acts => by rw [doInvoke_state]; exact hsteps.trans h⟩
abbrev vx_CVW (R : Room) (s : State) (args : Array Value) (own C : String) (index : Nat) (y : MethodName) (bytes : ByteArray) (maxL : Nat) (ret : Option FieldType) (hh : List (Nat × Nat × Nat × Nat)) (ws : List Cond) (rm : Room) (mc ms n : Nat) : Prop :=
  (rm.cells = mc ∧ rm.slots = ms ∧ rm.frames + 1 ≤ R.frames ∧ 8 + (maxL + 11) + rm.locals ≤ R.locals ∧ (∀ w ∈ ws, ∀ (a' : Array Value) (U : State), s.WarmedH U.vm → w.before a' U = true) ∧ Cond.codeWith y bytes maxL ret hh ∈ ws) ∧
  (Cond.codeWith y bytes maxL ret hh).before args s = true ∧ (Cond.initialized y.cls).before args s = true ∧ (y.cls ≠ "java/lang/invoke/MethodHandle" ∧ y.cls ≠ "java/lang/invoke/VarHandle") ∧
  (∀ sig, parseMethodDescriptor y.desc = some sig → n = sig.parameters.length) ∧ (Cond.methodLink own index y).before args s = true ∧ (Cond.instanceMethod y).before args s = true ∧ (Cond.selects C y y).before args s = true
theorem vx_cwVW {own C : String} {index maxL mc ms : Nat} {y : MethodName} {bytes : ByteArray} {ret : Option FieldType} {hh : List (Nat × Nat × Nat × Nat)} {Ts ws ws' : List Cond} {rm : Room} (n : Nat) (ht : ∀ w ∈ Ts, w.before args s = true) (hT : GoodIn Ts (wsV own index C y ws)) (hw : ws = Cond.codeWith y bytes maxL ret hh :: ws') (hrc : rm.cells = mc) (hrs : rm.slots = ms)
    (hd : y.cls = C ∧ y.cls ≠ "java/lang/invoke/MethodHandle" ∧ y.cls ≠ "java/lang/invoke/VarHandle" ∧ (parseMethodDescriptor y.desc).map (fun d => d.parameters.length) = some n) (hR : rm.frames + 1 ≤ R.frames ∧ 8 + (maxL + 11) + rm.locals ≤ R.locals) :
    vx_CVW R s args own C index y bytes maxL ret hh ws rm mc ms n := by
  obtain ⟨hC, hd⟩ := hd
  subst hC
  have ok : ∀ w ∈ wsV own index y.cls y ws, w.before args s = true := fun w h => ht w (hT w h).1
  have hG : GoodIn Ts ws := fun w h => hT w (by unfold wsV; exact List.mem_append_right _ h)
  have hc : Cond.codeWith y bytes maxL ret hh ∈ ws := by rw [hw]; exact List.mem_cons_self
  refine ⟨⟨hrc, hrs, hR.1, hR.2, pay_in ht hG, hc⟩, ht _ (hG _ hc).1, ok _ (by simp [wsV]), ⟨hd.1, hd.2.1⟩, fun sig h => ?_, ok _ (by simp [wsV]), ok _ (by simp [wsV]), ok _ (by simp [wsV])⟩
  have h2 := hd.2.2
  rw [h] at h2
  exact (Option.some.inj h2).symm
theorem vx_runVW {y : MethodName} {bytes cc : ByteArray} {maxL nL mc ms n index : Nat} {ret : Option FieldType} {hh : List (Nat × Nat × Nat × Nat)} {ws : List Cond} {rm : Room} {Pc : Array Value → State → Prop} {Qc : Array Value → State → Outcome → State → Prop} {free : Addr → Prop} {Ts : List Cond} {own C : String} {b : Addr} {As rest : List Value} {g : JFrame}
    (S : CallFix p m c cc nL s args Ts own) (hM : Met l y ws rm Pc Qc mc ms free) (cw : vx_CVW R s args own C index y bytes maxL ret hh ws rm mc ms n) (hp : PreV s H C b Pc As)
    (hg : g.method = m) (hn : As.length = n) (hsize : g.locals.size = nL) (hstack : g.stack = As.reverse ++ .ref b :: rest) (hW : 2 * g.monitorRoom + (rest.map fun v => v.category).sum ≤ 8) (hdg : decode cc g.pc = .ok (.invokevirtual index, 3)) (hf : cells + mc ≤ R.cells ∧ slots + ms ≤ R.slots) :
    va_Run p l e R s m args below meth c H locs cells slots mc ms g rest (Qc (Value.ref b :: As).toArray) free := by
  obtain ⟨⟨hrc, hrs, hfr, hlo, hws, hcw⟩, hcode, hini, hy, hlen, hl, hin, hse⟩ := cw
  have hK : Back l R p e below s args y 3 8 (PreOf R mc ms Pc) (PostOf Qc mc ms free) := va_backW (hh := hh) (bytes := bytes) (maxL := maxL) (ret := ret) hM hp.1 hrc hrs hfr hlo hws hcw (fun a' U hW => word_at hW (Or.inl (by first | rfl | simp [Cond.onTables, Cond.keeps, Cond.steady])) hini)
  obtain ⟨hx, hb, hml, ho, -⟩ := S
  obtain ⟨-, ⟨cellB, hcB, hoB, hclB⟩, hPc⟩ := hp
  intro T hT X
  obtain ⟨v, vm₁, ⟨U', l2, c2, s2⟩, hW₁, X', ⟨g', mk, t, L, e1, e2, hq, h1, hL, h2, h3⟩, st⟩ := vx_callVW X hx (C := C) (hh := hh) (bytes := bytes) (maxL := maxL) (ret := ret) ho hl hin hse hcode hy hK (by rw [hT]; exact hcB) hoB hclB hg (hsize.trans hml.symm) (argsL := As) (rest := rest) (fun sig h => hn.trans (hlen sig h)) hstack hW (by rw [hb]; exact hdg)
    (fun vm₁ hW₁ => ⟨hf.1, hf.2, hPc (T.setVm vm₁) hT hW₁⟩)
  dsimp only [Pt.U, Pt.locs, Pt.cells, Pt.slots] at X' e1 e2 h1 h2 h3 st
  subst h1; subst h2; subst h3
  exact ⟨v, (T.setVm vm₁).calling g' mk (Value.ref b :: As).toArray, t, U', L, hT, X', hL, e1, e2, hq, st⟩
section
variable {y : MethodName} {bytes cc : ByteArray} {maxL nL mc ms n index : Nat} {ret : Option FieldType} {ws : List Cond} {rm : Room} {Pc : Array Value → State → Prop} {Qc : Array Value → State → Outcome → State → Prop} {XC : String → State → State → Prop} {free : Addr → Prop} {Ts : List Cond} {own C : String} {b : Addr} {As rest : List Value} {g : JFrame}
theorem vx_runVX {hh : List (Nat × Nat × Nat × Nat)} (S : CallFix p m c cc nL s args Ts own) (hM : vx_Met l y ws rm Pc Qc XC mc ms free) (cw : vx_CVW R s args own C index y bytes maxL ret hh ws rm mc ms n) (hp : PreV s H C b Pc As)
    (hg : g.method = m) (hn : As.length = n) (hsize : g.locals.size = nL) (hstack : g.stack = As.reverse ++ .ref b :: rest) (hW : 2 * g.monitorRoom + (rest.map fun v => v.category).sum ≤ 8) (hdg : decode cc g.pc = .ok (.invokevirtual index, 3)) (hf : cells + mc ≤ R.cells ∧ slots + ms ≤ R.slots) :
    vx_Run p l e R s m args below meth c H locs cells slots mc ms g rest (Qc (Value.ref b :: As).toArray) XC free := by
  obtain ⟨⟨hrc, hrs, hfr, hlo, hws, hcw⟩, hcode, hini, hy, hlen, hl, hin, hse⟩ := cw
  have hK : vx_Back l R p e below s args y 3 8 (PreOf R mc ms Pc) (PostOf Qc mc ms free) (vx_Post XC mc ms free) := vx_backW (hh := hh) (bytes := bytes) (maxL := maxL) (ret := ret) hM hp.1 hrc hrs hfr hlo hws hcw (fun a' U hW => word_at hW (Or.inl (by first | rfl | simp [Cond.onTables, Cond.keeps, Cond.steady])) hini)
  obtain ⟨hx, hb, hml, ho, -⟩ := S
  obtain ⟨-, ⟨cellB, hcB, hoB, hclB⟩, hPc⟩ := hp
  intro T hT X
  rcases vx_callVX X hx (C := C) (hh := hh) (bytes := bytes) (maxL := maxL) (ret := ret) ho hl hin hse hcode hy hK (by rw [hT]; exact hcB) hoB hclB hg (hsize.trans hml.symm) (argsL := As) (rest := rest) (fun sig h => hn.trans (hlen sig h)) hstack hW (by rw [hb]; exact hdg)
    (fun vm₁ hW₁ => ⟨hf.1, hf.2, hPc (T.setVm vm₁) hT hW₁⟩) with ⟨v, vm₁, ⟨U', l2, c2, s2⟩, hW₁, X', ⟨g', mk, t, L, e1, e2, hq, h1, hL, h2, h3⟩, st⟩ | ⟨q, vm₁, ⟨U', l2, c2, s2⟩, hW₁, X', ⟨g', mk, t, L, E, ce, e1, e2, hq, hce, hcv, hcl, h1, hL, h2, h3⟩, st⟩
  · dsimp only [Pt.U, Pt.locs, Pt.cells, Pt.slots] at X' e1 e2 h1 h2 h3 st
    subst h1; subst h2; subst h3
    exact Or.inl ⟨v, (T.setVm vm₁).calling g' mk (Value.ref b :: As).toArray, t, U', L, hT, X', hL, e1, e2, hq, st⟩
  · dsimp only [Pt.U, Pt.locs, Pt.cells, Pt.slots] at X' e1 e2 h1 h2 h3 st hcl
    subst h1; subst h2; subst h3
    exact Or.inr ⟨q, (T.setVm vm₁).calling g' mk (Value.ref b :: As).toArray, t, U', L, E, ce, hT, X', hL, e1, e2, hq, hce, hcv, vx_cls hW₁ hcl, st⟩
theorem vx_runSX {hh : List (Nat × Nat × Nat × Nat)} (S : CallFix p m c cc nL s args Ts own) (hM : vx_Met l y ws rm Pc Qc XC mc ms free) (cw : vx_CSW R s args own index y bytes maxL ret hh ws rm mc ms n) (hp : PreS s H Pc As)
    (hg : g.method = m) (hn : As.length = n) (hsize : g.locals.size = nL) (hstack : g.stack = As.reverse ++ rest) (hW : 2 * g.monitorRoom + (rest.map fun v => v.category).sum ≤ 8) (hdg : decode cc g.pc = .ok (.invokestatic index, 3)) (hf : cells + mc ≤ R.cells ∧ slots + ms ≤ R.slots) :
    vx_Run p l e R s m args below meth c H locs cells slots mc ms g rest (Qc As.toArray) XC free := by
  obtain ⟨⟨hrc, hrs, hfr, hlo, hws, hcw⟩, hcode, hini, hy, hlen, hl, hstt⟩ := cw
  have hK : vx_Back l R p e below s args y 3 8 (PreOf R mc ms Pc) (PostOf Qc mc ms free) (vx_Post XC mc ms free) := vx_backW (hh := hh) (bytes := bytes) (maxL := maxL) (ret := ret) hM hp.1 hrc hrs hfr hlo hws hcw (fun a' U hW => word_at hW (Or.inl (by first | rfl | simp [Cond.onTables, Cond.keeps, Cond.steady])) hini)
  obtain ⟨hx, hb, hml, ho, -⟩ := S
  intro T hT X
  rcases vx_callSX X hx (hh := hh) (bytes := bytes) (maxL := maxL) (ret := ret) ho hl hstt hini hcode hy hK hg (hsize.trans hml.symm) (argsL := As) (rest := rest) (fun sig h => hn.trans (hlen sig h)) hstack hW (by rw [hb]; exact hdg)
    (fun vm₁ hW₁ => ⟨hf.1, hf.2, hp.2 (T.setVm vm₁) hT hW₁⟩) with ⟨v, vm₁, ⟨U', l2, c2, s2⟩, hW₁, X', ⟨g', mk, t, L, e1, e2, hq, h1, hL, h2, h3⟩, st⟩ | ⟨q, vm₁, ⟨U', l2, c2, s2⟩, hW₁, X', ⟨g', mk, t, L, E, ce, e1, e2, hq, hce, hcv, hcl, h1, hL, h2, h3⟩, st⟩
  · dsimp only [Pt.U, Pt.locs, Pt.cells, Pt.slots] at X' e1 e2 h1 h2 h3 st
    subst h1; subst h2; subst h3
    exact Or.inl ⟨v, (T.setVm vm₁).calling g' mk As.toArray, t, U', L, hT, X', hL, e1, e2, hq, st⟩
  · dsimp only [Pt.U, Pt.locs, Pt.cells, Pt.slots] at X' e1 e2 h1 h2 h3 st hcl
    subst h1; subst h2; subst h3
    exact Or.inr ⟨q, (T.setVm vm₁).calling g' mk As.toArray, t, U', L, E, ce, hT, X', hL, e1, e2, hq, hce, hcv, vx_cls hW₁ hcl, st⟩
end
end VXH
theorem vx_ofWH {l : Launch} {y : MethodName} {ws ws' : List Cond} {rm : Room} {Pc : Array Value → State → Prop} {Qc : Array Value → State → Outcome → State → Prop} {XC : String → State → State → Prop} {mc ms : Nat} {free : Addr → Prop} {cc : ByteArray} {maxL : Nat} {ret : Option FieldType} {hh : List (Nat × Nat × Nat × Nat)}
    (hy : plainName y.cls = true) (hw : ws = Cond.codeWith y cc maxL ret hh :: ws')
    (body : ∀ p e s m args below meth c s₁, BodyLoose p l y (headSpec ws rm) cc maxL ret e s m args below meth c s₁ → c.maxLocals = maxL → Pc args s →
      W p l e (headSpec ws rm).room s m args below meth c s.heap [] 0 0 (vx_MQ below Qc XC args s mc ms free) (entryFrame m args maxL)) : vx_Met l y ws rm Pc Qc XC mc ms free := by
  refine MetFree.of_bodyS (code := cc) (maxLocals := maxL) (ret := ret) hy ?_ ?_
  · intro args s m h hn
    obtain ⟨m9, meth, c, hn9, h1, h2, h3, h4, -, h5, h6, -⟩ := Cond.codeWith_spec (atoms_spec (ws := ws) h _ (by rw [hw]; exact List.mem_cons_self))
    cases hn.symm.trans hn9
    exact ⟨meth, c, h1, h2, h3, h4, h5, h6⟩
  · intro p e s m args below meth c s₁ B hml hP _
    have hh0 : s₁.heap = s.heap := by rw [B.state]; rfl
    obtain ⟨t, a1, o, b1, b2, b3⟩ := body p e s m args below meth c s₁ B hml hP s₁ hh0 (Stand.of_body B)
    exact ⟨t, o, a1, b1, b2, b3⟩
/-! ===== END ===== -/

/-! ===== BEGIN printed: names, fields, word lists, decode rows ===== -/
def RX0 : String := "Threetwo$Buffer"
def TX0 : u_T := fun k => match k with
  | 0 => ("Threetwo$Buffer", "sizes", "LThreetwo$Row;", true)
  | _ => ("Threetwo$Buffer", "rateNow", "I", false)
def tyX0 : Nat → FieldType := fun k => match k with
  | 0 => .object "Threetwo$Row"
  | _ => .int
abbrev wsX00 : List Cond := u_ws RX0 TX0 2
theorem nmX0 : ∀ a, a < 2 → ∀ b, b < 2 → a ≠ b → (TX0 a).2.1 ≠ (TX0 b).2.1 := by decide +kernel
theorem tyX0_ok : ∀ k, k < 2 → parseFieldDescriptor (TX0 k).2.2.1 = some (tyX0 k) := by decide +kernel
abbrev cX0_init : ByteArray := prog_2_method_1_code
def yX0_init : MethodName := ⟨RX0, "<init>", "()V"⟩
abbrev cX0_firstDry : ByteArray := prog_2_method_2_code
def yX0_firstDry : MethodName := ⟨RX0, "firstDry", "(I)I"⟩
abbrev cX0_leastDelay : ByteArray := prog_2_method_3_code
def yX0_leastDelay : MethodName := ⟨RX0, "leastDelay", "()I"⟩
abbrev cX0_peak : ByteArray := prog_2_method_4_code
def yX0_peak : MethodName := ⟨RX0, "peak", "()I"⟩
abbrev cX0_cameIn : ByteArray := prog_2_method_5_code
def yX0_cameIn : MethodName := ⟨RX0, "cameIn", "(II)I"⟩
abbrev cX0_sumOfSizes : ByteArray := prog_2_method_6_code
def yX0_sumOfSizes : MethodName := ⟨RX0, "sumOfSizes", "()I"⟩
def RX1 : String := "Threetwo$Labels"
def TX1 : u_T := fun k => match k with
  | _ => ("", "", "", false)
def tyX1 : Nat → FieldType := fun k => match k with
  | _ => .int
abbrev wsX10 : List Cond := u_ws RX1 TX1 0
theorem nmX1 : ∀ a, a < 0 → ∀ b, b < 0 → a ≠ b → (TX1 a).2.1 ≠ (TX1 b).2.1 := by decide +kernel
theorem tyX1_ok : ∀ k, k < 0 → parseFieldDescriptor (TX1 k).2.2.1 = some (tyX1 k) := by decide +kernel
abbrev cX1_labelOf : ByteArray := prog_3_method_2_code
def yX1_labelOf : MethodName := ⟨RX1, "labelOf", "(I)I"⟩
abbrev cX1_pictureOf : ByteArray := prog_3_method_3_code
def yX1_pictureOf : MethodName := ⟨RX1, "pictureOf", "(I)I"⟩
abbrev cX1_goesBack : ByteArray := prog_3_method_4_code
def yX1_goesBack : MethodName := ⟨RX1, "goesBack", "(I)Z"⟩
abbrev cX1_isLeftOut : ByteArray := prog_3_method_5_code
def yX1_isLeftOut : MethodName := ⟨RX1, "isLeftOut", "(III)Z"⟩
def RX2 : String := "Threetwo$Prints"
def TX2 : u_T := fun k => match k with
  | 0 => ("Threetwo$Prints", "rows", "[LThreetwo$Row;", true)
  | 1 => ("Threetwo$Prints", "behind", "[I", true)
  | 2 => ("Threetwo$Prints", "signs", "[C", true)
  | _ => ("Threetwo$Prints", "many", "I", false)
def tyX2 : Nat → FieldType := fun k => match k with
  | 0 => .array (.object "Threetwo$Row")
  | 1 => .array .int
  | 2 => .array .char
  | _ => .int
abbrev wsX20 : List Cond := u_ws RX2 TX2 4
theorem nmX2 : ∀ a, a < 4 → ∀ b, b < 4 → a ≠ b → (TX2 a).2.1 ≠ (TX2 b).2.1 := by decide +kernel
theorem tyX2_ok : ∀ k, k < 4 → parseFieldDescriptor (TX2 k).2.2.1 = some (tyX2 k) := by decide +kernel
abbrev cX2_init : ByteArray := prog_4_method_1_code
def yX2_init : MethodName := ⟨RX2, "<init>", "()V"⟩
abbrev cX2_begin : ByteArray := prog_4_method_2_code
def yX2_begin : MethodName := ⟨RX2, "begin", "()I"⟩
abbrev cX2_has : ByteArray := prog_4_method_3_code
def yX2_has : MethodName := ⟨RX2, "has", "(I)Z"⟩
abbrev cX2_row : ByteArray := prog_4_method_4_code
def yX2_row : MethodName := ⟨RX2, "row", "(I)LThreetwo$Row;"⟩
abbrev cX2_distance : ByteArray := prog_4_method_5_code
def yX2_distance : MethodName := ⟨RX2, "distance", "(II)I"⟩
abbrev cX2_layOut : ByteArray := prog_4_method_6_code
def yX2_layOut : MethodName := ⟨RX2, "layOut", "(II)I"⟩
abbrev cX2_leastFrom : ByteArray := prog_4_method_7_code
def yX2_leastFrom : MethodName := ⟨RX2, "leastFrom", "(LThreetwo$Row;LThreetwo$Row;II)I"⟩
abbrev cX2_signAt : ByteArray := prog_4_method_8_code
def yX2_signAt : MethodName := ⟨RX2, "signAt", "(LThreetwo$Row;LThreetwo$Row;II)C"⟩
abbrev cX2_together : ByteArray := prog_4_method_9_code
def yX2_together : MethodName := ⟨RX2, "together", "(II)I"⟩
def RX3 : String := "Threetwo$Rhythm"
def TX3 : u_T := fun k => match k with
  | 0 => ("Threetwo$Rhythm", "behind", "[I", true)
  | 1 => ("Threetwo$Rhythm", "places", "[I", true)
  | 2 => ("Threetwo$Rhythm", "frameOf", "[I", true)
  | 3 => ("Threetwo$Rhythm", "firsts", "[I", true)
  | 4 => ("Threetwo$Rhythm", "lengths", "[I", true)
  | 5 => ("Threetwo$Rhythm", "frameLooks", "[I", true)
  | 6 => ("Threetwo$Rhythm", "cost", "I", false)
  | 7 => ("Threetwo$Rhythm", "frames", "I", false)
  | _ => ("Threetwo$Rhythm", "known", "Z", false)
def tyX3 : Nat → FieldType := fun k => match k with
  | 0 => .array .int
  | 1 => .array .int
  | 2 => .array .int
  | 3 => .array .int
  | 4 => .array .int
  | 5 => .array .int
  | 6 => .int
  | 7 => .int
  | _ => .boolean
abbrev wsX30 : List Cond := u_ws RX3 TX3 9
theorem nmX3 : ∀ a, a < 9 → ∀ b, b < 9 → a ≠ b → (TX3 a).2.1 ≠ (TX3 b).2.1 := by decide +kernel
theorem tyX3_ok : ∀ k, k < 9 → parseFieldDescriptor (TX3 k).2.2.1 = some (tyX3 k) := by decide +kernel
abbrev cX3_init : ByteArray := prog_5_method_1_code
def yX3_init : MethodName := ⟨RX3, "<init>", "()V"⟩
abbrev cX3_forget : ByteArray := prog_5_method_2_code
def yX3_forget : MethodName := ⟨RX3, "forget", "()V"⟩
abbrev cX3_find : ByteArray := prog_5_method_3_code
def yX3_find : MethodName := ⟨RX3, "find", "(LThreetwo$Row;I)V"⟩
abbrev cX3_leastCost : ByteArray := prog_5_method_4_code
def yX3_leastCost : MethodName := ⟨RX3, "leastCost", "(LThreetwo$Row;I)I"⟩
abbrev cX3_tracePath : ByteArray := prog_5_method_5_code
def yX3_tracePath : MethodName := ⟨RX3, "tracePath", "(LThreetwo$Row;I)V"⟩
abbrev cX3_bestFirst : ByteArray := prog_5_method_6_code
def yX3_bestFirst : MethodName := ⟨RX3, "bestFirst", "()I"⟩
abbrev cX3_bestNext : ByteArray := prog_5_method_7_code
def yX3_bestNext : MethodName := ⟨RX3, "bestNext", "(IIZI)I"⟩
abbrev cX3_step : ByteArray := prog_5_method_8_code
def yX3_step : MethodName := ⟨RX3, "step", "(IIZI)I"⟩
abbrev cX3_beginsFrame : ByteArray := prog_5_method_9_code
def yX3_beginsFrame : MethodName := ⟨RX3, "beginsFrame", "(I)Z"⟩
abbrev cX3_gatherFrames : ByteArray := prog_5_method_10_code
def yX3_gatherFrames : MethodName := ⟨RX3, "gatherFrames", "(I)V"⟩
abbrev cX3_commonLook : ByteArray := prog_5_method_11_code
def yX3_commonLook : MethodName := ⟨RX3, "commonLook", "(LThreetwo$Row;II)I"⟩
abbrev cX3_timesOf : ByteArray := prog_5_method_12_code
def yX3_timesOf : MethodName := ⟨RX3, "timesOf", "(ILThreetwo$Row;II)I"⟩
def RX4 : String := "Threetwo$Row"
def TX4 : u_T := fun k => match k with
  | 0 => ("Threetwo$Row", "items", "[I", true)
  | _ => ("Threetwo$Row", "told", "I", false)
def tyX4 : Nat → FieldType := fun k => match k with
  | 0 => .array .int
  | _ => .int
abbrev wsX40 : List Cond := u_ws RX4 TX4 2
theorem nmX4 : ∀ a, a < 2 → ∀ b, b < 2 → a ≠ b → (TX4 a).2.1 ≠ (TX4 b).2.1 := by decide +kernel
theorem tyX4_ok : ∀ k, k < 2 → parseFieldDescriptor (TX4 k).2.2.1 = some (tyX4 k) := by decide +kernel
abbrev cX4_init : ByteArray := prog_6_method_1_code
def yX4_init : MethodName := ⟨RX4, "<init>", "(I)V"⟩
abbrev cX4_many : ByteArray := prog_6_method_2_code
def yX4_many : MethodName := ⟨RX4, "many", "()I"⟩
abbrev cX4_has : ByteArray := prog_6_method_3_code
def yX4_has : MethodName := ⟨RX4, "has", "(I)Z"⟩
abbrev cX4_at : ByteArray := prog_6_method_4_code
def yX4_at : MethodName := ⟨RX4, "at", "(I)I"⟩
abbrev cX4_add : ByteArray := prog_6_method_5_code
def yX4_add : MethodName := ⟨RX4, "add", "(I)I"⟩
abbrev cX4_put : ByteArray := prog_6_method_6_code
def yX4_put : MethodName := ⟨RX4, "put", "(II)V"⟩
abbrev cX4_clear : ByteArray := prog_6_method_7_code
def yX4_clear : MethodName := ⟨RX4, "clear", "()V"⟩
abbrev cX4_remove : ByteArray := prog_6_method_8_code
def yX4_remove : MethodName := ⟨RX4, "remove", "(II)V"⟩
def RX5 : String := "Threetwo$Strip"
def TX5 : u_T := fun k => match k with
  | 0 => ("Threetwo$Strip", "looks", "LThreetwo$Row;", true)
  | 1 => ("Threetwo$Strip", "rest", "LThreetwo$Row;", true)
  | 2 => ("Threetwo$Strip", "noteFields", "[I", true)
  | 3 => ("Threetwo$Strip", "noteLooks", "[I", true)
  | 4 => ("Threetwo$Strip", "signs", "[C", true)
  | _ => ("Threetwo$Strip", "notes", "I", false)
def tyX5 : Nat → FieldType := fun k => match k with
  | 0 => .object "Threetwo$Row"
  | 1 => .object "Threetwo$Row"
  | 2 => .array .int
  | 3 => .array .int
  | 4 => .array .char
  | _ => .int
abbrev wsX50 : List Cond := u_ws RX5 TX5 6
theorem nmX5 : ∀ a, a < 6 → ∀ b, b < 6 → a ≠ b → (TX5 a).2.1 ≠ (TX5 b).2.1 := by decide +kernel
theorem tyX5_ok : ∀ k, k < 6 → parseFieldDescriptor (TX5 k).2.2.1 = some (tyX5 k) := by decide +kernel
abbrev cX5_init : ByteArray := prog_7_method_1_code
def yX5_init : MethodName := ⟨RX5, "<init>", "()V"⟩
abbrev cX5_pullDown : ByteArray := prog_7_method_2_code
def yX5_pullDown : MethodName := ⟨RX5, "pullDown", "(LThreetwo$Row;I)V"⟩
abbrev cX5_cutOut : ByteArray := prog_7_method_3_code
def yX5_cutOut : MethodName := ⟨RX5, "cutOut", "(II)V"⟩
abbrev cX5_note : ByteArray := prog_7_method_4_code
def yX5_note : MethodName := ⟨RX5, "note", "(II)V"⟩
abbrev cX5_takeBack : ByteArray := prog_7_method_5_code
def yX5_takeBack : MethodName := ⟨RX5, "takeBack", "()I"⟩
abbrev cX5_isNoted : ByteArray := prog_7_method_6_code
def yX5_isNoted : MethodName := ⟨RX5, "isNoted", "(I)Z"⟩
abbrev cX5_nameLooks : ByteArray := prog_7_method_8_code
def yX5_nameLooks : MethodName := ⟨RX5, "nameLooks", "()I"⟩
abbrev cX5_firstLike : ByteArray := prog_7_method_9_code
def yX5_firstLike : MethodName := ⟨RX5, "firstLike", "(I)I"⟩
def RX6 : String := "Threetwo"
def TX6 : u_T := fun k => match k with
  | 0 => ("Threetwo", "reel", "LThreetwo$Row;", true)
  | 1 => ("Threetwo", "strip", "LThreetwo$Strip;", true)
  | 2 => ("Threetwo", "rhythm", "LThreetwo$Rhythm;", true)
  | 3 => ("Threetwo", "prints", "LThreetwo$Prints;", true)
  | 4 => ("Threetwo", "buffer", "LThreetwo$Buffer;", true)
  | 5 => ("Threetwo", "changeNow", "I", false)
  | _ => ("Threetwo", "refused", "I", false)
def tyX6 : Nat → FieldType := fun k => match k with
  | 0 => .object "Threetwo$Row"
  | 1 => .object "Threetwo$Strip"
  | 2 => .object "Threetwo$Rhythm"
  | 3 => .object "Threetwo$Prints"
  | 4 => .object "Threetwo$Buffer"
  | 5 => .int
  | _ => .int
abbrev wsX60 : List Cond := u_ws RX6 TX6 7
theorem nmX6 : ∀ a, a < 7 → ∀ b, b < 7 → a ≠ b → (TX6 a).2.1 ≠ (TX6 b).2.1 := by decide +kernel
theorem tyX6_ok : ∀ k, k < 7 → parseFieldDescriptor (TX6 k).2.2.1 = some (tyX6 k) := by decide +kernel
abbrev cX6_init : ByteArray := prog_1_method_1_code
def yX6_init : MethodName := ⟨RX6, "<init>", "()V"⟩
abbrev cX6_frame : ByteArray := prog_1_method_2_code
def yX6_frame : MethodName := ⟨RX6, "frame", "(I)I"⟩
abbrev cX6_pull : ByteArray := prog_1_method_3_code
def yX6_pull : MethodName := ⟨RX6, "pull", "(I)I"⟩
abbrev cX6_cut : ByteArray := prog_1_method_4_code
def yX6_cut : MethodName := ⟨RX6, "cut", "(II)I"⟩
abbrev cX6_spoil : ByteArray := prog_1_method_5_code
def yX6_spoil : MethodName := ⟨RX6, "spoil", "(II)I"⟩
abbrev cX6_heal : ByteArray := prog_1_method_6_code
def yX6_heal : MethodName := ⟨RX6, "heal", "()I"⟩
abbrev cX6_change : ByteArray := prog_1_method_7_code
def yX6_change : MethodName := ⟨RX6, "change", "(I)I"⟩
abbrev cX6_print : ByteArray := prog_1_method_8_code
def yX6_print : MethodName := ⟨RX6, "print", "()I"⟩
abbrev cX6_look : ByteArray := prog_1_method_9_code
def yX6_look : MethodName := ⟨RX6, "look", "(II)I"⟩
abbrev cX6_rate : ByteArray := prog_1_method_10_code
def yX6_rate : MethodName := ⟨RX6, "rate", "(I)I"⟩
abbrev cX6_size : ByteArray := prog_1_method_11_code
def yX6_size : MethodName := ⟨RX6, "size", "(I)I"⟩
abbrev cX6_ofField : ByteArray := prog_1_method_13_code
def yX6_ofField : MethodName := ⟨RX6, "ofField", "(II)I"⟩
abbrev cX6_found : ByteArray := prog_1_method_14_code
def yX6_found : MethodName := ⟨RX6, "found", "(II)I"⟩
abbrev cX6_apart : ByteArray := prog_1_method_16_code
def yX6_apart : MethodName := ⟨RX6, "apart", "(II)I"⟩
abbrev cX6_house : ByteArray := prog_1_method_18_code
def yX6_house : MethodName := ⟨RX6, "house", "(I)I"⟩
abbrev cX6_label : ByteArray := prog_1_method_20_code
def yX6_label : MethodName := ⟨RX6, "label", "(I)I"⟩
abbrev cX6_picture : ByteArray := prog_1_method_21_code
def yX6_picture : MethodName := ⟨RX6, "picture", "(I)I"⟩
abbrev cX6_dry : ByteArray := prog_1_method_22_code
def yX6_dry : MethodName := ⟨RX6, "dry", "(I)I"⟩
abbrev cX6_isSound : ByteArray := prog_1_method_24_code
def yX6_isSound : MethodName := ⟨RX6, "isSound", "()Z"⟩
abbrev cX6_digest : ByteArray := prog_1_method_25_code
def yX6_digest : MethodName := ⟨RX6, "digest", "()J"⟩
abbrev cX6_requireLook : ByteArray := prog_1_method_26_code
def yX6_requireLook : MethodName := ⟨RX6, "requireLook", "(I)V"⟩
abbrev cX6_requireField : ByteArray := prog_1_method_27_code
def yX6_requireField : MethodName := ⟨RX6, "requireField", "(I)V"⟩
abbrev cX6_requirePrint : ByteArray := prog_1_method_28_code
def yX6_requirePrint : MethodName := ⟨RX6, "requirePrint", "(I)V"⟩
abbrev cX6_printsAreSound : ByteArray := prog_1_method_30_code
def yX6_printsAreSound : MethodName := ⟨RX6, "printsAreSound", "()Z"⟩
abbrev cX6_pairIsSound : ByteArray := prog_1_method_31_code
def yX6_pairIsSound : MethodName := ⟨RX6, "pairIsSound", "(II)Z"⟩
abbrev cX6_bufferIsSound : ByteArray := prog_1_method_32_code
def yX6_bufferIsSound : MethodName := ⟨RX6, "bufferIsSound", "()Z"⟩
abbrev cX6_framesAreSound : ByteArray := prog_1_method_33_code
def yX6_framesAreSound : MethodName := ⟨RX6, "framesAreSound", "()Z"⟩
abbrev cX6_labelsAreSound : ByteArray := prog_1_method_34_code
def yX6_labelsAreSound : MethodName := ⟨RX6, "labelsAreSound", "()Z"⟩
abbrev cX6_withFields : ByteArray := prog_1_method_35_code
def yX6_withFields : MethodName := ⟨RX6, "withFields", "(J)J"⟩
abbrev cX6_withFoundFrames : ByteArray := prog_1_method_36_code
def yX6_withFoundFrames : MethodName := ⟨RX6, "withFoundFrames", "(J)J"⟩
abbrev cX6_withPrints : ByteArray := prog_1_method_37_code
def yX6_withPrints : MethodName := ⟨RX6, "withPrints", "(J)J"⟩
def RX7 : String := "ThreetwoModel"
def TX7 : u_T := fun k => match k with
  | _ => ("", "", "", false)
def tyX7 : Nat → FieldType := fun k => match k with
  | _ => .int
abbrev wsX70 : List Cond := u_ws RX7 TX7 0
theorem nmX7 : ∀ a, a < 0 → ∀ b, b < 0 → a ≠ b → (TX7 a).2.1 ≠ (TX7 b).2.1 := by decide +kernel
theorem tyX7_ok : ∀ k, k < 0 → parseFieldDescriptor (TX7 k).2.2.1 = some (tyX7 k) := by decide +kernel
def RJx145de : String := "java/io/Serializable"
def TJx145de : u_T := fun k => match k with
  | _ => ("", "", "", false)
def tyJx145de : Nat → FieldType := fun k => match k with
  | _ => .int
abbrev wsJx145de0 : List Cond := u_ws RJx145de TJx145de 0
theorem nmJx145de : ∀ a, a < 0 → ∀ b, b < 0 → a ≠ b → (TJx145de a).2.1 ≠ (TJx145de b).2.1 := by decide +kernel
theorem tyJx145de_ok : ∀ k, k < 0 → parseFieldDescriptor (TJx145de k).2.2.1 = some (tyJx145de k) := by decide +kernel
def RJ9 : String := "java/lang/Math"
def TJ9 : u_T := fun k => match k with
  | _ => ("", "", "", false)
def tyJ9 : Nat → FieldType := fun k => match k with
  | _ => .int
abbrev wsJ90 : List Cond := u_ws RJ9 TJ9 0
theorem nmJ9 : ∀ a, a < 0 → ∀ b, b < 0 → a ≠ b → (TJ9 a).2.1 ≠ (TJ9 b).2.1 := by decide +kernel
theorem tyJ9_ok : ∀ k, k < 0 → parseFieldDescriptor (TJ9 k).2.2.1 = some (tyJ9 k) := by decide +kernel
abbrev cJ9_abs_0f7a4 : ByteArray := prog_14_method_59_code
def yJ9_abs_0f7a4 : MethodName := ⟨RJ9, "abs", "(I)I"⟩
abbrev cJ9_max_7cf53 : ByteArray := prog_14_method_65_code
def yJ9_max_7cf53 : MethodName := ⟨RJ9, "max", "(II)I"⟩
abbrev cJ9_min_7cf53 : ByteArray := prog_14_method_69_code
def yJ9_min_7cf53 : MethodName := ⟨RJ9, "min", "(II)I"⟩
def RJ0 : String := "java/lang/String"
def TJ0 : u_T := fun k => match k with
  | _ => ("", "", "", false)
def tyJ0 : Nat → FieldType := fun k => match k with
  | _ => .int
abbrev wsJ00 : List Cond := u_ws RJ0 TJ0 0
theorem nmJ0 : ∀ a, a < 0 → ∀ b, b < 0 → a ≠ b → (TJ0 a).2.1 ≠ (TJ0 b).2.1 := by decide +kernel
theorem tyJ0_ok : ∀ k, k < 0 → parseFieldDescriptor (TJ0 k).2.2.1 = some (tyJ0 k) := by decide +kernel
def RL : String := "ThreetwoLaw"
abbrev cL_below : ByteArray := method_2_code
def yL_below : MethodName := ⟨RL, "below", "(II)I"⟩
abbrev cL_cell : ByteArray := method_3_code
def yL_cell : MethodName := ⟨RL, "cell", "([II)I"⟩
abbrev cL_law : ByteArray := code
def yL_law : MethodName := ⟨RL, "law", "([I)Z"⟩
abbrev cL_act : ByteArray := method_5_code
def yL_act : MethodName := ⟨RL, "act", "(LThreetwo;II)V"⟩
def wsX4_init : List Cond := .code yX4_init cX4_init 2 none :: ([.methodLink RX4 3 objectInit, .instanceMethod objectInit, .code objectInit ⟨#[0xb1]⟩ 1 none, .methodLink RX4 9 Lib.Math.max.name, .static Lib.Math.max.name, .initialized "java/lang/Math", .code Lib.Math.max.name Lib.Math.max.code 2 (some .int), .arrayClass .int, .fieldLink RX4 15 "Threetwo$Row" "items" "[I", .fieldLink RX4 21 "Threetwo$Row" "told" "I"] ++ wsX40)
def wsX0_init : List Cond := .code yX0_init cX0_init 1 none :: ([.methodLink RX0 3 objectInit, .instanceMethod objectInit, .code objectInit ⟨#[0xb1]⟩ 1 none, .classLink RX0 9 RX4, .instantiable RX4 2, .initialized RX4, .fieldLink RX0 14 "Threetwo$Buffer" "sizes" "LThreetwo$Row;", .fieldLink RX0 20 "Threetwo$Buffer" "rateNow" "I", .methodLink RX0 11 yX4_init, .instanceMethod yX4_init, .code yX4_init cX4_init 2 none, .methodLink RX4 3 objectInit, .methodLink RX4 9 Lib.Math.max.name, .static Lib.Math.max.name, .initialized "java/lang/Math", .code Lib.Math.max.name Lib.Math.max.code 2 (some .int), .arrayClass .int, .fieldLink RX4 15 "Threetwo$Row" "items" "[I", .fieldLink RX4 21 "Threetwo$Row" "told" "I"] ++ wsX40 ++ wsX00)
def wsX4_many : List Cond := .code yX4_many cX4_many 1 (some .int) :: ([.fieldLink RX4 21 "Threetwo$Row" "told" "I"] ++ wsX40)
def wsX4_at : List Cond := .code yX4_at cX4_at 2 (some .int) :: ([.fieldLink RX4 21 "Threetwo$Row" "told" "I", .fieldLink RX4 15 "Threetwo$Row" "items" "[I"] ++ wsX40)
def wsX0_sumOfSizes : List Cond := .code yX0_sumOfSizes cX0_sumOfSizes 3 (some .int) :: ([.fieldLink RX0 14 "Threetwo$Buffer" "sizes" "LThreetwo$Row;", .methodLink RX0 28 yX4_many, .instanceMethod yX4_many, .selects RX4 yX4_many yX4_many, .initialized RX4, .code yX4_many cX4_many 1 (some .int), .fieldLink RX4 21 "Threetwo$Row" "told" "I", .methodLink RX0 31 yX4_at, .instanceMethod yX4_at, .selects RX4 yX4_at yX4_at, .code yX4_at cX4_at 2 (some .int), .fieldLink RX4 15 "Threetwo$Row" "items" "[I"] ++ wsX00 ++ wsX40)
def wsX0_cameIn : List Cond := .code yX0_cameIn cX0_cameIn 3 (some .int) :: ([.fieldLink RX0 20 "Threetwo$Buffer" "rateNow" "I", .methodLink RX0 47 Lib.Math.min.name, .static Lib.Math.min.name, .initialized "java/lang/Math", .code Lib.Math.min.name Lib.Math.min.code 2 (some .int)] ++ wsX00)
def wsX0_firstDry_r1 : List Cond := [Cond.fieldLink RX0 14 "Threetwo$Buffer" "sizes" "LThreetwo$Row;", Cond.methodLink RX0 24 yX0_sumOfSizes, Cond.instanceMethod yX0_sumOfSizes, Cond.selects RX0 yX0_sumOfSizes yX0_sumOfSizes, Cond.initialized RX0, Cond.code yX0_sumOfSizes cX0_sumOfSizes 3 (some .int), Cond.methodLink RX0 28 yX4_many, Cond.instanceMethod yX4_many, Cond.selects RX4 yX4_many yX4_many, Cond.initialized RX4, Cond.code yX4_many cX4_many 1 (some .int), Cond.fieldLink RX4 21 "Threetwo$Row" "told" "I", Cond.methodLink RX0 31 yX4_at, Cond.instanceMethod yX4_at, Cond.selects RX4 yX4_at yX4_at, Cond.code yX4_at cX4_at 2 (some .int), Cond.fieldLink RX4 15 "Threetwo$Row" "items" "[I", Cond.methodLink RX0 35 yX0_cameIn, Cond.instanceMethod yX0_cameIn, Cond.selects RX0 yX0_cameIn yX0_cameIn, Cond.code yX0_cameIn cX0_cameIn 3 (some .int), Cond.fieldLink RX0 20 "Threetwo$Buffer" "rateNow" "I", Cond.methodLink RX0 47 Lib.Math.min.name, Cond.static Lib.Math.min.name]
def wsX0_firstDry_r2 : List Cond := [Cond.initialized "java/lang/Math", Cond.code Lib.Math.min.name Lib.Math.min.code 2 (some .int)]
def wsX0_firstDry : List Cond := .code yX0_firstDry cX0_firstDry 5 (some .int) :: ((wsX0_firstDry_r1 ++ wsX0_firstDry_r2) ++ wsX00 ++ wsX40)
def wsX0_leastDelay : List Cond := .code yX0_leastDelay cX0_leastDelay 5 (some .int) :: ([.fieldLink RX0 14 "Threetwo$Buffer" "sizes" "LThreetwo$Row;", .fieldLink RX0 20 "Threetwo$Buffer" "rateNow" "I", .methodLink RX0 39 Lib.Math.max.name, .static Lib.Math.max.name, .initialized "java/lang/Math", .code Lib.Math.max.name Lib.Math.max.code 2 (some .int), .methodLink RX0 28 yX4_many, .instanceMethod yX4_many, .selects RX4 yX4_many yX4_many, .initialized RX4, .code yX4_many cX4_many 1 (some .int), .fieldLink RX4 21 "Threetwo$Row" "told" "I", .methodLink RX0 31 yX4_at, .instanceMethod yX4_at, .selects RX4 yX4_at yX4_at, .code yX4_at cX4_at 2 (some .int), .fieldLink RX4 15 "Threetwo$Row" "items" "[I"] ++ wsX00 ++ wsX40)
def wsX0_peak_r1 : List Cond := [Cond.fieldLink RX0 14 "Threetwo$Buffer" "sizes" "LThreetwo$Row;", Cond.methodLink RX0 39 Lib.Math.max.name, Cond.static Lib.Math.max.name, Cond.initialized "java/lang/Math", Cond.code Lib.Math.max.name Lib.Math.max.code 2 (some .int), Cond.methodLink RX0 44 yX0_leastDelay, Cond.instanceMethod yX0_leastDelay, Cond.selects RX0 yX0_leastDelay yX0_leastDelay, Cond.initialized RX0, Cond.code yX0_leastDelay cX0_leastDelay 5 (some .int), Cond.fieldLink RX0 20 "Threetwo$Buffer" "rateNow" "I", Cond.methodLink RX0 28 yX4_many, Cond.instanceMethod yX4_many, Cond.selects RX4 yX4_many yX4_many, Cond.initialized RX4, Cond.code yX4_many cX4_many 1 (some .int), Cond.fieldLink RX4 21 "Threetwo$Row" "told" "I", Cond.methodLink RX0 31 yX4_at, Cond.instanceMethod yX4_at, Cond.selects RX4 yX4_at yX4_at, Cond.code yX4_at cX4_at 2 (some .int), Cond.fieldLink RX4 15 "Threetwo$Row" "items" "[I", Cond.methodLink RX0 24 yX0_sumOfSizes, Cond.instanceMethod yX0_sumOfSizes]
def wsX0_peak_r2 : List Cond := [Cond.selects RX0 yX0_sumOfSizes yX0_sumOfSizes, Cond.code yX0_sumOfSizes cX0_sumOfSizes 3 (some .int), Cond.methodLink RX0 35 yX0_cameIn, Cond.instanceMethod yX0_cameIn, Cond.selects RX0 yX0_cameIn yX0_cameIn, Cond.code yX0_cameIn cX0_cameIn 3 (some .int), Cond.methodLink RX0 47 Lib.Math.min.name, Cond.static Lib.Math.min.name, Cond.code Lib.Math.min.name Lib.Math.min.code 2 (some .int)]
def wsX0_peak : List Cond := .code yX0_peak cX0_peak 6 (some .int) :: ((wsX0_peak_r1 ++ wsX0_peak_r2) ++ wsX00 ++ wsX40)
def wsX1_labelOf : List Cond := .code yX1_labelOf cX1_labelOf 4 (some .int) :: ([])
def wsX1_isLeftOut : List Cond := .code yX1_isLeftOut cX1_isLeftOut 3 (some .boolean) :: ([])
def wsX1_pictureOf : List Cond := .code yX1_pictureOf cX1_pictureOf 5 (some .int) :: ([.methodLink RX1 11 yX1_isLeftOut, .static yX1_isLeftOut, .initialized RX1, .code yX1_isLeftOut cX1_isLeftOut 3 (some .boolean)])
def wsX1_goesBack : List Cond := .code yX1_goesBack cX1_goesBack 1 (some .boolean) :: ([.methodLink RX1 15 yX1_labelOf, .static yX1_labelOf, .initialized RX1, .code yX1_labelOf cX1_labelOf 4 (some .int), .methodLink RX1 19 yX1_pictureOf, .static yX1_pictureOf, .code yX1_pictureOf cX1_pictureOf 5 (some .int), .methodLink RX1 11 yX1_isLeftOut, .static yX1_isLeftOut, .code yX1_isLeftOut cX1_isLeftOut 3 (some .boolean)])
def wsX2_init : List Cond := .code yX2_init cX2_init 2 none :: ([.methodLink RX2 3 objectInit, .instanceMethod objectInit, .code objectInit ⟨#[0xb1]⟩ 1 none, .classLink RX2 9 RX4, .fieldLink RX2 11 "Threetwo$Prints" "rows" "[LThreetwo$Row;", .instantiable RX4 2, .initialized RX4, .arrayClass .int, .fieldLink RX2 20 "Threetwo$Prints" "behind" "[I", .arrayClass .char, .fieldLink RX2 24 "Threetwo$Prints" "signs" "[C", .fieldLink RX2 28 "Threetwo$Prints" "many" "I", .methodLink RX2 17 yX4_init, .instanceMethod yX4_init, .code yX4_init cX4_init 2 none, .methodLink RX4 3 objectInit, .methodLink RX4 9 Lib.Math.max.name, .static Lib.Math.max.name, .initialized "java/lang/Math", .code Lib.Math.max.name Lib.Math.max.code 2 (some .int), .fieldLink RX4 15 "Threetwo$Row" "items" "[I", .fieldLink RX4 21 "Threetwo$Row" "told" "I"] ++ wsX20 ++ wsX40)
def wsX2_begin : List Cond := .code yX2_begin cX2_begin 1 (some .int) :: ([.fieldLink RX2 28 "Threetwo$Prints" "many" "I"] ++ wsX20)
def wsX2_has : List Cond := .code yX2_has cX2_has 2 (some .boolean) :: ([.fieldLink RX2 28 "Threetwo$Prints" "many" "I"] ++ wsX20)
def wsX2_row : List Cond := .code yX2_row cX2_row 2 (some (.object "Threetwo$Row")) :: ([.fieldLink RX2 11 "Threetwo$Prints" "rows" "[LThreetwo$Row;"] ++ wsX20)
def wsX4_has : List Cond := .code yX4_has cX4_has 2 (some .boolean) :: ([.fieldLink RX4 21 "Threetwo$Row" "told" "I"] ++ wsX40)
def wsX2_together : List Cond := .code yX2_together cX2_together 2 (some .int) :: ([.methodLink RX2 63 Lib.Math.abs.name, .static Lib.Math.abs.name, .initialized "java/lang/Math", .code Lib.Math.abs.name Lib.Math.abs.code 1 (some .int), .methodLink RX2 51 Lib.Math.min.name, .static Lib.Math.min.name, .code Lib.Math.min.name Lib.Math.min.code 2 (some .int)])
def wsX2_leastFrom_r1 : List Cond := [Cond.fieldLink RX2 20 "Threetwo$Prints" "behind" "[I", Cond.methodLink RX2 51 Lib.Math.min.name, Cond.static Lib.Math.min.name, Cond.initialized "java/lang/Math", Cond.code Lib.Math.min.name Lib.Math.min.code 2 (some .int), Cond.methodLink RX2 43 yX4_has, Cond.instanceMethod yX4_has, Cond.selects RX4 yX4_has yX4_has, Cond.initialized RX4, Cond.code yX4_has cX4_has 2 (some .boolean), Cond.fieldLink RX4 21 "Threetwo$Row" "told" "I", Cond.methodLink RX2 32 yX4_many, Cond.instanceMethod yX4_many, Cond.selects RX4 yX4_many yX4_many, Cond.code yX4_many cX4_many 1 (some .int), Cond.methodLink RX2 56 yX4_at, Cond.instanceMethod yX4_at, Cond.selects RX4 yX4_at yX4_at, Cond.code yX4_at cX4_at 2 (some .int), Cond.fieldLink RX4 15 "Threetwo$Row" "items" "[I", Cond.methodLink RX2 60 yX2_together, Cond.static yX2_together, Cond.initialized RX2, Cond.code yX2_together cX2_together 2 (some .int)]
def wsX2_leastFrom_r2 : List Cond := [Cond.methodLink RX2 63 Lib.Math.abs.name, Cond.static Lib.Math.abs.name, Cond.code Lib.Math.abs.name Lib.Math.abs.code 1 (some .int)]
def wsX2_leastFrom : List Cond := .code yX2_leastFrom cX2_leastFrom 7 (some .int) :: ((wsX2_leastFrom_r1 ++ wsX2_leastFrom_r2) ++ wsX20 ++ wsX40)
def wsX2_distance_r1 : List Cond := [Cond.fieldLink RX2 11 "Threetwo$Prints" "rows" "[LThreetwo$Row;", Cond.fieldLink RX2 20 "Threetwo$Prints" "behind" "[I", Cond.methodLink RX2 32 yX4_many, Cond.instanceMethod yX4_many, Cond.selects RX4 yX4_many yX4_many, Cond.initialized RX4, Cond.code yX4_many cX4_many 1 (some .int), Cond.fieldLink RX4 21 "Threetwo$Row" "told" "I", Cond.methodLink RX2 35 yX2_leastFrom, Cond.instanceMethod yX2_leastFrom, Cond.selects RX2 yX2_leastFrom yX2_leastFrom, Cond.initialized RX2, Cond.code yX2_leastFrom cX2_leastFrom 7 (some .int), Cond.methodLink RX2 51 Lib.Math.min.name, Cond.static Lib.Math.min.name, Cond.initialized "java/lang/Math", Cond.code Lib.Math.min.name Lib.Math.min.code 2 (some .int), Cond.methodLink RX2 43 yX4_has, Cond.instanceMethod yX4_has, Cond.selects RX4 yX4_has yX4_has, Cond.code yX4_has cX4_has 2 (some .boolean), Cond.methodLink RX2 56 yX4_at, Cond.instanceMethod yX4_at, Cond.selects RX4 yX4_at yX4_at]
def wsX2_distance_r2 : List Cond := [Cond.code yX4_at cX4_at 2 (some .int), Cond.fieldLink RX4 15 "Threetwo$Row" "items" "[I", Cond.methodLink RX2 60 yX2_together, Cond.static yX2_together, Cond.code yX2_together cX2_together 2 (some .int), Cond.methodLink RX2 63 Lib.Math.abs.name, Cond.static Lib.Math.abs.name, Cond.code Lib.Math.abs.name Lib.Math.abs.code 1 (some .int)]
def wsX2_distance : List Cond := .code yX2_distance cX2_distance 7 (some .int) :: ((wsX2_distance_r1 ++ wsX2_distance_r2) ++ wsX20 ++ wsX40)
def wsX2_signAt : List Cond := .code yX2_signAt cX2_signAt 6 (some .char) :: ([.fieldLink RX2 20 "Threetwo$Prints" "behind" "[I", .methodLink RX2 43 yX4_has, .instanceMethod yX4_has, .selects RX4 yX4_has yX4_has, .initialized RX4, .code yX4_has cX4_has 2 (some .boolean), .fieldLink RX4 21 "Threetwo$Row" "told" "I", .methodLink RX2 56 yX4_at, .instanceMethod yX4_at, .selects RX4 yX4_at yX4_at, .code yX4_at cX4_at 2 (some .int), .fieldLink RX4 15 "Threetwo$Row" "items" "[I", .methodLink RX2 60 yX2_together, .static yX2_together, .initialized RX2, .code yX2_together cX2_together 2 (some .int), .methodLink RX2 63 Lib.Math.abs.name, .static Lib.Math.abs.name, .initialized "java/lang/Math", .code Lib.Math.abs.name Lib.Math.abs.code 1 (some .int), .methodLink RX2 51 Lib.Math.min.name, .static Lib.Math.min.name, .code Lib.Math.min.name Lib.Math.min.code 2 (some .int)] ++ wsX20 ++ wsX40)
def wsX2_layOut_r1 : List Cond := [Cond.fieldLink RX2 11 "Threetwo$Prints" "rows" "[LThreetwo$Row;", Cond.fieldLink RX2 24 "Threetwo$Prints" "signs" "[C", Cond.methodLink RX2 39 yX2_distance, Cond.instanceMethod yX2_distance, Cond.selects RX2 yX2_distance yX2_distance, Cond.initialized RX2, Cond.code yX2_distance cX2_distance 7 (some .int), Cond.fieldLink RX2 20 "Threetwo$Prints" "behind" "[I", Cond.methodLink RX2 32 yX4_many, Cond.instanceMethod yX4_many, Cond.selects RX4 yX4_many yX4_many, Cond.initialized RX4, Cond.code yX4_many cX4_many 1 (some .int), Cond.fieldLink RX4 21 "Threetwo$Row" "told" "I", Cond.methodLink RX2 35 yX2_leastFrom, Cond.instanceMethod yX2_leastFrom, Cond.selects RX2 yX2_leastFrom yX2_leastFrom, Cond.code yX2_leastFrom cX2_leastFrom 7 (some .int), Cond.methodLink RX2 51 Lib.Math.min.name, Cond.static Lib.Math.min.name, Cond.initialized "java/lang/Math", Cond.code Lib.Math.min.name Lib.Math.min.code 2 (some .int), Cond.methodLink RX2 43 yX4_has, Cond.instanceMethod yX4_has]
def wsX2_layOut_r2 : List Cond := [Cond.selects RX4 yX4_has yX4_has, Cond.code yX4_has cX4_has 2 (some .boolean), Cond.methodLink RX2 56 yX4_at, Cond.instanceMethod yX4_at, Cond.selects RX4 yX4_at yX4_at, Cond.code yX4_at cX4_at 2 (some .int), Cond.fieldLink RX4 15 "Threetwo$Row" "items" "[I", Cond.methodLink RX2 60 yX2_together, Cond.static yX2_together, Cond.code yX2_together cX2_together 2 (some .int), Cond.methodLink RX2 63 Lib.Math.abs.name, Cond.static Lib.Math.abs.name, Cond.code Lib.Math.abs.name Lib.Math.abs.code 1 (some .int), Cond.methodLink RX2 47 yX2_signAt, Cond.instanceMethod yX2_signAt, Cond.selects RX2 yX2_signAt yX2_signAt, Cond.code yX2_signAt cX2_signAt 6 (some .char)]
def wsX2_layOut : List Cond := .code yX2_layOut cX2_layOut 9 (some .int) :: ((wsX2_layOut_r1 ++ wsX2_layOut_r2) ++ wsX20 ++ wsX40)
def wsX3_init : List Cond := .code yX3_init cX3_init 1 none :: ([.methodLink RX3 3 objectInit, .instanceMethod objectInit, .code objectInit ⟨#[0xb1]⟩ 1 none, .arrayClass .int, .fieldLink RX3 11 "Threetwo$Rhythm" "behind" "[I", .fieldLink RX3 15 "Threetwo$Rhythm" "places" "[I", .fieldLink RX3 18 "Threetwo$Rhythm" "frameOf" "[I", .fieldLink RX3 21 "Threetwo$Rhythm" "firsts" "[I", .fieldLink RX3 24 "Threetwo$Rhythm" "lengths" "[I", .fieldLink RX3 27 "Threetwo$Rhythm" "frameLooks" "[I", .fieldLink RX3 30 "Threetwo$Rhythm" "cost" "I", .fieldLink RX3 34 "Threetwo$Rhythm" "frames" "I", .fieldLink RX3 37 "Threetwo$Rhythm" "known" "Z"] ++ wsX30)
def wsX3_forget : List Cond := .code yX3_forget cX3_forget 1 none :: ([.fieldLink RX3 37 "Threetwo$Rhythm" "known" "Z"] ++ wsX30)
def wsX3_step : List Cond := .code yX3_step cX3_step 4 (some .int) :: ([])
def wsX3_bestNext : List Cond := .code yX3_bestNext cX3_bestNext 10 (some .int) :: ([.fieldLink RX3 11 "Threetwo$Rhythm" "behind" "[I", .methodLink RX3 71 yX3_step, .static yX3_step, .initialized RX3, .code yX3_step cX3_step 4 (some .int)] ++ wsX30)
def wsX3_bestFirst : List Cond := .code yX3_bestFirst cX3_bestFirst 3 (some .int) :: ([.fieldLink RX3 11 "Threetwo$Rhythm" "behind" "[I"] ++ wsX30)
def wsX3_leastCost : List Cond := .code yX3_leastCost cX3_leastCost 8 (some .int) :: ([.fieldLink RX3 11 "Threetwo$Rhythm" "behind" "[I", .methodLink RX3 49 yX4_many, .instanceMethod yX4_many, .selects RX4 yX4_many yX4_many, .initialized RX4, .code yX4_many cX4_many 1 (some .int), .fieldLink RX4 21 "Threetwo$Row" "told" "I", .methodLink RX3 63 yX4_at, .instanceMethod yX4_at, .selects RX4 yX4_at yX4_at, .code yX4_at cX4_at 2 (some .int), .fieldLink RX4 15 "Threetwo$Row" "items" "[I", .methodLink RX3 67 yX3_bestNext, .instanceMethod yX3_bestNext, .selects RX3 yX3_bestNext yX3_bestNext, .initialized RX3, .code yX3_bestNext cX3_bestNext 10 (some .int), .methodLink RX3 71 yX3_step, .static yX3_step, .code yX3_step cX3_step 4 (some .int), .methodLink RX3 74 yX3_bestFirst, .instanceMethod yX3_bestFirst, .selects RX3 yX3_bestFirst yX3_bestFirst, .code yX3_bestFirst cX3_bestFirst 3 (some .int)] ++ wsX30 ++ wsX40)
def wsX3_tracePath_r1 : List Cond := [Cond.fieldLink RX3 15 "Threetwo$Rhythm" "places" "[I", Cond.methodLink RX3 49 yX4_many, Cond.instanceMethod yX4_many, Cond.selects RX4 yX4_many yX4_many, Cond.initialized RX4, Cond.code yX4_many cX4_many 1 (some .int), Cond.fieldLink RX4 21 "Threetwo$Row" "told" "I", Cond.methodLink RX3 74 yX3_bestFirst, Cond.instanceMethod yX3_bestFirst, Cond.selects RX3 yX3_bestFirst yX3_bestFirst, Cond.initialized RX3, Cond.code yX3_bestFirst cX3_bestFirst 3 (some .int), Cond.fieldLink RX3 11 "Threetwo$Rhythm" "behind" "[I", Cond.methodLink RX3 63 yX4_at, Cond.instanceMethod yX4_at, Cond.selects RX4 yX4_at yX4_at, Cond.code yX4_at cX4_at 2 (some .int), Cond.fieldLink RX4 15 "Threetwo$Row" "items" "[I", Cond.methodLink RX3 67 yX3_bestNext, Cond.instanceMethod yX3_bestNext, Cond.selects RX3 yX3_bestNext yX3_bestNext, Cond.code yX3_bestNext cX3_bestNext 10 (some .int), Cond.methodLink RX3 71 yX3_step, Cond.static yX3_step]
def wsX3_tracePath_r2 : List Cond := [Cond.code yX3_step cX3_step 4 (some .int)]
def wsX3_tracePath : List Cond := .code yX3_tracePath cX3_tracePath 5 none :: ((wsX3_tracePath_r1 ++ wsX3_tracePath_r2) ++ wsX30 ++ wsX40)
def wsX3_beginsFrame : List Cond := .code yX3_beginsFrame cX3_beginsFrame 3 (some .boolean) :: ([.fieldLink RX3 15 "Threetwo$Rhythm" "places" "[I"] ++ wsX30)
def wsX3_gatherFrames : List Cond := .code yX3_gatherFrames cX3_gatherFrames 4 none :: ([.fieldLink RX3 34 "Threetwo$Rhythm" "frames" "I", .fieldLink RX3 21 "Threetwo$Rhythm" "firsts" "[I", .fieldLink RX3 18 "Threetwo$Rhythm" "frameOf" "[I", .fieldLink RX3 24 "Threetwo$Rhythm" "lengths" "[I", .methodLink RX3 77 yX3_beginsFrame, .instanceMethod yX3_beginsFrame, .selects RX3 yX3_beginsFrame yX3_beginsFrame, .initialized RX3, .code yX3_beginsFrame cX3_beginsFrame 3 (some .boolean), .fieldLink RX3 15 "Threetwo$Rhythm" "places" "[I"] ++ wsX30)
def wsX3_timesOf : List Cond := .code yX3_timesOf cX3_timesOf 6 (some .int) :: ([.methodLink RX3 63 yX4_at, .instanceMethod yX4_at, .selects RX4 yX4_at yX4_at, .initialized RX4, .code yX4_at cX4_at 2 (some .int), .fieldLink RX4 21 "Threetwo$Row" "told" "I", .fieldLink RX4 15 "Threetwo$Row" "items" "[I"] ++ wsX40)
def wsX3_commonLook : List Cond := .code yX3_commonLook cX3_commonLook 8 (some .int) :: ([.methodLink RX3 63 yX4_at, .instanceMethod yX4_at, .selects RX4 yX4_at yX4_at, .initialized RX4, .code yX4_at cX4_at 2 (some .int), .fieldLink RX4 21 "Threetwo$Row" "told" "I", .fieldLink RX4 15 "Threetwo$Row" "items" "[I", .methodLink RX3 81 yX3_timesOf, .static yX3_timesOf, .initialized RX3, .code yX3_timesOf cX3_timesOf 6 (some .int)] ++ wsX40)
def wsX3_find_r1 : List Cond := [Cond.fieldLink RX3 37 "Threetwo$Rhythm" "known" "Z", Cond.fieldLink RX3 30 "Threetwo$Rhythm" "cost" "I", Cond.fieldLink RX3 34 "Threetwo$Rhythm" "frames" "I", Cond.fieldLink RX3 27 "Threetwo$Rhythm" "frameLooks" "[I", Cond.fieldLink RX3 21 "Threetwo$Rhythm" "firsts" "[I", Cond.fieldLink RX3 24 "Threetwo$Rhythm" "lengths" "[I", Cond.methodLink RX3 41 yX3_leastCost, Cond.instanceMethod yX3_leastCost, Cond.selects RX3 yX3_leastCost yX3_leastCost, Cond.initialized RX3, Cond.code yX3_leastCost cX3_leastCost 8 (some .int), Cond.fieldLink RX3 11 "Threetwo$Rhythm" "behind" "[I", Cond.methodLink RX3 49 yX4_many, Cond.instanceMethod yX4_many, Cond.selects RX4 yX4_many yX4_many, Cond.initialized RX4, Cond.code yX4_many cX4_many 1 (some .int), Cond.fieldLink RX4 21 "Threetwo$Row" "told" "I", Cond.methodLink RX3 63 yX4_at, Cond.instanceMethod yX4_at, Cond.selects RX4 yX4_at yX4_at, Cond.code yX4_at cX4_at 2 (some .int), Cond.fieldLink RX4 15 "Threetwo$Row" "items" "[I", Cond.methodLink RX3 67 yX3_bestNext]
def wsX3_find_r2 : List Cond := [Cond.instanceMethod yX3_bestNext, Cond.selects RX3 yX3_bestNext yX3_bestNext, Cond.code yX3_bestNext cX3_bestNext 10 (some .int), Cond.methodLink RX3 71 yX3_step, Cond.static yX3_step, Cond.code yX3_step cX3_step 4 (some .int), Cond.methodLink RX3 74 yX3_bestFirst, Cond.instanceMethod yX3_bestFirst, Cond.selects RX3 yX3_bestFirst yX3_bestFirst, Cond.code yX3_bestFirst cX3_bestFirst 3 (some .int), Cond.methodLink RX3 45 yX3_tracePath, Cond.instanceMethod yX3_tracePath, Cond.selects RX3 yX3_tracePath yX3_tracePath, Cond.code yX3_tracePath cX3_tracePath 5 none, Cond.fieldLink RX3 15 "Threetwo$Rhythm" "places" "[I", Cond.methodLink RX3 55 yX3_gatherFrames, Cond.instanceMethod yX3_gatherFrames, Cond.selects RX3 yX3_gatherFrames yX3_gatherFrames, Cond.code yX3_gatherFrames cX3_gatherFrames 4 none, Cond.fieldLink RX3 18 "Threetwo$Rhythm" "frameOf" "[I", Cond.methodLink RX3 77 yX3_beginsFrame, Cond.instanceMethod yX3_beginsFrame, Cond.selects RX3 yX3_beginsFrame yX3_beginsFrame, Cond.code yX3_beginsFrame cX3_beginsFrame 3 (some .boolean)]
def wsX3_find_r3 : List Cond := [Cond.methodLink RX3 59 yX3_commonLook, Cond.static yX3_commonLook, Cond.code yX3_commonLook cX3_commonLook 8 (some .int), Cond.methodLink RX3 81 yX3_timesOf, Cond.static yX3_timesOf, Cond.code yX3_timesOf cX3_timesOf 6 (some .int)]
def wsX3_find : List Cond := .code yX3_find cX3_find 4 none :: ((wsX3_find_r1 ++ (wsX3_find_r2 ++ wsX3_find_r3)) ++ wsX30 ++ wsX40)
def wsX4_add : List Cond := .code yX4_add cX4_add 2 (some .int) :: ([.fieldLink RX4 21 "Threetwo$Row" "told" "I", .fieldLink RX4 15 "Threetwo$Row" "items" "[I"] ++ wsX40)
def wsX4_put : List Cond := .code yX4_put cX4_put 3 none :: ([.fieldLink RX4 15 "Threetwo$Row" "items" "[I", .methodLink RX4 25 yX4_has, .instanceMethod yX4_has, .selects RX4 yX4_has yX4_has, .initialized RX4, .code yX4_has cX4_has 2 (some .boolean), .fieldLink RX4 21 "Threetwo$Row" "told" "I"] ++ wsX40)
def wsX4_clear : List Cond := .code yX4_clear cX4_clear 1 none :: ([.fieldLink RX4 21 "Threetwo$Row" "told" "I"] ++ wsX40)
def wsX4_remove : List Cond := .code yX4_remove cX4_remove 4 none :: ([.fieldLink RX4 21 "Threetwo$Row" "told" "I", .fieldLink RX4 15 "Threetwo$Row" "items" "[I", .methodLink RX4 25 yX4_has, .instanceMethod yX4_has, .selects RX4 yX4_has yX4_has, .initialized RX4, .code yX4_has cX4_has 2 (some .boolean)] ++ wsX40)
def wsX5_init : List Cond := .code yX5_init cX5_init 1 none :: ([.methodLink RX5 3 objectInit, .instanceMethod objectInit, .code objectInit ⟨#[0xb1]⟩ 1 none, .classLink RX5 9 RX4, .instantiable RX4 2, .initialized RX4, .fieldLink RX5 14 "Threetwo$Strip" "looks" "LThreetwo$Row;", .fieldLink RX5 20 "Threetwo$Strip" "rest" "LThreetwo$Row;", .arrayClass .int, .fieldLink RX5 23 "Threetwo$Strip" "noteFields" "[I", .fieldLink RX5 27 "Threetwo$Strip" "noteLooks" "[I", .arrayClass .char, .fieldLink RX5 30 "Threetwo$Strip" "signs" "[C", .fieldLink RX5 34 "Threetwo$Strip" "notes" "I", .methodLink RX5 11 yX4_init, .instanceMethod yX4_init, .code yX4_init cX4_init 2 none, .methodLink RX4 3 objectInit, .methodLink RX4 9 Lib.Math.max.name, .static Lib.Math.max.name, .initialized "java/lang/Math", .code Lib.Math.max.name Lib.Math.max.code 2 (some .int), .fieldLink RX4 15 "Threetwo$Row" "items" "[I", .fieldLink RX4 21 "Threetwo$Row" "told" "I"] ++ wsX40 ++ wsX50)
def wsX5_pullDown : List Cond := .code yX5_pullDown cX5_pullDown 6 none :: ([.fieldLink RX5 14 "Threetwo$Strip" "looks" "LThreetwo$Row;", .fieldLink RX5 34 "Threetwo$Strip" "notes" "I", .methodLink RX5 38 yX4_clear, .instanceMethod yX4_clear, .selects RX4 yX4_clear yX4_clear, .initialized RX4, .code yX4_clear cX4_clear 1 none, .fieldLink RX4 21 "Threetwo$Row" "told" "I", .methodLink RX5 41 yX4_many, .instanceMethod yX4_many, .selects RX4 yX4_many yX4_many, .code yX4_many cX4_many 1 (some .int), .methodLink RX5 45 yX4_at, .instanceMethod yX4_at, .selects RX4 yX4_at yX4_at, .code yX4_at cX4_at 2 (some .int), .fieldLink RX4 15 "Threetwo$Row" "items" "[I", .methodLink RX5 49 yX4_add, .instanceMethod yX4_add, .selects RX4 yX4_add yX4_add, .code yX4_add cX4_add 2 (some .int)] ++ wsX50 ++ wsX40)
def wsX5_cutOut : List Cond := .code yX5_cutOut cX5_cutOut 3 none :: ([.fieldLink RX5 14 "Threetwo$Strip" "looks" "LThreetwo$Row;", .fieldLink RX5 34 "Threetwo$Strip" "notes" "I", .methodLink RX5 52 yX4_remove, .instanceMethod yX4_remove, .selects RX4 yX4_remove yX4_remove, .initialized RX4, .code yX4_remove cX4_remove 4 none, .fieldLink RX4 21 "Threetwo$Row" "told" "I", .fieldLink RX4 15 "Threetwo$Row" "items" "[I", .methodLink RX4 25 yX4_has, .instanceMethod yX4_has, .selects RX4 yX4_has yX4_has, .code yX4_has cX4_has 2 (some .boolean)] ++ wsX50 ++ wsX40)
def wsX5_note : List Cond := .code yX5_note cX5_note 3 none :: ([.fieldLink RX5 34 "Threetwo$Strip" "notes" "I", .fieldLink RX5 23 "Threetwo$Strip" "noteFields" "[I", .fieldLink RX5 27 "Threetwo$Strip" "noteLooks" "[I", .fieldLink RX5 14 "Threetwo$Strip" "looks" "LThreetwo$Row;", .methodLink RX5 45 yX4_at, .instanceMethod yX4_at, .selects RX4 yX4_at yX4_at, .initialized RX4, .code yX4_at cX4_at 2 (some .int), .fieldLink RX4 21 "Threetwo$Row" "told" "I", .fieldLink RX4 15 "Threetwo$Row" "items" "[I", .methodLink RX5 56 yX4_put, .instanceMethod yX4_put, .selects RX4 yX4_put yX4_put, .code yX4_put cX4_put 3 none, .methodLink RX4 25 yX4_has, .instanceMethod yX4_has, .selects RX4 yX4_has yX4_has, .code yX4_has cX4_has 2 (some .boolean)] ++ wsX50 ++ wsX40)
def wsX5_takeBack : List Cond := .code yX5_takeBack cX5_takeBack 2 (some .int) :: ([.fieldLink RX5 34 "Threetwo$Strip" "notes" "I", .fieldLink RX5 23 "Threetwo$Strip" "noteFields" "[I", .fieldLink RX5 14 "Threetwo$Strip" "looks" "LThreetwo$Row;", .fieldLink RX5 27 "Threetwo$Strip" "noteLooks" "[I", .methodLink RX5 56 yX4_put, .instanceMethod yX4_put, .selects RX4 yX4_put yX4_put, .initialized RX4, .code yX4_put cX4_put 3 none, .fieldLink RX4 15 "Threetwo$Row" "items" "[I", .methodLink RX4 25 yX4_has, .instanceMethod yX4_has, .selects RX4 yX4_has yX4_has, .code yX4_has cX4_has 2 (some .boolean), .fieldLink RX4 21 "Threetwo$Row" "told" "I"] ++ wsX50 ++ wsX40)
def wsX5_isNoted : List Cond := .code yX5_isNoted cX5_isNoted 3 (some .boolean) :: ([.fieldLink RX5 34 "Threetwo$Strip" "notes" "I", .fieldLink RX5 23 "Threetwo$Strip" "noteFields" "[I"] ++ wsX50)
def wsX5_firstLike : List Cond := .code yX5_firstLike cX5_firstLike 3 (some .int) :: ([.fieldLink RX5 14 "Threetwo$Strip" "looks" "LThreetwo$Row;", .methodLink RX5 45 yX4_at, .instanceMethod yX4_at, .selects RX4 yX4_at yX4_at, .initialized RX4, .code yX4_at cX4_at 2 (some .int), .fieldLink RX4 21 "Threetwo$Row" "told" "I", .fieldLink RX4 15 "Threetwo$Row" "items" "[I"] ++ wsX50 ++ wsX40)
def wsX5_nameLooks : List Cond := .code yX5_nameLooks cX5_nameLooks 4 (some .int) :: ([.fieldLink RX5 14 "Threetwo$Strip" "looks" "LThreetwo$Row;", .fieldLink RX5 30 "Threetwo$Strip" "signs" "[C", .methodLink RX5 41 yX4_many, .instanceMethod yX4_many, .selects RX4 yX4_many yX4_many, .initialized RX4, .code yX4_many cX4_many 1 (some .int), .fieldLink RX4 21 "Threetwo$Row" "told" "I", .methodLink RX5 59 yX5_firstLike, .instanceMethod yX5_firstLike, .selects RX5 yX5_firstLike yX5_firstLike, .initialized RX5, .code yX5_firstLike cX5_firstLike 3 (some .int), .methodLink RX5 45 yX4_at, .instanceMethod yX4_at, .selects RX4 yX4_at yX4_at, .code yX4_at cX4_at 2 (some .int), .fieldLink RX4 15 "Threetwo$Row" "items" "[I"] ++ wsX50 ++ wsX40)
def wsX6_init_r1 : List Cond := [Cond.methodLink RX6 1 objectInit, Cond.instanceMethod objectInit, Cond.code objectInit ⟨#[0xb1]⟩ 1 none, Cond.classLink RX6 7 RX4, Cond.instantiable RX4 2, Cond.initialized RX4, Cond.fieldLink RX6 14 "Threetwo" "reel" "LThreetwo$Row;", Cond.classLink RX6 18 RX5, Cond.instantiable RX5 6, Cond.initialized RX5, Cond.fieldLink RX6 21 "Threetwo" "strip" "LThreetwo$Strip;", Cond.classLink RX6 25 RX3, Cond.instantiable RX3 9, Cond.initialized RX3, Cond.fieldLink RX6 28 "Threetwo" "rhythm" "LThreetwo$Rhythm;", Cond.classLink RX6 32 RX2, Cond.instantiable RX2 4, Cond.initialized RX2, Cond.fieldLink RX6 35 "Threetwo" "prints" "LThreetwo$Prints;", Cond.classLink RX6 39 RX0, Cond.instantiable RX0 2, Cond.initialized RX0, Cond.fieldLink RX6 42 "Threetwo" "buffer" "LThreetwo$Buffer;", Cond.fieldLink RX6 46 "Threetwo" "changeNow" "I"]
def wsX6_init_r2 : List Cond := [Cond.fieldLink RX6 50 "Threetwo" "refused" "I", Cond.methodLink RX6 11 yX4_init, Cond.instanceMethod yX4_init, Cond.code yX4_init cX4_init 2 none, Cond.methodLink RX4 3 objectInit, Cond.methodLink RX4 9 Lib.Math.max.name, Cond.static Lib.Math.max.name, Cond.initialized "java/lang/Math", Cond.code Lib.Math.max.name Lib.Math.max.code 2 (some .int), Cond.arrayClass .int, Cond.fieldLink RX4 15 "Threetwo$Row" "items" "[I", Cond.fieldLink RX4 21 "Threetwo$Row" "told" "I", Cond.methodLink RX6 20 yX5_init, Cond.instanceMethod yX5_init, Cond.code yX5_init cX5_init 1 none, Cond.methodLink RX5 3 objectInit, Cond.classLink RX5 9 RX4, Cond.fieldLink RX5 14 "Threetwo$Strip" "looks" "LThreetwo$Row;", Cond.fieldLink RX5 20 "Threetwo$Strip" "rest" "LThreetwo$Row;", Cond.fieldLink RX5 23 "Threetwo$Strip" "noteFields" "[I", Cond.fieldLink RX5 27 "Threetwo$Strip" "noteLooks" "[I", Cond.arrayClass .char, Cond.fieldLink RX5 30 "Threetwo$Strip" "signs" "[C", Cond.fieldLink RX5 34 "Threetwo$Strip" "notes" "I"]
def wsX6_init_r3 : List Cond := [Cond.methodLink RX5 11 yX4_init, Cond.methodLink RX6 27 yX3_init, Cond.instanceMethod yX3_init, Cond.code yX3_init cX3_init 1 none, Cond.methodLink RX3 3 objectInit, Cond.fieldLink RX3 11 "Threetwo$Rhythm" "behind" "[I", Cond.fieldLink RX3 15 "Threetwo$Rhythm" "places" "[I", Cond.fieldLink RX3 18 "Threetwo$Rhythm" "frameOf" "[I", Cond.fieldLink RX3 21 "Threetwo$Rhythm" "firsts" "[I", Cond.fieldLink RX3 24 "Threetwo$Rhythm" "lengths" "[I", Cond.fieldLink RX3 27 "Threetwo$Rhythm" "frameLooks" "[I", Cond.fieldLink RX3 30 "Threetwo$Rhythm" "cost" "I", Cond.fieldLink RX3 34 "Threetwo$Rhythm" "frames" "I", Cond.fieldLink RX3 37 "Threetwo$Rhythm" "known" "Z", Cond.methodLink RX6 34 yX2_init, Cond.instanceMethod yX2_init, Cond.code yX2_init cX2_init 2 none, Cond.methodLink RX2 3 objectInit, Cond.classLink RX2 9 RX4, Cond.fieldLink RX2 11 "Threetwo$Prints" "rows" "[LThreetwo$Row;", Cond.fieldLink RX2 20 "Threetwo$Prints" "behind" "[I", Cond.fieldLink RX2 24 "Threetwo$Prints" "signs" "[C", Cond.fieldLink RX2 28 "Threetwo$Prints" "many" "I", Cond.methodLink RX2 17 yX4_init]
def wsX6_init_r4 : List Cond := [Cond.methodLink RX6 41 yX0_init, Cond.instanceMethod yX0_init, Cond.code yX0_init cX0_init 1 none, Cond.methodLink RX0 3 objectInit, Cond.classLink RX0 9 RX4, Cond.fieldLink RX0 14 "Threetwo$Buffer" "sizes" "LThreetwo$Row;", Cond.fieldLink RX0 20 "Threetwo$Buffer" "rateNow" "I", Cond.methodLink RX0 11 yX4_init]
def wsX6_init : List Cond := .code yX6_init cX6_init 1 none :: ((wsX6_init_r1 ++ (wsX6_init_r2 ++ (wsX6_init_r3 ++ wsX6_init_r4))) ++ wsX40 ++ wsX60 ++ wsX50 ++ wsX30 ++ wsX20 ++ wsX00)
def wsX6_requireLook : List Cond := .code yX6_requireLook cX6_requireLook 1 none :: ([.classLink RX6 67 "java/lang/IllegalArgumentException", .initialized "java/lang/IllegalArgumentException"] ++ (vx_atS RX6 71 "java/lang/IllegalArgumentException" ["java/lang/RuntimeException", "java/lang/Exception"]).filter goodWord)
def wsX6_frame : List Cond := .code yX6_frame cX6_frame 3 (some .int) :: ([.classLink RX6 60 "java/lang/IllegalStateException", .initialized "java/lang/IllegalStateException", .fieldLink RX6 14 "Threetwo" "reel" "LThreetwo$Row;", .methodLink RX6 53 yX6_requireLook, .static yX6_requireLook, .initialized RX6, .code yX6_requireLook cX6_requireLook 1 none, .classLink RX6 67 "java/lang/IllegalArgumentException", .initialized "java/lang/IllegalArgumentException", .methodLink RX6 56 yX4_add, .instanceMethod yX4_add, .selects RX4 yX4_add yX4_add, .initialized RX4, .code yX4_add cX4_add 2 (some .int), .fieldLink RX4 21 "Threetwo$Row" "told" "I", .fieldLink RX4 15 "Threetwo$Row" "items" "[I"] ++ wsX60 ++ wsX40 ++ (vx_atS RX6 64 "java/lang/IllegalStateException" ["java/lang/RuntimeException", "java/lang/Exception"]).filter goodWord ++ (vx_atS RX6 71 "java/lang/IllegalArgumentException" ["java/lang/RuntimeException", "java/lang/Exception"]).filter goodWord)
def wsX6_pull_r1 : List Cond := [Cond.classLink RX6 67 "java/lang/IllegalArgumentException", Cond.initialized "java/lang/IllegalArgumentException", Cond.fieldLink RX6 21 "Threetwo" "strip" "LThreetwo$Strip;", Cond.fieldLink RX6 14 "Threetwo" "reel" "LThreetwo$Row;", Cond.fieldLink RX6 28 "Threetwo" "rhythm" "LThreetwo$Rhythm;", Cond.methodLink RX6 72 yX5_pullDown, Cond.instanceMethod yX5_pullDown, Cond.selects RX5 yX5_pullDown yX5_pullDown, Cond.initialized RX5, Cond.code yX5_pullDown cX5_pullDown 6 none, Cond.fieldLink RX5 14 "Threetwo$Strip" "looks" "LThreetwo$Row;", Cond.fieldLink RX5 34 "Threetwo$Strip" "notes" "I", Cond.methodLink RX5 38 yX4_clear, Cond.instanceMethod yX4_clear, Cond.selects RX4 yX4_clear yX4_clear, Cond.initialized RX4, Cond.code yX4_clear cX4_clear 1 none, Cond.fieldLink RX4 21 "Threetwo$Row" "told" "I", Cond.methodLink RX5 41 yX4_many, Cond.instanceMethod yX4_many, Cond.selects RX4 yX4_many yX4_many, Cond.code yX4_many cX4_many 1 (some .int), Cond.methodLink RX5 45 yX4_at, Cond.instanceMethod yX4_at]
def wsX6_pull_r2 : List Cond := [Cond.selects RX4 yX4_at yX4_at, Cond.code yX4_at cX4_at 2 (some .int), Cond.fieldLink RX4 15 "Threetwo$Row" "items" "[I", Cond.methodLink RX5 49 yX4_add, Cond.instanceMethod yX4_add, Cond.selects RX4 yX4_add yX4_add, Cond.code yX4_add cX4_add 2 (some .int), Cond.methodLink RX6 76 yX3_forget, Cond.instanceMethod yX3_forget, Cond.selects RX3 yX3_forget yX3_forget, Cond.initialized RX3, Cond.code yX3_forget cX3_forget 1 none, Cond.fieldLink RX3 37 "Threetwo$Rhythm" "known" "Z", Cond.methodLink RX6 82 yX4_many]
def wsX6_pull : List Cond := .code yX6_pull cX6_pull 2 (some .int) :: ((wsX6_pull_r1 ++ wsX6_pull_r2) ++ wsX60 ++ wsX50 ++ wsX40 ++ wsX30 ++ (vx_atS RX6 71 "java/lang/IllegalArgumentException" ["java/lang/RuntimeException", "java/lang/Exception"]).filter goodWord)
def wsX6_requireField : List Cond := .code yX6_requireField cX6_requireField 2 none :: ([.classLink RX6 151 "java/lang/IndexOutOfBoundsException", .initialized "java/lang/IndexOutOfBoundsException", .fieldLink RX6 21 "Threetwo" "strip" "LThreetwo$Strip;", .methodLink RX6 268 yX4_has, .instanceMethod yX4_has, .selects RX4 yX4_has yX4_has, .initialized RX4, .code yX4_has cX4_has 2 (some .boolean), .fieldLink RX4 21 "Threetwo$Row" "told" "I"] ++ wsX60 ++ wsX50 ++ wsX40 ++ (vx_atS RX6 155 "java/lang/IndexOutOfBoundsException" ["java/lang/RuntimeException", "java/lang/Exception"]).filter goodWord)
def wsX6_cut_r1 : List Cond := [Cond.classLink RX6 67 "java/lang/IllegalArgumentException", Cond.initialized "java/lang/IllegalArgumentException", Cond.fieldLink RX6 21 "Threetwo" "strip" "LThreetwo$Strip;", Cond.fieldLink RX6 28 "Threetwo" "rhythm" "LThreetwo$Rhythm;", Cond.methodLink RX6 86 yX6_requireField, Cond.instanceMethod yX6_requireField, Cond.selects RX6 yX6_requireField yX6_requireField, Cond.initialized RX6, Cond.code yX6_requireField cX6_requireField 2 none, Cond.classLink RX6 151 "java/lang/IndexOutOfBoundsException", Cond.initialized "java/lang/IndexOutOfBoundsException", Cond.methodLink RX6 268 yX4_has, Cond.instanceMethod yX4_has, Cond.selects RX4 yX4_has yX4_has, Cond.initialized RX4, Cond.code yX4_has cX4_has 2 (some .boolean), Cond.fieldLink RX4 21 "Threetwo$Row" "told" "I", Cond.methodLink RX6 82 yX4_many, Cond.instanceMethod yX4_many, Cond.selects RX4 yX4_many yX4_many, Cond.code yX4_many cX4_many 1 (some .int), Cond.methodLink RX6 91 yX5_cutOut, Cond.instanceMethod yX5_cutOut, Cond.selects RX5 yX5_cutOut yX5_cutOut]
def wsX6_cut_r2 : List Cond := [Cond.initialized RX5, Cond.code yX5_cutOut cX5_cutOut 3 none, Cond.fieldLink RX5 14 "Threetwo$Strip" "looks" "LThreetwo$Row;", Cond.fieldLink RX5 34 "Threetwo$Strip" "notes" "I", Cond.methodLink RX5 52 yX4_remove, Cond.instanceMethod yX4_remove, Cond.selects RX4 yX4_remove yX4_remove, Cond.code yX4_remove cX4_remove 4 none, Cond.fieldLink RX4 15 "Threetwo$Row" "items" "[I", Cond.methodLink RX4 25 yX4_has, Cond.methodLink RX6 76 yX3_forget, Cond.instanceMethod yX3_forget, Cond.selects RX3 yX3_forget yX3_forget, Cond.initialized RX3, Cond.code yX3_forget cX3_forget 1 none, Cond.fieldLink RX3 37 "Threetwo$Rhythm" "known" "Z"]
def wsX6_cut : List Cond := .code yX6_cut cX6_cut 3 (some .int) :: ((wsX6_cut_r1 ++ wsX6_cut_r2) ++ wsX60 ++ wsX50 ++ wsX40 ++ wsX30 ++ (vx_atS RX6 71 "java/lang/IllegalArgumentException" ["java/lang/RuntimeException", "java/lang/Exception"]).filter goodWord ++ (vx_atS RX6 155 "java/lang/IndexOutOfBoundsException" ["java/lang/RuntimeException", "java/lang/Exception"]).filter goodWord)
def wsX6_spoil_r1 : List Cond := [Cond.fieldLink RX6 21 "Threetwo" "strip" "LThreetwo$Strip;", Cond.fieldLink RX6 28 "Threetwo" "rhythm" "LThreetwo$Rhythm;", Cond.methodLink RX6 86 yX6_requireField, Cond.instanceMethod yX6_requireField, Cond.selects RX6 yX6_requireField yX6_requireField, Cond.initialized RX6, Cond.code yX6_requireField cX6_requireField 2 none, Cond.classLink RX6 151 "java/lang/IndexOutOfBoundsException", Cond.initialized "java/lang/IndexOutOfBoundsException", Cond.methodLink RX6 268 yX4_has, Cond.instanceMethod yX4_has, Cond.selects RX4 yX4_has yX4_has, Cond.initialized RX4, Cond.code yX4_has cX4_has 2 (some .boolean), Cond.fieldLink RX4 21 "Threetwo$Row" "told" "I", Cond.methodLink RX6 53 yX6_requireLook, Cond.static yX6_requireLook, Cond.code yX6_requireLook cX6_requireLook 1 none, Cond.classLink RX6 67 "java/lang/IllegalArgumentException", Cond.initialized "java/lang/IllegalArgumentException", Cond.methodLink RX6 95 yX4_at, Cond.instanceMethod yX4_at, Cond.selects RX4 yX4_at yX4_at, Cond.code yX4_at cX4_at 2 (some .int)]
def wsX6_spoil_r2 : List Cond := [Cond.fieldLink RX4 15 "Threetwo$Row" "items" "[I", Cond.methodLink RX6 98 yX5_note, Cond.instanceMethod yX5_note, Cond.selects RX5 yX5_note yX5_note, Cond.initialized RX5, Cond.code yX5_note cX5_note 3 none, Cond.fieldLink RX5 34 "Threetwo$Strip" "notes" "I", Cond.fieldLink RX5 23 "Threetwo$Strip" "noteFields" "[I", Cond.fieldLink RX5 27 "Threetwo$Strip" "noteLooks" "[I", Cond.fieldLink RX5 14 "Threetwo$Strip" "looks" "LThreetwo$Row;", Cond.methodLink RX5 45 yX4_at, Cond.methodLink RX5 56 yX4_put, Cond.instanceMethod yX4_put, Cond.selects RX4 yX4_put yX4_put, Cond.code yX4_put cX4_put 3 none, Cond.methodLink RX4 25 yX4_has, Cond.methodLink RX6 76 yX3_forget, Cond.instanceMethod yX3_forget, Cond.selects RX3 yX3_forget yX3_forget, Cond.initialized RX3, Cond.code yX3_forget cX3_forget 1 none, Cond.fieldLink RX3 37 "Threetwo$Rhythm" "known" "Z"]
def wsX6_spoil : List Cond := .code yX6_spoil cX6_spoil 4 (some .int) :: ((wsX6_spoil_r1 ++ wsX6_spoil_r2) ++ wsX60 ++ wsX50 ++ wsX40 ++ wsX30 ++ (vx_atS RX6 155 "java/lang/IndexOutOfBoundsException" ["java/lang/RuntimeException", "java/lang/Exception"]).filter goodWord ++ (vx_atS RX6 71 "java/lang/IllegalArgumentException" ["java/lang/RuntimeException", "java/lang/Exception"]).filter goodWord)
def wsX6_heal_r1 : List Cond := [Cond.fieldLink RX6 21 "Threetwo" "strip" "LThreetwo$Strip;", Cond.fieldLink RX6 28 "Threetwo" "rhythm" "LThreetwo$Rhythm;", Cond.methodLink RX6 101 yX5_takeBack, Cond.instanceMethod yX5_takeBack, Cond.selects RX5 yX5_takeBack yX5_takeBack, Cond.initialized RX5, Cond.code yX5_takeBack cX5_takeBack 2 (some .int), Cond.fieldLink RX5 34 "Threetwo$Strip" "notes" "I", Cond.fieldLink RX5 23 "Threetwo$Strip" "noteFields" "[I", Cond.fieldLink RX5 14 "Threetwo$Strip" "looks" "LThreetwo$Row;", Cond.fieldLink RX5 27 "Threetwo$Strip" "noteLooks" "[I", Cond.methodLink RX5 56 yX4_put, Cond.instanceMethod yX4_put, Cond.selects RX4 yX4_put yX4_put, Cond.initialized RX4, Cond.code yX4_put cX4_put 3 none, Cond.fieldLink RX4 15 "Threetwo$Row" "items" "[I", Cond.methodLink RX4 25 yX4_has, Cond.instanceMethod yX4_has, Cond.selects RX4 yX4_has yX4_has, Cond.code yX4_has cX4_has 2 (some .boolean), Cond.fieldLink RX4 21 "Threetwo$Row" "told" "I", Cond.methodLink RX6 76 yX3_forget, Cond.instanceMethod yX3_forget]
def wsX6_heal_r2 : List Cond := [Cond.selects RX3 yX3_forget yX3_forget, Cond.initialized RX3, Cond.code yX3_forget cX3_forget 1 none, Cond.fieldLink RX3 37 "Threetwo$Rhythm" "known" "Z"]
def wsX6_heal : List Cond := .code yX6_heal cX6_heal 2 (some .int) :: ((wsX6_heal_r1 ++ wsX6_heal_r2) ++ wsX60 ++ wsX50 ++ wsX40 ++ wsX30)
def wsX6_change : List Cond := .code yX6_change cX6_change 3 (some .int) :: ([.classLink RX6 67 "java/lang/IllegalArgumentException", .initialized "java/lang/IllegalArgumentException", .fieldLink RX6 46 "Threetwo" "changeNow" "I", .fieldLink RX6 28 "Threetwo" "rhythm" "LThreetwo$Rhythm;", .methodLink RX6 76 yX3_forget, .instanceMethod yX3_forget, .selects RX3 yX3_forget yX3_forget, .initialized RX3, .code yX3_forget cX3_forget 1 none, .fieldLink RX3 37 "Threetwo$Rhythm" "known" "Z"] ++ wsX60 ++ wsX30 ++ (vx_atS RX6 71 "java/lang/IllegalArgumentException" ["java/lang/RuntimeException", "java/lang/Exception"]).filter goodWord)
def wsX6_print : List Cond := .code yX6_print cX6_print 2 (some .int) :: ([.classLink RX6 60 "java/lang/IllegalStateException", .initialized "java/lang/IllegalStateException", .fieldLink RX6 35 "Threetwo" "prints" "LThreetwo$Prints;", .methodLink RX6 106 yX2_begin, .instanceMethod yX2_begin, .selects RX2 yX2_begin yX2_begin, .initialized RX2, .code yX2_begin cX2_begin 1 (some .int), .fieldLink RX2 28 "Threetwo$Prints" "many" "I"] ++ wsX60 ++ wsX20 ++ (vx_atS RX6 64 "java/lang/IllegalStateException" ["java/lang/RuntimeException", "java/lang/Exception"]).filter goodWord)
def wsX6_requirePrint : List Cond := .code yX6_requirePrint cX6_requirePrint 2 none :: ([.classLink RX6 151 "java/lang/IndexOutOfBoundsException", .initialized "java/lang/IndexOutOfBoundsException", .fieldLink RX6 35 "Threetwo" "prints" "LThreetwo$Prints;", .methodLink RX6 273 yX2_has, .instanceMethod yX2_has, .selects RX2 yX2_has yX2_has, .initialized RX2, .code yX2_has cX2_has 2 (some .boolean), .fieldLink RX2 28 "Threetwo$Prints" "many" "I"] ++ wsX60 ++ wsX20 ++ (vx_atS RX6 155 "java/lang/IndexOutOfBoundsException" ["java/lang/RuntimeException", "java/lang/Exception"]).filter goodWord)
def wsX6_look_r1 : List Cond := [Cond.classLink RX6 60 "java/lang/IllegalStateException", Cond.initialized "java/lang/IllegalStateException", Cond.fieldLink RX6 35 "Threetwo" "prints" "LThreetwo$Prints;", Cond.methodLink RX6 111 yX6_requirePrint, Cond.instanceMethod yX6_requirePrint, Cond.selects RX6 yX6_requirePrint yX6_requirePrint, Cond.initialized RX6, Cond.code yX6_requirePrint cX6_requirePrint 2 none, Cond.classLink RX6 151 "java/lang/IndexOutOfBoundsException", Cond.initialized "java/lang/IndexOutOfBoundsException", Cond.methodLink RX6 273 yX2_has, Cond.instanceMethod yX2_has, Cond.selects RX2 yX2_has yX2_has, Cond.initialized RX2, Cond.code yX2_has cX2_has 2 (some .boolean), Cond.fieldLink RX2 28 "Threetwo$Prints" "many" "I", Cond.methodLink RX6 53 yX6_requireLook, Cond.static yX6_requireLook, Cond.code yX6_requireLook cX6_requireLook 1 none, Cond.classLink RX6 67 "java/lang/IllegalArgumentException", Cond.initialized "java/lang/IllegalArgumentException", Cond.methodLink RX6 114 yX2_row, Cond.instanceMethod yX2_row, Cond.selects RX2 yX2_row yX2_row]
def wsX6_look_r2 : List Cond := [Cond.code yX2_row cX2_row 2 (some (.object "Threetwo$Row")), Cond.fieldLink RX2 11 "Threetwo$Prints" "rows" "[LThreetwo$Row;", Cond.methodLink RX6 56 yX4_add, Cond.instanceMethod yX4_add, Cond.selects RX4 yX4_add yX4_add, Cond.initialized RX4, Cond.code yX4_add cX4_add 2 (some .int), Cond.fieldLink RX4 21 "Threetwo$Row" "told" "I", Cond.fieldLink RX4 15 "Threetwo$Row" "items" "[I"]
def wsX6_look : List Cond := .code yX6_look cX6_look 4 (some .int) :: ((wsX6_look_r1 ++ wsX6_look_r2) ++ wsX60 ++ wsX20 ++ wsX40 ++ (vx_atS RX6 64 "java/lang/IllegalStateException" ["java/lang/RuntimeException", "java/lang/Exception"]).filter goodWord ++ (vx_atS RX6 155 "java/lang/IndexOutOfBoundsException" ["java/lang/RuntimeException", "java/lang/Exception"]).filter goodWord ++ (vx_atS RX6 71 "java/lang/IllegalArgumentException" ["java/lang/RuntimeException", "java/lang/Exception"]).filter goodWord)
def wsX6_rate : List Cond := .code yX6_rate cX6_rate 3 (some .int) :: ([.classLink RX6 67 "java/lang/IllegalArgumentException", .initialized "java/lang/IllegalArgumentException", .fieldLink RX6 42 "Threetwo" "buffer" "LThreetwo$Buffer;"] ++ wsX60 ++ wsX00 ++ (vx_atS RX6 71 "java/lang/IllegalArgumentException" ["java/lang/RuntimeException", "java/lang/Exception"]).filter goodWord)
def wsX6_size : List Cond := .code yX6_size cX6_size 3 (some .int) :: ([.classLink RX6 67 "java/lang/IllegalArgumentException", .initialized "java/lang/IllegalArgumentException", .classLink RX6 60 "java/lang/IllegalStateException", .initialized "java/lang/IllegalStateException", .fieldLink RX6 42 "Threetwo" "buffer" "LThreetwo$Buffer;", .methodLink RX6 56 yX4_add, .instanceMethod yX4_add, .selects RX4 yX4_add yX4_add, .initialized RX4, .code yX4_add cX4_add 2 (some .int), .fieldLink RX4 21 "Threetwo$Row" "told" "I", .fieldLink RX4 15 "Threetwo$Row" "items" "[I"] ++ wsX60 ++ wsX00 ++ wsX40 ++ (vx_atS RX6 71 "java/lang/IllegalArgumentException" ["java/lang/RuntimeException", "java/lang/Exception"]).filter goodWord ++ (vx_atS RX6 64 "java/lang/IllegalStateException" ["java/lang/RuntimeException", "java/lang/Exception"]).filter goodWord)
def wsX6_ofField_r1 : List Cond := [Cond.classLink RX6 67 "java/lang/IllegalArgumentException", Cond.initialized "java/lang/IllegalArgumentException", Cond.fieldLink RX6 28 "Threetwo" "rhythm" "LThreetwo$Rhythm;", Cond.fieldLink RX6 21 "Threetwo" "strip" "LThreetwo$Strip;", Cond.fieldLink RX6 46 "Threetwo" "changeNow" "I", Cond.methodLink RX6 86 yX6_requireField, Cond.instanceMethod yX6_requireField, Cond.selects RX6 yX6_requireField yX6_requireField, Cond.initialized RX6, Cond.code yX6_requireField cX6_requireField 2 none, Cond.classLink RX6 151 "java/lang/IndexOutOfBoundsException", Cond.initialized "java/lang/IndexOutOfBoundsException", Cond.methodLink RX6 268 yX4_has, Cond.instanceMethod yX4_has, Cond.selects RX4 yX4_has yX4_has, Cond.initialized RX4, Cond.code yX4_has cX4_has 2 (some .boolean), Cond.fieldLink RX4 21 "Threetwo$Row" "told" "I", Cond.methodLink RX6 132 yX3_find, Cond.instanceMethod yX3_find, Cond.selects RX3 yX3_find yX3_find, Cond.initialized RX3, Cond.code yX3_find cX3_find 4 none, Cond.fieldLink RX3 37 "Threetwo$Rhythm" "known" "Z"]
def wsX6_ofField_r2 : List Cond := [Cond.fieldLink RX3 30 "Threetwo$Rhythm" "cost" "I", Cond.fieldLink RX3 34 "Threetwo$Rhythm" "frames" "I", Cond.fieldLink RX3 27 "Threetwo$Rhythm" "frameLooks" "[I", Cond.fieldLink RX3 21 "Threetwo$Rhythm" "firsts" "[I", Cond.fieldLink RX3 24 "Threetwo$Rhythm" "lengths" "[I", Cond.methodLink RX3 41 yX3_leastCost, Cond.instanceMethod yX3_leastCost, Cond.selects RX3 yX3_leastCost yX3_leastCost, Cond.code yX3_leastCost cX3_leastCost 8 (some .int), Cond.fieldLink RX3 11 "Threetwo$Rhythm" "behind" "[I", Cond.methodLink RX3 49 yX4_many, Cond.instanceMethod yX4_many, Cond.selects RX4 yX4_many yX4_many, Cond.code yX4_many cX4_many 1 (some .int), Cond.methodLink RX3 63 yX4_at, Cond.instanceMethod yX4_at, Cond.selects RX4 yX4_at yX4_at, Cond.code yX4_at cX4_at 2 (some .int), Cond.fieldLink RX4 15 "Threetwo$Row" "items" "[I", Cond.methodLink RX3 67 yX3_bestNext, Cond.instanceMethod yX3_bestNext, Cond.selects RX3 yX3_bestNext yX3_bestNext, Cond.code yX3_bestNext cX3_bestNext 10 (some .int), Cond.methodLink RX3 71 yX3_step]
def wsX6_ofField_r3 : List Cond := [Cond.static yX3_step, Cond.code yX3_step cX3_step 4 (some .int), Cond.methodLink RX3 74 yX3_bestFirst, Cond.instanceMethod yX3_bestFirst, Cond.selects RX3 yX3_bestFirst yX3_bestFirst, Cond.code yX3_bestFirst cX3_bestFirst 3 (some .int), Cond.methodLink RX3 45 yX3_tracePath, Cond.instanceMethod yX3_tracePath, Cond.selects RX3 yX3_tracePath yX3_tracePath, Cond.code yX3_tracePath cX3_tracePath 5 none, Cond.fieldLink RX3 15 "Threetwo$Rhythm" "places" "[I", Cond.methodLink RX3 55 yX3_gatherFrames, Cond.instanceMethod yX3_gatherFrames, Cond.selects RX3 yX3_gatherFrames yX3_gatherFrames, Cond.code yX3_gatherFrames cX3_gatherFrames 4 none, Cond.fieldLink RX3 18 "Threetwo$Rhythm" "frameOf" "[I", Cond.methodLink RX3 77 yX3_beginsFrame, Cond.instanceMethod yX3_beginsFrame, Cond.selects RX3 yX3_beginsFrame yX3_beginsFrame, Cond.code yX3_beginsFrame cX3_beginsFrame 3 (some .boolean), Cond.methodLink RX3 59 yX3_commonLook, Cond.static yX3_commonLook, Cond.code yX3_commonLook cX3_commonLook 8 (some .int), Cond.methodLink RX3 81 yX3_timesOf]
def wsX6_ofField_r4 : List Cond := [Cond.static yX3_timesOf, Cond.code yX3_timesOf cX3_timesOf 6 (some .int), Cond.methodLink RX6 95 yX4_at, Cond.methodLink RX6 142 yX5_isNoted, Cond.instanceMethod yX5_isNoted, Cond.selects RX5 yX5_isNoted yX5_isNoted, Cond.initialized RX5, Cond.code yX5_isNoted cX5_isNoted 3 (some .boolean), Cond.fieldLink RX5 34 "Threetwo$Strip" "notes" "I", Cond.fieldLink RX5 23 "Threetwo$Strip" "noteFields" "[I"]
def wsX6_ofField : List Cond := .code yX6_ofField cX6_ofField 3 (some .int) :: ((wsX6_ofField_r1 ++ (wsX6_ofField_r2 ++ (wsX6_ofField_r3 ++ wsX6_ofField_r4))) ++ wsX60 ++ wsX50 ++ wsX30 ++ wsX40 ++ (vx_atS RX6 71 "java/lang/IllegalArgumentException" ["java/lang/RuntimeException", "java/lang/Exception"]).filter goodWord ++ (vx_atS RX6 155 "java/lang/IndexOutOfBoundsException" ["java/lang/RuntimeException", "java/lang/Exception"]).filter goodWord)
def wsX6_found_r1 : List Cond := [Cond.classLink RX6 151 "java/lang/IndexOutOfBoundsException", Cond.initialized "java/lang/IndexOutOfBoundsException", Cond.classLink RX6 67 "java/lang/IllegalArgumentException", Cond.initialized "java/lang/IllegalArgumentException", Cond.fieldLink RX6 28 "Threetwo" "rhythm" "LThreetwo$Rhythm;", Cond.fieldLink RX6 21 "Threetwo" "strip" "LThreetwo$Strip;", Cond.fieldLink RX6 46 "Threetwo" "changeNow" "I", Cond.methodLink RX6 132 yX3_find, Cond.instanceMethod yX3_find, Cond.selects RX3 yX3_find yX3_find, Cond.initialized RX3, Cond.code yX3_find cX3_find 4 none, Cond.fieldLink RX3 37 "Threetwo$Rhythm" "known" "Z", Cond.fieldLink RX3 30 "Threetwo$Rhythm" "cost" "I", Cond.fieldLink RX3 34 "Threetwo$Rhythm" "frames" "I", Cond.fieldLink RX3 27 "Threetwo$Rhythm" "frameLooks" "[I", Cond.fieldLink RX3 21 "Threetwo$Rhythm" "firsts" "[I", Cond.fieldLink RX3 24 "Threetwo$Rhythm" "lengths" "[I", Cond.methodLink RX3 41 yX3_leastCost, Cond.instanceMethod yX3_leastCost, Cond.selects RX3 yX3_leastCost yX3_leastCost, Cond.code yX3_leastCost cX3_leastCost 8 (some .int), Cond.fieldLink RX3 11 "Threetwo$Rhythm" "behind" "[I", Cond.methodLink RX3 49 yX4_many]
def wsX6_found_r2 : List Cond := [Cond.instanceMethod yX4_many, Cond.selects RX4 yX4_many yX4_many, Cond.initialized RX4, Cond.code yX4_many cX4_many 1 (some .int), Cond.fieldLink RX4 21 "Threetwo$Row" "told" "I", Cond.methodLink RX3 63 yX4_at, Cond.instanceMethod yX4_at, Cond.selects RX4 yX4_at yX4_at, Cond.code yX4_at cX4_at 2 (some .int), Cond.fieldLink RX4 15 "Threetwo$Row" "items" "[I", Cond.methodLink RX3 67 yX3_bestNext, Cond.instanceMethod yX3_bestNext, Cond.selects RX3 yX3_bestNext yX3_bestNext, Cond.code yX3_bestNext cX3_bestNext 10 (some .int), Cond.methodLink RX3 71 yX3_step, Cond.static yX3_step, Cond.code yX3_step cX3_step 4 (some .int), Cond.methodLink RX3 74 yX3_bestFirst, Cond.instanceMethod yX3_bestFirst, Cond.selects RX3 yX3_bestFirst yX3_bestFirst, Cond.code yX3_bestFirst cX3_bestFirst 3 (some .int), Cond.methodLink RX3 45 yX3_tracePath, Cond.instanceMethod yX3_tracePath, Cond.selects RX3 yX3_tracePath yX3_tracePath]
def wsX6_found_r3 : List Cond := [Cond.code yX3_tracePath cX3_tracePath 5 none, Cond.fieldLink RX3 15 "Threetwo$Rhythm" "places" "[I", Cond.methodLink RX3 55 yX3_gatherFrames, Cond.instanceMethod yX3_gatherFrames, Cond.selects RX3 yX3_gatherFrames yX3_gatherFrames, Cond.code yX3_gatherFrames cX3_gatherFrames 4 none, Cond.fieldLink RX3 18 "Threetwo$Rhythm" "frameOf" "[I", Cond.methodLink RX3 77 yX3_beginsFrame, Cond.instanceMethod yX3_beginsFrame, Cond.selects RX3 yX3_beginsFrame yX3_beginsFrame, Cond.code yX3_beginsFrame cX3_beginsFrame 3 (some .boolean), Cond.methodLink RX3 59 yX3_commonLook, Cond.static yX3_commonLook, Cond.code yX3_commonLook cX3_commonLook 8 (some .int), Cond.methodLink RX3 81 yX3_timesOf, Cond.static yX3_timesOf, Cond.code yX3_timesOf cX3_timesOf 6 (some .int)]
def wsX6_found : List Cond := .code yX6_found cX6_found 3 (some .int) :: ((wsX6_found_r1 ++ (wsX6_found_r2 ++ wsX6_found_r3)) ++ wsX60 ++ wsX50 ++ wsX30 ++ wsX40 ++ (vx_atS RX6 155 "java/lang/IndexOutOfBoundsException" ["java/lang/RuntimeException", "java/lang/Exception"]).filter goodWord ++ (vx_atS RX6 71 "java/lang/IllegalArgumentException" ["java/lang/RuntimeException", "java/lang/Exception"]).filter goodWord)
def wsX6_apart_r1 : List Cond := [Cond.fieldLink RX6 35 "Threetwo" "prints" "LThreetwo$Prints;", Cond.methodLink RX6 111 yX6_requirePrint, Cond.instanceMethod yX6_requirePrint, Cond.selects RX6 yX6_requirePrint yX6_requirePrint, Cond.initialized RX6, Cond.code yX6_requirePrint cX6_requirePrint 2 none, Cond.classLink RX6 151 "java/lang/IndexOutOfBoundsException", Cond.initialized "java/lang/IndexOutOfBoundsException", Cond.methodLink RX6 273 yX2_has, Cond.instanceMethod yX2_has, Cond.selects RX2 yX2_has yX2_has, Cond.initialized RX2, Cond.code yX2_has cX2_has 2 (some .boolean), Cond.fieldLink RX2 28 "Threetwo$Prints" "many" "I", Cond.methodLink RX6 169 yX2_distance, Cond.instanceMethod yX2_distance, Cond.selects RX2 yX2_distance yX2_distance, Cond.code yX2_distance cX2_distance 7 (some .int), Cond.fieldLink RX2 11 "Threetwo$Prints" "rows" "[LThreetwo$Row;", Cond.fieldLink RX2 20 "Threetwo$Prints" "behind" "[I", Cond.methodLink RX2 32 yX4_many, Cond.instanceMethod yX4_many, Cond.selects RX4 yX4_many yX4_many, Cond.initialized RX4]
def wsX6_apart_r2 : List Cond := [Cond.code yX4_many cX4_many 1 (some .int), Cond.fieldLink RX4 21 "Threetwo$Row" "told" "I", Cond.methodLink RX2 35 yX2_leastFrom, Cond.instanceMethod yX2_leastFrom, Cond.selects RX2 yX2_leastFrom yX2_leastFrom, Cond.code yX2_leastFrom cX2_leastFrom 7 (some .int), Cond.methodLink RX2 51 Lib.Math.min.name, Cond.static Lib.Math.min.name, Cond.initialized "java/lang/Math", Cond.code Lib.Math.min.name Lib.Math.min.code 2 (some .int), Cond.methodLink RX2 43 yX4_has, Cond.instanceMethod yX4_has, Cond.selects RX4 yX4_has yX4_has, Cond.code yX4_has cX4_has 2 (some .boolean), Cond.methodLink RX2 56 yX4_at, Cond.instanceMethod yX4_at, Cond.selects RX4 yX4_at yX4_at, Cond.code yX4_at cX4_at 2 (some .int), Cond.fieldLink RX4 15 "Threetwo$Row" "items" "[I", Cond.methodLink RX2 60 yX2_together, Cond.static yX2_together, Cond.code yX2_together cX2_together 2 (some .int), Cond.methodLink RX2 63 Lib.Math.abs.name, Cond.static Lib.Math.abs.name]
def wsX6_apart_r3 : List Cond := [Cond.code Lib.Math.abs.name Lib.Math.abs.code 1 (some .int)]
def wsX6_apart : List Cond := .code yX6_apart cX6_apart 3 (some .int) :: ((wsX6_apart_r1 ++ (wsX6_apart_r2 ++ wsX6_apart_r3)) ++ wsX60 ++ wsX20 ++ wsX40 ++ (vx_atS RX6 155 "java/lang/IndexOutOfBoundsException" ["java/lang/RuntimeException", "java/lang/Exception"]).filter goodWord)
def wsX6_house_r1 : List Cond := [Cond.classLink RX6 67 "java/lang/IllegalArgumentException", Cond.initialized "java/lang/IllegalArgumentException", Cond.fieldLink RX6 14 "Threetwo" "reel" "LThreetwo$Row;", Cond.fieldLink RX6 21 "Threetwo" "strip" "LThreetwo$Strip;", Cond.fieldLink RX6 46 "Threetwo" "changeNow" "I", Cond.fieldLink RX6 28 "Threetwo" "rhythm" "LThreetwo$Rhythm;", Cond.fieldLink RX6 35 "Threetwo" "prints" "LThreetwo$Prints;", Cond.fieldLink RX6 42 "Threetwo" "buffer" "LThreetwo$Buffer;", Cond.fieldLink RX6 50 "Threetwo" "refused" "I", Cond.methodLink RX6 82 yX4_many, Cond.instanceMethod yX4_many, Cond.selects RX4 yX4_many yX4_many, Cond.initialized RX4, Cond.code yX4_many cX4_many 1 (some .int), Cond.fieldLink RX4 21 "Threetwo$Row" "told" "I", Cond.methodLink RX6 132 yX3_find, Cond.instanceMethod yX3_find, Cond.selects RX3 yX3_find yX3_find, Cond.initialized RX3, Cond.code yX3_find cX3_find 4 none, Cond.fieldLink RX3 37 "Threetwo$Rhythm" "known" "Z", Cond.fieldLink RX3 30 "Threetwo$Rhythm" "cost" "I", Cond.fieldLink RX3 34 "Threetwo$Rhythm" "frames" "I", Cond.fieldLink RX3 27 "Threetwo$Rhythm" "frameLooks" "[I"]
def wsX6_house_r2 : List Cond := [Cond.fieldLink RX3 21 "Threetwo$Rhythm" "firsts" "[I", Cond.fieldLink RX3 24 "Threetwo$Rhythm" "lengths" "[I", Cond.methodLink RX3 41 yX3_leastCost, Cond.instanceMethod yX3_leastCost, Cond.selects RX3 yX3_leastCost yX3_leastCost, Cond.code yX3_leastCost cX3_leastCost 8 (some .int), Cond.fieldLink RX3 11 "Threetwo$Rhythm" "behind" "[I", Cond.methodLink RX3 49 yX4_many, Cond.methodLink RX3 63 yX4_at, Cond.instanceMethod yX4_at, Cond.selects RX4 yX4_at yX4_at, Cond.code yX4_at cX4_at 2 (some .int), Cond.fieldLink RX4 15 "Threetwo$Row" "items" "[I", Cond.methodLink RX3 67 yX3_bestNext, Cond.instanceMethod yX3_bestNext, Cond.selects RX3 yX3_bestNext yX3_bestNext, Cond.code yX3_bestNext cX3_bestNext 10 (some .int), Cond.methodLink RX3 71 yX3_step, Cond.static yX3_step, Cond.code yX3_step cX3_step 4 (some .int), Cond.methodLink RX3 74 yX3_bestFirst, Cond.instanceMethod yX3_bestFirst, Cond.selects RX3 yX3_bestFirst yX3_bestFirst, Cond.code yX3_bestFirst cX3_bestFirst 3 (some .int)]
def wsX6_house_r3 : List Cond := [Cond.methodLink RX3 45 yX3_tracePath, Cond.instanceMethod yX3_tracePath, Cond.selects RX3 yX3_tracePath yX3_tracePath, Cond.code yX3_tracePath cX3_tracePath 5 none, Cond.fieldLink RX3 15 "Threetwo$Rhythm" "places" "[I", Cond.methodLink RX3 55 yX3_gatherFrames, Cond.instanceMethod yX3_gatherFrames, Cond.selects RX3 yX3_gatherFrames yX3_gatherFrames, Cond.code yX3_gatherFrames cX3_gatherFrames 4 none, Cond.fieldLink RX3 18 "Threetwo$Rhythm" "frameOf" "[I", Cond.methodLink RX3 77 yX3_beginsFrame, Cond.instanceMethod yX3_beginsFrame, Cond.selects RX3 yX3_beginsFrame yX3_beginsFrame, Cond.code yX3_beginsFrame cX3_beginsFrame 3 (some .boolean), Cond.methodLink RX3 59 yX3_commonLook, Cond.static yX3_commonLook, Cond.code yX3_commonLook cX3_commonLook 8 (some .int), Cond.methodLink RX3 81 yX3_timesOf, Cond.static yX3_timesOf, Cond.code yX3_timesOf cX3_timesOf 6 (some .int), Cond.methodLink RX6 192 yX0_leastDelay, Cond.instanceMethod yX0_leastDelay, Cond.selects RX0 yX0_leastDelay yX0_leastDelay, Cond.initialized RX0]
def wsX6_house_r4 : List Cond := [Cond.code yX0_leastDelay cX0_leastDelay 5 (some .int), Cond.fieldLink RX0 14 "Threetwo$Buffer" "sizes" "LThreetwo$Row;", Cond.fieldLink RX0 20 "Threetwo$Buffer" "rateNow" "I", Cond.methodLink RX0 39 Lib.Math.max.name, Cond.static Lib.Math.max.name, Cond.initialized "java/lang/Math", Cond.code Lib.Math.max.name Lib.Math.max.code 2 (some .int), Cond.methodLink RX0 28 yX4_many, Cond.methodLink RX0 31 yX4_at, Cond.methodLink RX6 195 yX0_peak, Cond.instanceMethod yX0_peak, Cond.selects RX0 yX0_peak yX0_peak, Cond.code yX0_peak cX0_peak 6 (some .int), Cond.methodLink RX0 44 yX0_leastDelay, Cond.methodLink RX0 24 yX0_sumOfSizes, Cond.instanceMethod yX0_sumOfSizes, Cond.selects RX0 yX0_sumOfSizes yX0_sumOfSizes, Cond.code yX0_sumOfSizes cX0_sumOfSizes 3 (some .int), Cond.methodLink RX0 35 yX0_cameIn, Cond.instanceMethod yX0_cameIn, Cond.selects RX0 yX0_cameIn yX0_cameIn, Cond.code yX0_cameIn cX0_cameIn 3 (some .int), Cond.methodLink RX0 47 Lib.Math.min.name, Cond.static Lib.Math.min.name]
def wsX6_house_r5 : List Cond := [Cond.code Lib.Math.min.name Lib.Math.min.code 2 (some .int)]
def wsX6_house : List Cond := .code yX6_house cX6_house 2 (some .int) :: ((wsX6_house_r1 ++ (wsX6_house_r2 ++ (wsX6_house_r3 ++ (wsX6_house_r4 ++ wsX6_house_r5)))) ++ wsX60 ++ wsX50 ++ wsX30 ++ wsX20 ++ wsX00 ++ wsX40 ++ (vx_atS RX6 71 "java/lang/IllegalArgumentException" ["java/lang/RuntimeException", "java/lang/Exception"]).filter goodWord)
def wsX6_label : List Cond := .code yX6_label cX6_label 2 (some .int) :: ([.classLink RX6 67 "java/lang/IllegalArgumentException", .initialized "java/lang/IllegalArgumentException", .constant RX6 204 (107892), .methodLink RX6 207 yX1_labelOf, .static yX1_labelOf, .initialized RX1, .code yX1_labelOf cX1_labelOf 4 (some .int)] ++ (vx_atS RX6 71 "java/lang/IllegalArgumentException" ["java/lang/RuntimeException", "java/lang/Exception"]).filter goodWord)
def wsX6_picture : List Cond := .code yX6_picture cX6_picture 2 (some .int) :: ([.methodLink RX6 212 yX1_pictureOf, .static yX1_pictureOf, .initialized RX1, .code yX1_pictureOf cX1_pictureOf 5 (some .int), .methodLink RX1 11 yX1_isLeftOut, .static yX1_isLeftOut, .code yX1_isLeftOut cX1_isLeftOut 3 (some .boolean)])
def wsX6_dry_r1 : List Cond := [Cond.classLink RX6 67 "java/lang/IllegalArgumentException", Cond.initialized "java/lang/IllegalArgumentException", Cond.fieldLink RX6 42 "Threetwo" "buffer" "LThreetwo$Buffer;", Cond.methodLink RX6 217 yX0_firstDry, Cond.instanceMethod yX0_firstDry, Cond.selects RX0 yX0_firstDry yX0_firstDry, Cond.initialized RX0, Cond.code yX0_firstDry cX0_firstDry 5 (some .int), Cond.fieldLink RX0 14 "Threetwo$Buffer" "sizes" "LThreetwo$Row;", Cond.methodLink RX0 24 yX0_sumOfSizes, Cond.instanceMethod yX0_sumOfSizes, Cond.selects RX0 yX0_sumOfSizes yX0_sumOfSizes, Cond.code yX0_sumOfSizes cX0_sumOfSizes 3 (some .int), Cond.methodLink RX0 28 yX4_many, Cond.instanceMethod yX4_many, Cond.selects RX4 yX4_many yX4_many, Cond.initialized RX4, Cond.code yX4_many cX4_many 1 (some .int), Cond.fieldLink RX4 21 "Threetwo$Row" "told" "I", Cond.methodLink RX0 31 yX4_at, Cond.instanceMethod yX4_at, Cond.selects RX4 yX4_at yX4_at, Cond.code yX4_at cX4_at 2 (some .int), Cond.fieldLink RX4 15 "Threetwo$Row" "items" "[I"]
def wsX6_dry_r2 : List Cond := [Cond.methodLink RX0 35 yX0_cameIn, Cond.instanceMethod yX0_cameIn, Cond.selects RX0 yX0_cameIn yX0_cameIn, Cond.code yX0_cameIn cX0_cameIn 3 (some .int), Cond.fieldLink RX0 20 "Threetwo$Buffer" "rateNow" "I", Cond.methodLink RX0 47 Lib.Math.min.name, Cond.static Lib.Math.min.name, Cond.initialized "java/lang/Math", Cond.code Lib.Math.min.name Lib.Math.min.code 2 (some .int)]
def wsX6_dry : List Cond := .code yX6_dry cX6_dry 2 (some .int) :: ((wsX6_dry_r1 ++ wsX6_dry_r2) ++ wsX60 ++ wsX00 ++ wsX40 ++ (vx_atS RX6 71 "java/lang/IllegalArgumentException" ["java/lang/RuntimeException", "java/lang/Exception"]).filter goodWord)
def wsX6_pairIsSound_r1 : List Cond := [Cond.fieldLink RX6 35 "Threetwo" "prints" "LThreetwo$Prints;", Cond.methodLink RX6 169 yX2_distance, Cond.instanceMethod yX2_distance, Cond.selects RX2 yX2_distance yX2_distance, Cond.initialized RX2, Cond.code yX2_distance cX2_distance 7 (some .int), Cond.fieldLink RX2 11 "Threetwo$Prints" "rows" "[LThreetwo$Row;", Cond.fieldLink RX2 20 "Threetwo$Prints" "behind" "[I", Cond.methodLink RX2 32 yX4_many, Cond.instanceMethod yX4_many, Cond.selects RX4 yX4_many yX4_many, Cond.initialized RX4, Cond.code yX4_many cX4_many 1 (some .int), Cond.fieldLink RX4 21 "Threetwo$Row" "told" "I", Cond.methodLink RX2 35 yX2_leastFrom, Cond.instanceMethod yX2_leastFrom, Cond.selects RX2 yX2_leastFrom yX2_leastFrom, Cond.code yX2_leastFrom cX2_leastFrom 7 (some .int), Cond.methodLink RX2 51 Lib.Math.min.name, Cond.static Lib.Math.min.name, Cond.initialized "java/lang/Math", Cond.code Lib.Math.min.name Lib.Math.min.code 2 (some .int), Cond.methodLink RX2 43 yX4_has, Cond.instanceMethod yX4_has]
def wsX6_pairIsSound_r2 : List Cond := [Cond.selects RX4 yX4_has yX4_has, Cond.code yX4_has cX4_has 2 (some .boolean), Cond.methodLink RX2 56 yX4_at, Cond.instanceMethod yX4_at, Cond.selects RX4 yX4_at yX4_at, Cond.code yX4_at cX4_at 2 (some .int), Cond.fieldLink RX4 15 "Threetwo$Row" "items" "[I", Cond.methodLink RX2 60 yX2_together, Cond.static yX2_together, Cond.code yX2_together cX2_together 2 (some .int), Cond.methodLink RX2 63 Lib.Math.abs.name, Cond.static Lib.Math.abs.name, Cond.code Lib.Math.abs.name Lib.Math.abs.code 1 (some .int)]
def wsX6_pairIsSound : List Cond := .code yX6_pairIsSound cX6_pairIsSound 5 (some .boolean) :: ((wsX6_pairIsSound_r1 ++ wsX6_pairIsSound_r2) ++ wsX60 ++ wsX20 ++ wsX40)
def wsX6_printsAreSound_r1 : List Cond := [Cond.fieldLink RX6 35 "Threetwo" "prints" "LThreetwo$Prints;", Cond.methodLink RX6 287 yX6_pairIsSound, Cond.instanceMethod yX6_pairIsSound, Cond.selects RX6 yX6_pairIsSound yX6_pairIsSound, Cond.initialized RX6, Cond.code yX6_pairIsSound cX6_pairIsSound 5 (some .boolean), Cond.methodLink RX6 169 yX2_distance, Cond.instanceMethod yX2_distance, Cond.selects RX2 yX2_distance yX2_distance, Cond.initialized RX2, Cond.code yX2_distance cX2_distance 7 (some .int), Cond.fieldLink RX2 11 "Threetwo$Prints" "rows" "[LThreetwo$Row;", Cond.fieldLink RX2 20 "Threetwo$Prints" "behind" "[I", Cond.methodLink RX2 32 yX4_many, Cond.instanceMethod yX4_many, Cond.selects RX4 yX4_many yX4_many, Cond.initialized RX4, Cond.code yX4_many cX4_many 1 (some .int), Cond.fieldLink RX4 21 "Threetwo$Row" "told" "I", Cond.methodLink RX2 35 yX2_leastFrom, Cond.instanceMethod yX2_leastFrom, Cond.selects RX2 yX2_leastFrom yX2_leastFrom, Cond.code yX2_leastFrom cX2_leastFrom 7 (some .int), Cond.methodLink RX2 51 Lib.Math.min.name]
def wsX6_printsAreSound_r2 : List Cond := [Cond.static Lib.Math.min.name, Cond.initialized "java/lang/Math", Cond.code Lib.Math.min.name Lib.Math.min.code 2 (some .int), Cond.methodLink RX2 43 yX4_has, Cond.instanceMethod yX4_has, Cond.selects RX4 yX4_has yX4_has, Cond.code yX4_has cX4_has 2 (some .boolean), Cond.methodLink RX2 56 yX4_at, Cond.instanceMethod yX4_at, Cond.selects RX4 yX4_at yX4_at, Cond.code yX4_at cX4_at 2 (some .int), Cond.fieldLink RX4 15 "Threetwo$Row" "items" "[I", Cond.methodLink RX2 60 yX2_together, Cond.static yX2_together, Cond.code yX2_together cX2_together 2 (some .int), Cond.methodLink RX2 63 Lib.Math.abs.name, Cond.static Lib.Math.abs.name, Cond.code Lib.Math.abs.name Lib.Math.abs.code 1 (some .int)]
def wsX6_printsAreSound : List Cond := .code yX6_printsAreSound cX6_printsAreSound 3 (some .boolean) :: ((wsX6_printsAreSound_r1 ++ wsX6_printsAreSound_r2) ++ wsX60 ++ wsX20 ++ wsX40)
def wsX6_bufferIsSound_r1 : List Cond := [Cond.fieldLink RX6 42 "Threetwo" "buffer" "LThreetwo$Buffer;", Cond.methodLink RX6 192 yX0_leastDelay, Cond.instanceMethod yX0_leastDelay, Cond.selects RX0 yX0_leastDelay yX0_leastDelay, Cond.initialized RX0, Cond.code yX0_leastDelay cX0_leastDelay 5 (some .int), Cond.fieldLink RX0 14 "Threetwo$Buffer" "sizes" "LThreetwo$Row;", Cond.fieldLink RX0 20 "Threetwo$Buffer" "rateNow" "I", Cond.methodLink RX0 39 Lib.Math.max.name, Cond.static Lib.Math.max.name, Cond.initialized "java/lang/Math", Cond.code Lib.Math.max.name Lib.Math.max.code 2 (some .int), Cond.methodLink RX0 28 yX4_many, Cond.instanceMethod yX4_many, Cond.selects RX4 yX4_many yX4_many, Cond.initialized RX4, Cond.code yX4_many cX4_many 1 (some .int), Cond.fieldLink RX4 21 "Threetwo$Row" "told" "I", Cond.methodLink RX0 31 yX4_at, Cond.instanceMethod yX4_at, Cond.selects RX4 yX4_at yX4_at, Cond.code yX4_at cX4_at 2 (some .int), Cond.fieldLink RX4 15 "Threetwo$Row" "items" "[I", Cond.methodLink RX6 217 yX0_firstDry]
def wsX6_bufferIsSound_r2 : List Cond := [Cond.instanceMethod yX0_firstDry, Cond.selects RX0 yX0_firstDry yX0_firstDry, Cond.code yX0_firstDry cX0_firstDry 5 (some .int), Cond.methodLink RX0 24 yX0_sumOfSizes, Cond.instanceMethod yX0_sumOfSizes, Cond.selects RX0 yX0_sumOfSizes yX0_sumOfSizes, Cond.code yX0_sumOfSizes cX0_sumOfSizes 3 (some .int), Cond.methodLink RX0 35 yX0_cameIn, Cond.instanceMethod yX0_cameIn, Cond.selects RX0 yX0_cameIn yX0_cameIn, Cond.code yX0_cameIn cX0_cameIn 3 (some .int), Cond.methodLink RX0 47 Lib.Math.min.name, Cond.static Lib.Math.min.name, Cond.code Lib.Math.min.name Lib.Math.min.code 2 (some .int)]
def wsX6_bufferIsSound : List Cond := .code yX6_bufferIsSound cX6_bufferIsSound 2 (some .boolean) :: ((wsX6_bufferIsSound_r1 ++ wsX6_bufferIsSound_r2) ++ wsX60 ++ wsX00 ++ wsX40)
def wsX6_framesAreSound_r1 : List Cond := [Cond.fieldLink RX6 28 "Threetwo" "rhythm" "LThreetwo$Rhythm;", Cond.fieldLink RX6 21 "Threetwo" "strip" "LThreetwo$Strip;", Cond.fieldLink RX6 46 "Threetwo" "changeNow" "I", Cond.methodLink RX6 132 yX3_find, Cond.instanceMethod yX3_find, Cond.selects RX3 yX3_find yX3_find, Cond.initialized RX3, Cond.code yX3_find cX3_find 4 none, Cond.fieldLink RX3 37 "Threetwo$Rhythm" "known" "Z", Cond.fieldLink RX3 30 "Threetwo$Rhythm" "cost" "I", Cond.fieldLink RX3 34 "Threetwo$Rhythm" "frames" "I", Cond.fieldLink RX3 27 "Threetwo$Rhythm" "frameLooks" "[I", Cond.fieldLink RX3 21 "Threetwo$Rhythm" "firsts" "[I", Cond.fieldLink RX3 24 "Threetwo$Rhythm" "lengths" "[I", Cond.methodLink RX3 41 yX3_leastCost, Cond.instanceMethod yX3_leastCost, Cond.selects RX3 yX3_leastCost yX3_leastCost, Cond.code yX3_leastCost cX3_leastCost 8 (some .int), Cond.fieldLink RX3 11 "Threetwo$Rhythm" "behind" "[I", Cond.methodLink RX3 49 yX4_many, Cond.instanceMethod yX4_many, Cond.selects RX4 yX4_many yX4_many, Cond.initialized RX4, Cond.code yX4_many cX4_many 1 (some .int)]
def wsX6_framesAreSound_r2 : List Cond := [Cond.fieldLink RX4 21 "Threetwo$Row" "told" "I", Cond.methodLink RX3 63 yX4_at, Cond.instanceMethod yX4_at, Cond.selects RX4 yX4_at yX4_at, Cond.code yX4_at cX4_at 2 (some .int), Cond.fieldLink RX4 15 "Threetwo$Row" "items" "[I", Cond.methodLink RX3 67 yX3_bestNext, Cond.instanceMethod yX3_bestNext, Cond.selects RX3 yX3_bestNext yX3_bestNext, Cond.code yX3_bestNext cX3_bestNext 10 (some .int), Cond.methodLink RX3 71 yX3_step, Cond.static yX3_step, Cond.code yX3_step cX3_step 4 (some .int), Cond.methodLink RX3 74 yX3_bestFirst, Cond.instanceMethod yX3_bestFirst, Cond.selects RX3 yX3_bestFirst yX3_bestFirst, Cond.code yX3_bestFirst cX3_bestFirst 3 (some .int), Cond.methodLink RX3 45 yX3_tracePath, Cond.instanceMethod yX3_tracePath, Cond.selects RX3 yX3_tracePath yX3_tracePath, Cond.code yX3_tracePath cX3_tracePath 5 none, Cond.fieldLink RX3 15 "Threetwo$Rhythm" "places" "[I", Cond.methodLink RX3 55 yX3_gatherFrames, Cond.instanceMethod yX3_gatherFrames]
def wsX6_framesAreSound_r3 : List Cond := [Cond.selects RX3 yX3_gatherFrames yX3_gatherFrames, Cond.code yX3_gatherFrames cX3_gatherFrames 4 none, Cond.fieldLink RX3 18 "Threetwo$Rhythm" "frameOf" "[I", Cond.methodLink RX3 77 yX3_beginsFrame, Cond.instanceMethod yX3_beginsFrame, Cond.selects RX3 yX3_beginsFrame yX3_beginsFrame, Cond.code yX3_beginsFrame cX3_beginsFrame 3 (some .boolean), Cond.methodLink RX3 59 yX3_commonLook, Cond.static yX3_commonLook, Cond.code yX3_commonLook cX3_commonLook 8 (some .int), Cond.methodLink RX3 81 yX3_timesOf, Cond.static yX3_timesOf, Cond.code yX3_timesOf cX3_timesOf 6 (some .int), Cond.methodLink RX6 82 yX4_many]
def wsX6_framesAreSound : List Cond := .code yX6_framesAreSound cX6_framesAreSound 3 (some .boolean) :: ((wsX6_framesAreSound_r1 ++ (wsX6_framesAreSound_r2 ++ wsX6_framesAreSound_r3)) ++ wsX60 ++ wsX50 ++ wsX30 ++ wsX40)
def wsX6_labelsAreSound : List Cond := .code yX6_labelsAreSound cX6_labelsAreSound 0 (some .boolean) :: ([.constant RX6 294 (107891), .methodLink RX6 291 yX1_goesBack, .static yX1_goesBack, .initialized RX1, .code yX1_goesBack cX1_goesBack 1 (some .boolean), .methodLink RX1 15 yX1_labelOf, .static yX1_labelOf, .code yX1_labelOf cX1_labelOf 4 (some .int), .methodLink RX1 19 yX1_pictureOf, .static yX1_pictureOf, .code yX1_pictureOf cX1_pictureOf 5 (some .int), .methodLink RX1 11 yX1_isLeftOut, .static yX1_isLeftOut, .code yX1_isLeftOut cX1_isLeftOut 3 (some .boolean)])
def wsX6_isSound_r1 : List Cond := [Cond.methodLink RX6 227 yX6_printsAreSound, Cond.instanceMethod yX6_printsAreSound, Cond.selects RX6 yX6_printsAreSound yX6_printsAreSound, Cond.initialized RX6, Cond.code yX6_printsAreSound cX6_printsAreSound 3 (some .boolean), Cond.fieldLink RX6 35 "Threetwo" "prints" "LThreetwo$Prints;", Cond.methodLink RX6 287 yX6_pairIsSound, Cond.instanceMethod yX6_pairIsSound, Cond.selects RX6 yX6_pairIsSound yX6_pairIsSound, Cond.code yX6_pairIsSound cX6_pairIsSound 5 (some .boolean), Cond.methodLink RX6 169 yX2_distance, Cond.instanceMethod yX2_distance, Cond.selects RX2 yX2_distance yX2_distance, Cond.initialized RX2, Cond.code yX2_distance cX2_distance 7 (some .int), Cond.fieldLink RX2 11 "Threetwo$Prints" "rows" "[LThreetwo$Row;", Cond.fieldLink RX2 20 "Threetwo$Prints" "behind" "[I", Cond.methodLink RX2 32 yX4_many, Cond.instanceMethod yX4_many, Cond.selects RX4 yX4_many yX4_many, Cond.initialized RX4, Cond.code yX4_many cX4_many 1 (some .int), Cond.fieldLink RX4 21 "Threetwo$Row" "told" "I", Cond.methodLink RX2 35 yX2_leastFrom]
def wsX6_isSound_r2 : List Cond := [Cond.instanceMethod yX2_leastFrom, Cond.selects RX2 yX2_leastFrom yX2_leastFrom, Cond.code yX2_leastFrom cX2_leastFrom 7 (some .int), Cond.methodLink RX2 51 Lib.Math.min.name, Cond.static Lib.Math.min.name, Cond.initialized "java/lang/Math", Cond.code Lib.Math.min.name Lib.Math.min.code 2 (some .int), Cond.methodLink RX2 43 yX4_has, Cond.instanceMethod yX4_has, Cond.selects RX4 yX4_has yX4_has, Cond.code yX4_has cX4_has 2 (some .boolean), Cond.methodLink RX2 56 yX4_at, Cond.instanceMethod yX4_at, Cond.selects RX4 yX4_at yX4_at, Cond.code yX4_at cX4_at 2 (some .int), Cond.fieldLink RX4 15 "Threetwo$Row" "items" "[I", Cond.methodLink RX2 60 yX2_together, Cond.static yX2_together, Cond.code yX2_together cX2_together 2 (some .int), Cond.methodLink RX2 63 Lib.Math.abs.name, Cond.static Lib.Math.abs.name, Cond.code Lib.Math.abs.name Lib.Math.abs.code 1 (some .int), Cond.methodLink RX6 231 yX6_bufferIsSound, Cond.instanceMethod yX6_bufferIsSound]
def wsX6_isSound_r3 : List Cond := [Cond.selects RX6 yX6_bufferIsSound yX6_bufferIsSound, Cond.code yX6_bufferIsSound cX6_bufferIsSound 2 (some .boolean), Cond.fieldLink RX6 42 "Threetwo" "buffer" "LThreetwo$Buffer;", Cond.methodLink RX6 192 yX0_leastDelay, Cond.instanceMethod yX0_leastDelay, Cond.selects RX0 yX0_leastDelay yX0_leastDelay, Cond.initialized RX0, Cond.code yX0_leastDelay cX0_leastDelay 5 (some .int), Cond.fieldLink RX0 14 "Threetwo$Buffer" "sizes" "LThreetwo$Row;", Cond.fieldLink RX0 20 "Threetwo$Buffer" "rateNow" "I", Cond.methodLink RX0 39 Lib.Math.max.name, Cond.static Lib.Math.max.name, Cond.code Lib.Math.max.name Lib.Math.max.code 2 (some .int), Cond.methodLink RX0 28 yX4_many, Cond.methodLink RX0 31 yX4_at, Cond.methodLink RX6 217 yX0_firstDry, Cond.instanceMethod yX0_firstDry, Cond.selects RX0 yX0_firstDry yX0_firstDry, Cond.code yX0_firstDry cX0_firstDry 5 (some .int), Cond.methodLink RX0 24 yX0_sumOfSizes, Cond.instanceMethod yX0_sumOfSizes, Cond.selects RX0 yX0_sumOfSizes yX0_sumOfSizes, Cond.code yX0_sumOfSizes cX0_sumOfSizes 3 (some .int), Cond.methodLink RX0 35 yX0_cameIn]
def wsX6_isSound_r4 : List Cond := [Cond.instanceMethod yX0_cameIn, Cond.selects RX0 yX0_cameIn yX0_cameIn, Cond.code yX0_cameIn cX0_cameIn 3 (some .int), Cond.methodLink RX0 47 Lib.Math.min.name, Cond.methodLink RX6 234 yX6_framesAreSound, Cond.instanceMethod yX6_framesAreSound, Cond.selects RX6 yX6_framesAreSound yX6_framesAreSound, Cond.code yX6_framesAreSound cX6_framesAreSound 3 (some .boolean), Cond.fieldLink RX6 28 "Threetwo" "rhythm" "LThreetwo$Rhythm;", Cond.fieldLink RX6 21 "Threetwo" "strip" "LThreetwo$Strip;", Cond.fieldLink RX6 46 "Threetwo" "changeNow" "I", Cond.methodLink RX6 132 yX3_find, Cond.instanceMethod yX3_find, Cond.selects RX3 yX3_find yX3_find, Cond.initialized RX3, Cond.code yX3_find cX3_find 4 none, Cond.fieldLink RX3 37 "Threetwo$Rhythm" "known" "Z", Cond.fieldLink RX3 30 "Threetwo$Rhythm" "cost" "I", Cond.fieldLink RX3 34 "Threetwo$Rhythm" "frames" "I", Cond.fieldLink RX3 27 "Threetwo$Rhythm" "frameLooks" "[I", Cond.fieldLink RX3 21 "Threetwo$Rhythm" "firsts" "[I", Cond.fieldLink RX3 24 "Threetwo$Rhythm" "lengths" "[I", Cond.methodLink RX3 41 yX3_leastCost, Cond.instanceMethod yX3_leastCost]
def wsX6_isSound_r5 : List Cond := [Cond.selects RX3 yX3_leastCost yX3_leastCost, Cond.code yX3_leastCost cX3_leastCost 8 (some .int), Cond.fieldLink RX3 11 "Threetwo$Rhythm" "behind" "[I", Cond.methodLink RX3 49 yX4_many, Cond.methodLink RX3 63 yX4_at, Cond.methodLink RX3 67 yX3_bestNext, Cond.instanceMethod yX3_bestNext, Cond.selects RX3 yX3_bestNext yX3_bestNext, Cond.code yX3_bestNext cX3_bestNext 10 (some .int), Cond.methodLink RX3 71 yX3_step, Cond.static yX3_step, Cond.code yX3_step cX3_step 4 (some .int), Cond.methodLink RX3 74 yX3_bestFirst, Cond.instanceMethod yX3_bestFirst, Cond.selects RX3 yX3_bestFirst yX3_bestFirst, Cond.code yX3_bestFirst cX3_bestFirst 3 (some .int), Cond.methodLink RX3 45 yX3_tracePath, Cond.instanceMethod yX3_tracePath, Cond.selects RX3 yX3_tracePath yX3_tracePath, Cond.code yX3_tracePath cX3_tracePath 5 none, Cond.fieldLink RX3 15 "Threetwo$Rhythm" "places" "[I", Cond.methodLink RX3 55 yX3_gatherFrames, Cond.instanceMethod yX3_gatherFrames, Cond.selects RX3 yX3_gatherFrames yX3_gatherFrames]
def wsX6_isSound_r6 : List Cond := [Cond.code yX3_gatherFrames cX3_gatherFrames 4 none, Cond.fieldLink RX3 18 "Threetwo$Rhythm" "frameOf" "[I", Cond.methodLink RX3 77 yX3_beginsFrame, Cond.instanceMethod yX3_beginsFrame, Cond.selects RX3 yX3_beginsFrame yX3_beginsFrame, Cond.code yX3_beginsFrame cX3_beginsFrame 3 (some .boolean), Cond.methodLink RX3 59 yX3_commonLook, Cond.static yX3_commonLook, Cond.code yX3_commonLook cX3_commonLook 8 (some .int), Cond.methodLink RX3 81 yX3_timesOf, Cond.static yX3_timesOf, Cond.code yX3_timesOf cX3_timesOf 6 (some .int), Cond.methodLink RX6 82 yX4_many, Cond.methodLink RX6 237 yX6_labelsAreSound, Cond.static yX6_labelsAreSound, Cond.code yX6_labelsAreSound cX6_labelsAreSound 0 (some .boolean), Cond.constant RX6 294 (107891), Cond.methodLink RX6 291 yX1_goesBack, Cond.static yX1_goesBack, Cond.initialized RX1, Cond.code yX1_goesBack cX1_goesBack 1 (some .boolean), Cond.methodLink RX1 15 yX1_labelOf, Cond.static yX1_labelOf, Cond.code yX1_labelOf cX1_labelOf 4 (some .int)]
def wsX6_isSound_r7 : List Cond := [Cond.methodLink RX1 19 yX1_pictureOf, Cond.static yX1_pictureOf, Cond.code yX1_pictureOf cX1_pictureOf 5 (some .int), Cond.methodLink RX1 11 yX1_isLeftOut, Cond.static yX1_isLeftOut, Cond.code yX1_isLeftOut cX1_isLeftOut 3 (some .boolean)]
def wsX6_isSound : List Cond := .code yX6_isSound cX6_isSound 1 (some .boolean) :: ((wsX6_isSound_r1 ++ (wsX6_isSound_r2 ++ (wsX6_isSound_r3 ++ (wsX6_isSound_r4 ++ (wsX6_isSound_r5 ++ (wsX6_isSound_r6 ++ wsX6_isSound_r7)))))) ++ wsX60 ++ wsX20 ++ wsX40 ++ wsX00 ++ wsX50 ++ wsX30)
def wsX6_withFields_r1 : List Cond := [Cond.fieldLink RX6 21 "Threetwo" "strip" "LThreetwo$Strip;", Cond.constantLong RX6 242 (31), Cond.methodLink RX6 82 yX4_many, Cond.instanceMethod yX4_many, Cond.selects RX4 yX4_many yX4_many, Cond.initialized RX4, Cond.code yX4_many cX4_many 1 (some .int), Cond.fieldLink RX4 21 "Threetwo$Row" "told" "I", Cond.methodLink RX6 295 yX6_ofField, Cond.instanceMethod yX6_ofField, Cond.selects RX6 yX6_ofField yX6_ofField, Cond.initialized RX6, Cond.code yX6_ofField cX6_ofField 3 (some .int), Cond.classLink RX6 67 "java/lang/IllegalArgumentException", Cond.initialized "java/lang/IllegalArgumentException", Cond.fieldLink RX6 28 "Threetwo" "rhythm" "LThreetwo$Rhythm;", Cond.fieldLink RX6 46 "Threetwo" "changeNow" "I", Cond.methodLink RX6 86 yX6_requireField, Cond.instanceMethod yX6_requireField, Cond.selects RX6 yX6_requireField yX6_requireField, Cond.code yX6_requireField cX6_requireField 2 none, Cond.classLink RX6 151 "java/lang/IndexOutOfBoundsException", Cond.initialized "java/lang/IndexOutOfBoundsException", Cond.methodLink RX6 268 yX4_has]
def wsX6_withFields_r2 : List Cond := [Cond.instanceMethod yX4_has, Cond.selects RX4 yX4_has yX4_has, Cond.code yX4_has cX4_has 2 (some .boolean), Cond.methodLink RX6 132 yX3_find, Cond.instanceMethod yX3_find, Cond.selects RX3 yX3_find yX3_find, Cond.initialized RX3, Cond.code yX3_find cX3_find 4 none, Cond.fieldLink RX3 37 "Threetwo$Rhythm" "known" "Z", Cond.fieldLink RX3 30 "Threetwo$Rhythm" "cost" "I", Cond.fieldLink RX3 34 "Threetwo$Rhythm" "frames" "I", Cond.fieldLink RX3 27 "Threetwo$Rhythm" "frameLooks" "[I", Cond.fieldLink RX3 21 "Threetwo$Rhythm" "firsts" "[I", Cond.fieldLink RX3 24 "Threetwo$Rhythm" "lengths" "[I", Cond.methodLink RX3 41 yX3_leastCost, Cond.instanceMethod yX3_leastCost, Cond.selects RX3 yX3_leastCost yX3_leastCost, Cond.code yX3_leastCost cX3_leastCost 8 (some .int), Cond.fieldLink RX3 11 "Threetwo$Rhythm" "behind" "[I", Cond.methodLink RX3 49 yX4_many, Cond.methodLink RX3 63 yX4_at, Cond.instanceMethod yX4_at, Cond.selects RX4 yX4_at yX4_at, Cond.code yX4_at cX4_at 2 (some .int)]
def wsX6_withFields_r3 : List Cond := [Cond.fieldLink RX4 15 "Threetwo$Row" "items" "[I", Cond.methodLink RX3 67 yX3_bestNext, Cond.instanceMethod yX3_bestNext, Cond.selects RX3 yX3_bestNext yX3_bestNext, Cond.code yX3_bestNext cX3_bestNext 10 (some .int), Cond.methodLink RX3 71 yX3_step, Cond.static yX3_step, Cond.code yX3_step cX3_step 4 (some .int), Cond.methodLink RX3 74 yX3_bestFirst, Cond.instanceMethod yX3_bestFirst, Cond.selects RX3 yX3_bestFirst yX3_bestFirst, Cond.code yX3_bestFirst cX3_bestFirst 3 (some .int), Cond.methodLink RX3 45 yX3_tracePath, Cond.instanceMethod yX3_tracePath, Cond.selects RX3 yX3_tracePath yX3_tracePath, Cond.code yX3_tracePath cX3_tracePath 5 none, Cond.fieldLink RX3 15 "Threetwo$Rhythm" "places" "[I", Cond.methodLink RX3 55 yX3_gatherFrames, Cond.instanceMethod yX3_gatherFrames, Cond.selects RX3 yX3_gatherFrames yX3_gatherFrames, Cond.code yX3_gatherFrames cX3_gatherFrames 4 none, Cond.fieldLink RX3 18 "Threetwo$Rhythm" "frameOf" "[I", Cond.methodLink RX3 77 yX3_beginsFrame, Cond.instanceMethod yX3_beginsFrame]
def wsX6_withFields_r4 : List Cond := [Cond.selects RX3 yX3_beginsFrame yX3_beginsFrame, Cond.code yX3_beginsFrame cX3_beginsFrame 3 (some .boolean), Cond.methodLink RX3 59 yX3_commonLook, Cond.static yX3_commonLook, Cond.code yX3_commonLook cX3_commonLook 8 (some .int), Cond.methodLink RX3 81 yX3_timesOf, Cond.static yX3_timesOf, Cond.code yX3_timesOf cX3_timesOf 6 (some .int), Cond.methodLink RX6 95 yX4_at, Cond.methodLink RX6 142 yX5_isNoted, Cond.instanceMethod yX5_isNoted, Cond.selects RX5 yX5_isNoted yX5_isNoted, Cond.initialized RX5, Cond.code yX5_isNoted cX5_isNoted 3 (some .boolean), Cond.fieldLink RX5 34 "Threetwo$Strip" "notes" "I", Cond.fieldLink RX5 23 "Threetwo$Strip" "noteFields" "[I"]
def wsX6_withFields : List Cond := .code yX6_withFields cX6_withFields 7 (some .long) :: ((wsX6_withFields_r1 ++ (wsX6_withFields_r2 ++ (wsX6_withFields_r3 ++ wsX6_withFields_r4))) ++ wsX60 ++ wsX50 ++ wsX40 ++ wsX30 ++ (vx_atS RX6 71 "java/lang/IllegalArgumentException" ["java/lang/RuntimeException", "java/lang/Exception"]).filter goodWord ++ (vx_atS RX6 155 "java/lang/IndexOutOfBoundsException" ["java/lang/RuntimeException", "java/lang/Exception"]).filter goodWord)
def wsX6_withFoundFrames_r1 : List Cond := [Cond.fieldLink RX6 28 "Threetwo" "rhythm" "LThreetwo$Rhythm;", Cond.constantLong RX6 242 (31), Cond.methodLink RX6 298 yX6_found, Cond.instanceMethod yX6_found, Cond.selects RX6 yX6_found yX6_found, Cond.initialized RX6, Cond.code yX6_found cX6_found 3 (some .int), Cond.classLink RX6 151 "java/lang/IndexOutOfBoundsException", Cond.initialized "java/lang/IndexOutOfBoundsException", Cond.classLink RX6 67 "java/lang/IllegalArgumentException", Cond.initialized "java/lang/IllegalArgumentException", Cond.fieldLink RX6 21 "Threetwo" "strip" "LThreetwo$Strip;", Cond.fieldLink RX6 46 "Threetwo" "changeNow" "I", Cond.methodLink RX6 132 yX3_find, Cond.instanceMethod yX3_find, Cond.selects RX3 yX3_find yX3_find, Cond.initialized RX3, Cond.code yX3_find cX3_find 4 none, Cond.fieldLink RX3 37 "Threetwo$Rhythm" "known" "Z", Cond.fieldLink RX3 30 "Threetwo$Rhythm" "cost" "I", Cond.fieldLink RX3 34 "Threetwo$Rhythm" "frames" "I", Cond.fieldLink RX3 27 "Threetwo$Rhythm" "frameLooks" "[I", Cond.fieldLink RX3 21 "Threetwo$Rhythm" "firsts" "[I", Cond.fieldLink RX3 24 "Threetwo$Rhythm" "lengths" "[I"]
def wsX6_withFoundFrames_r2 : List Cond := [Cond.methodLink RX3 41 yX3_leastCost, Cond.instanceMethod yX3_leastCost, Cond.selects RX3 yX3_leastCost yX3_leastCost, Cond.code yX3_leastCost cX3_leastCost 8 (some .int), Cond.fieldLink RX3 11 "Threetwo$Rhythm" "behind" "[I", Cond.methodLink RX3 49 yX4_many, Cond.instanceMethod yX4_many, Cond.selects RX4 yX4_many yX4_many, Cond.initialized RX4, Cond.code yX4_many cX4_many 1 (some .int), Cond.fieldLink RX4 21 "Threetwo$Row" "told" "I", Cond.methodLink RX3 63 yX4_at, Cond.instanceMethod yX4_at, Cond.selects RX4 yX4_at yX4_at, Cond.code yX4_at cX4_at 2 (some .int), Cond.fieldLink RX4 15 "Threetwo$Row" "items" "[I", Cond.methodLink RX3 67 yX3_bestNext, Cond.instanceMethod yX3_bestNext, Cond.selects RX3 yX3_bestNext yX3_bestNext, Cond.code yX3_bestNext cX3_bestNext 10 (some .int), Cond.methodLink RX3 71 yX3_step, Cond.static yX3_step, Cond.code yX3_step cX3_step 4 (some .int), Cond.methodLink RX3 74 yX3_bestFirst]
def wsX6_withFoundFrames_r3 : List Cond := [Cond.instanceMethod yX3_bestFirst, Cond.selects RX3 yX3_bestFirst yX3_bestFirst, Cond.code yX3_bestFirst cX3_bestFirst 3 (some .int), Cond.methodLink RX3 45 yX3_tracePath, Cond.instanceMethod yX3_tracePath, Cond.selects RX3 yX3_tracePath yX3_tracePath, Cond.code yX3_tracePath cX3_tracePath 5 none, Cond.fieldLink RX3 15 "Threetwo$Rhythm" "places" "[I", Cond.methodLink RX3 55 yX3_gatherFrames, Cond.instanceMethod yX3_gatherFrames, Cond.selects RX3 yX3_gatherFrames yX3_gatherFrames, Cond.code yX3_gatherFrames cX3_gatherFrames 4 none, Cond.fieldLink RX3 18 "Threetwo$Rhythm" "frameOf" "[I", Cond.methodLink RX3 77 yX3_beginsFrame, Cond.instanceMethod yX3_beginsFrame, Cond.selects RX3 yX3_beginsFrame yX3_beginsFrame, Cond.code yX3_beginsFrame cX3_beginsFrame 3 (some .boolean), Cond.methodLink RX3 59 yX3_commonLook, Cond.static yX3_commonLook, Cond.code yX3_commonLook cX3_commonLook 8 (some .int), Cond.methodLink RX3 81 yX3_timesOf, Cond.static yX3_timesOf, Cond.code yX3_timesOf cX3_timesOf 6 (some .int)]
def wsX6_withFoundFrames : List Cond := .code yX6_withFoundFrames cX6_withFoundFrames 7 (some .long) :: ((wsX6_withFoundFrames_r1 ++ (wsX6_withFoundFrames_r2 ++ wsX6_withFoundFrames_r3)) ++ wsX60 ++ wsX30 ++ wsX50 ++ wsX40 ++ (vx_atS RX6 155 "java/lang/IndexOutOfBoundsException" ["java/lang/RuntimeException", "java/lang/Exception"]).filter goodWord ++ (vx_atS RX6 71 "java/lang/IllegalArgumentException" ["java/lang/RuntimeException", "java/lang/Exception"]).filter goodWord)
def wsX6_withPrints_r1 : List Cond := [Cond.fieldLink RX6 35 "Threetwo" "prints" "LThreetwo$Prints;", Cond.constantLong RX6 242 (31), Cond.methodLink RX6 169 yX2_distance, Cond.instanceMethod yX2_distance, Cond.selects RX2 yX2_distance yX2_distance, Cond.initialized RX2, Cond.code yX2_distance cX2_distance 7 (some .int), Cond.fieldLink RX2 11 "Threetwo$Prints" "rows" "[LThreetwo$Row;", Cond.fieldLink RX2 20 "Threetwo$Prints" "behind" "[I", Cond.methodLink RX2 32 yX4_many, Cond.instanceMethod yX4_many, Cond.selects RX4 yX4_many yX4_many, Cond.initialized RX4, Cond.code yX4_many cX4_many 1 (some .int), Cond.fieldLink RX4 21 "Threetwo$Row" "told" "I", Cond.methodLink RX2 35 yX2_leastFrom, Cond.instanceMethod yX2_leastFrom, Cond.selects RX2 yX2_leastFrom yX2_leastFrom, Cond.code yX2_leastFrom cX2_leastFrom 7 (some .int), Cond.methodLink RX2 51 Lib.Math.min.name, Cond.static Lib.Math.min.name, Cond.initialized "java/lang/Math", Cond.code Lib.Math.min.name Lib.Math.min.code 2 (some .int), Cond.methodLink RX2 43 yX4_has]
def wsX6_withPrints_r2 : List Cond := [Cond.instanceMethod yX4_has, Cond.selects RX4 yX4_has yX4_has, Cond.code yX4_has cX4_has 2 (some .boolean), Cond.methodLink RX2 56 yX4_at, Cond.instanceMethod yX4_at, Cond.selects RX4 yX4_at yX4_at, Cond.code yX4_at cX4_at 2 (some .int), Cond.fieldLink RX4 15 "Threetwo$Row" "items" "[I", Cond.methodLink RX2 60 yX2_together, Cond.static yX2_together, Cond.code yX2_together cX2_together 2 (some .int), Cond.methodLink RX2 63 Lib.Math.abs.name, Cond.static Lib.Math.abs.name, Cond.code Lib.Math.abs.name Lib.Math.abs.code 1 (some .int), Cond.methodLink RX6 177 yX2_layOut, Cond.instanceMethod yX2_layOut, Cond.selects RX2 yX2_layOut yX2_layOut, Cond.code yX2_layOut cX2_layOut 9 (some .int), Cond.fieldLink RX2 24 "Threetwo$Prints" "signs" "[C", Cond.methodLink RX2 39 yX2_distance, Cond.methodLink RX2 47 yX2_signAt, Cond.instanceMethod yX2_signAt, Cond.selects RX2 yX2_signAt yX2_signAt, Cond.code yX2_signAt cX2_signAt 6 (some .char)]
def wsX6_withPrints : List Cond := .code yX6_withPrints cX6_withPrints 7 (some .long) :: ((wsX6_withPrints_r1 ++ wsX6_withPrints_r2) ++ wsX60 ++ wsX20 ++ wsX40)
def wsX6_digest_r1 : List Cond := [Cond.constantLong RX6 240 (8311), Cond.constantLong RX6 242 (31), Cond.fieldLink RX6 21 "Threetwo" "strip" "LThreetwo$Strip;", Cond.methodLink RX6 244 yX6_house, Cond.instanceMethod yX6_house, Cond.selects RX6 yX6_house yX6_house, Cond.initialized RX6, Cond.code yX6_house cX6_house 2 (some .int), Cond.classLink RX6 67 "java/lang/IllegalArgumentException", Cond.initialized "java/lang/IllegalArgumentException", Cond.fieldLink RX6 14 "Threetwo" "reel" "LThreetwo$Row;", Cond.fieldLink RX6 46 "Threetwo" "changeNow" "I", Cond.fieldLink RX6 28 "Threetwo" "rhythm" "LThreetwo$Rhythm;", Cond.fieldLink RX6 35 "Threetwo" "prints" "LThreetwo$Prints;", Cond.fieldLink RX6 42 "Threetwo" "buffer" "LThreetwo$Buffer;", Cond.fieldLink RX6 50 "Threetwo" "refused" "I", Cond.methodLink RX6 82 yX4_many, Cond.instanceMethod yX4_many, Cond.selects RX4 yX4_many yX4_many, Cond.initialized RX4, Cond.code yX4_many cX4_many 1 (some .int), Cond.fieldLink RX4 21 "Threetwo$Row" "told" "I", Cond.methodLink RX6 132 yX3_find, Cond.instanceMethod yX3_find]
def wsX6_digest_r2 : List Cond := [Cond.selects RX3 yX3_find yX3_find, Cond.initialized RX3, Cond.code yX3_find cX3_find 4 none, Cond.fieldLink RX3 37 "Threetwo$Rhythm" "known" "Z", Cond.fieldLink RX3 30 "Threetwo$Rhythm" "cost" "I", Cond.fieldLink RX3 34 "Threetwo$Rhythm" "frames" "I", Cond.fieldLink RX3 27 "Threetwo$Rhythm" "frameLooks" "[I", Cond.fieldLink RX3 21 "Threetwo$Rhythm" "firsts" "[I", Cond.fieldLink RX3 24 "Threetwo$Rhythm" "lengths" "[I", Cond.methodLink RX3 41 yX3_leastCost, Cond.instanceMethod yX3_leastCost, Cond.selects RX3 yX3_leastCost yX3_leastCost, Cond.code yX3_leastCost cX3_leastCost 8 (some .int), Cond.fieldLink RX3 11 "Threetwo$Rhythm" "behind" "[I", Cond.methodLink RX3 49 yX4_many, Cond.methodLink RX3 63 yX4_at, Cond.instanceMethod yX4_at, Cond.selects RX4 yX4_at yX4_at, Cond.code yX4_at cX4_at 2 (some .int), Cond.fieldLink RX4 15 "Threetwo$Row" "items" "[I", Cond.methodLink RX3 67 yX3_bestNext, Cond.instanceMethod yX3_bestNext, Cond.selects RX3 yX3_bestNext yX3_bestNext, Cond.code yX3_bestNext cX3_bestNext 10 (some .int)]
def wsX6_digest_r3 : List Cond := [Cond.methodLink RX3 71 yX3_step, Cond.static yX3_step, Cond.code yX3_step cX3_step 4 (some .int), Cond.methodLink RX3 74 yX3_bestFirst, Cond.instanceMethod yX3_bestFirst, Cond.selects RX3 yX3_bestFirst yX3_bestFirst, Cond.code yX3_bestFirst cX3_bestFirst 3 (some .int), Cond.methodLink RX3 45 yX3_tracePath, Cond.instanceMethod yX3_tracePath, Cond.selects RX3 yX3_tracePath yX3_tracePath, Cond.code yX3_tracePath cX3_tracePath 5 none, Cond.fieldLink RX3 15 "Threetwo$Rhythm" "places" "[I", Cond.methodLink RX3 55 yX3_gatherFrames, Cond.instanceMethod yX3_gatherFrames, Cond.selects RX3 yX3_gatherFrames yX3_gatherFrames, Cond.code yX3_gatherFrames cX3_gatherFrames 4 none, Cond.fieldLink RX3 18 "Threetwo$Rhythm" "frameOf" "[I", Cond.methodLink RX3 77 yX3_beginsFrame, Cond.instanceMethod yX3_beginsFrame, Cond.selects RX3 yX3_beginsFrame yX3_beginsFrame, Cond.code yX3_beginsFrame cX3_beginsFrame 3 (some .boolean), Cond.methodLink RX3 59 yX3_commonLook, Cond.static yX3_commonLook, Cond.code yX3_commonLook cX3_commonLook 8 (some .int)]
def wsX6_digest_r4 : List Cond := [Cond.methodLink RX3 81 yX3_timesOf, Cond.static yX3_timesOf, Cond.code yX3_timesOf cX3_timesOf 6 (some .int), Cond.methodLink RX6 192 yX0_leastDelay, Cond.instanceMethod yX0_leastDelay, Cond.selects RX0 yX0_leastDelay yX0_leastDelay, Cond.initialized RX0, Cond.code yX0_leastDelay cX0_leastDelay 5 (some .int), Cond.fieldLink RX0 14 "Threetwo$Buffer" "sizes" "LThreetwo$Row;", Cond.fieldLink RX0 20 "Threetwo$Buffer" "rateNow" "I", Cond.methodLink RX0 39 Lib.Math.max.name, Cond.static Lib.Math.max.name, Cond.initialized "java/lang/Math", Cond.code Lib.Math.max.name Lib.Math.max.code 2 (some .int), Cond.methodLink RX0 28 yX4_many, Cond.methodLink RX0 31 yX4_at, Cond.methodLink RX6 195 yX0_peak, Cond.instanceMethod yX0_peak, Cond.selects RX0 yX0_peak yX0_peak, Cond.code yX0_peak cX0_peak 6 (some .int), Cond.methodLink RX0 44 yX0_leastDelay, Cond.methodLink RX0 24 yX0_sumOfSizes, Cond.instanceMethod yX0_sumOfSizes, Cond.selects RX0 yX0_sumOfSizes yX0_sumOfSizes]
def wsX6_digest_r5 : List Cond := [Cond.code yX0_sumOfSizes cX0_sumOfSizes 3 (some .int), Cond.methodLink RX0 35 yX0_cameIn, Cond.instanceMethod yX0_cameIn, Cond.selects RX0 yX0_cameIn yX0_cameIn, Cond.code yX0_cameIn cX0_cameIn 3 (some .int), Cond.methodLink RX0 47 Lib.Math.min.name, Cond.static Lib.Math.min.name, Cond.code Lib.Math.min.name Lib.Math.min.code 2 (some .int), Cond.methodLink RX6 247 yX6_withFields, Cond.instanceMethod yX6_withFields, Cond.selects RX6 yX6_withFields yX6_withFields, Cond.code yX6_withFields cX6_withFields 7 (some .long), Cond.methodLink RX6 295 yX6_ofField, Cond.instanceMethod yX6_ofField, Cond.selects RX6 yX6_ofField yX6_ofField, Cond.code yX6_ofField cX6_ofField 3 (some .int), Cond.methodLink RX6 86 yX6_requireField, Cond.instanceMethod yX6_requireField, Cond.selects RX6 yX6_requireField yX6_requireField, Cond.code yX6_requireField cX6_requireField 2 none, Cond.classLink RX6 151 "java/lang/IndexOutOfBoundsException", Cond.initialized "java/lang/IndexOutOfBoundsException", Cond.methodLink RX6 268 yX4_has, Cond.instanceMethod yX4_has]
def wsX6_digest_r6 : List Cond := [Cond.selects RX4 yX4_has yX4_has, Cond.code yX4_has cX4_has 2 (some .boolean), Cond.methodLink RX6 95 yX4_at, Cond.methodLink RX6 142 yX5_isNoted, Cond.instanceMethod yX5_isNoted, Cond.selects RX5 yX5_isNoted yX5_isNoted, Cond.initialized RX5, Cond.code yX5_isNoted cX5_isNoted 3 (some .boolean), Cond.fieldLink RX5 34 "Threetwo$Strip" "notes" "I", Cond.fieldLink RX5 23 "Threetwo$Strip" "noteFields" "[I", Cond.methodLink RX6 251 yX6_withFoundFrames, Cond.instanceMethod yX6_withFoundFrames, Cond.selects RX6 yX6_withFoundFrames yX6_withFoundFrames, Cond.code yX6_withFoundFrames cX6_withFoundFrames 7 (some .long), Cond.methodLink RX6 298 yX6_found, Cond.instanceMethod yX6_found, Cond.selects RX6 yX6_found yX6_found, Cond.code yX6_found cX6_found 3 (some .int), Cond.methodLink RX6 254 yX6_withPrints, Cond.instanceMethod yX6_withPrints, Cond.selects RX6 yX6_withPrints yX6_withPrints, Cond.code yX6_withPrints cX6_withPrints 7 (some .long), Cond.methodLink RX6 169 yX2_distance, Cond.instanceMethod yX2_distance]
def wsX6_digest_r7 : List Cond := [Cond.selects RX2 yX2_distance yX2_distance, Cond.initialized RX2, Cond.code yX2_distance cX2_distance 7 (some .int), Cond.fieldLink RX2 11 "Threetwo$Prints" "rows" "[LThreetwo$Row;", Cond.fieldLink RX2 20 "Threetwo$Prints" "behind" "[I", Cond.methodLink RX2 32 yX4_many, Cond.methodLink RX2 35 yX2_leastFrom, Cond.instanceMethod yX2_leastFrom, Cond.selects RX2 yX2_leastFrom yX2_leastFrom, Cond.code yX2_leastFrom cX2_leastFrom 7 (some .int), Cond.methodLink RX2 51 Lib.Math.min.name, Cond.methodLink RX2 43 yX4_has, Cond.methodLink RX2 56 yX4_at, Cond.methodLink RX2 60 yX2_together, Cond.static yX2_together, Cond.code yX2_together cX2_together 2 (some .int), Cond.methodLink RX2 63 Lib.Math.abs.name, Cond.static Lib.Math.abs.name, Cond.code Lib.Math.abs.name Lib.Math.abs.code 1 (some .int), Cond.methodLink RX6 177 yX2_layOut, Cond.instanceMethod yX2_layOut, Cond.selects RX2 yX2_layOut yX2_layOut, Cond.code yX2_layOut cX2_layOut 9 (some .int), Cond.fieldLink RX2 24 "Threetwo$Prints" "signs" "[C"]
def wsX6_digest_r8 : List Cond := [Cond.methodLink RX2 39 yX2_distance, Cond.methodLink RX2 47 yX2_signAt, Cond.instanceMethod yX2_signAt, Cond.selects RX2 yX2_signAt yX2_signAt, Cond.code yX2_signAt cX2_signAt 6 (some .char), Cond.methodLink RX6 257 yX6_label, Cond.instanceMethod yX6_label, Cond.selects RX6 yX6_label yX6_label, Cond.code yX6_label cX6_label 2 (some .int), Cond.constant RX6 204 (107892), Cond.methodLink RX6 207 yX1_labelOf, Cond.static yX1_labelOf, Cond.initialized RX1, Cond.code yX1_labelOf cX1_labelOf 4 (some .int), Cond.methodLink RX6 260 yX6_dry, Cond.instanceMethod yX6_dry, Cond.selects RX6 yX6_dry yX6_dry, Cond.code yX6_dry cX6_dry 2 (some .int), Cond.methodLink RX6 217 yX0_firstDry, Cond.instanceMethod yX0_firstDry, Cond.selects RX0 yX0_firstDry yX0_firstDry, Cond.code yX0_firstDry cX0_firstDry 5 (some .int), Cond.methodLink RX6 201 yX5_nameLooks, Cond.instanceMethod yX5_nameLooks]
def wsX6_digest_r9 : List Cond := [Cond.selects RX5 yX5_nameLooks yX5_nameLooks, Cond.code yX5_nameLooks cX5_nameLooks 4 (some .int), Cond.fieldLink RX5 14 "Threetwo$Strip" "looks" "LThreetwo$Row;", Cond.fieldLink RX5 30 "Threetwo$Strip" "signs" "[C", Cond.methodLink RX5 41 yX4_many, Cond.methodLink RX5 59 yX5_firstLike, Cond.instanceMethod yX5_firstLike, Cond.selects RX5 yX5_firstLike yX5_firstLike, Cond.code yX5_firstLike cX5_firstLike 3 (some .int), Cond.methodLink RX5 45 yX4_at, Cond.methodLink RX6 263 yX6_isSound, Cond.instanceMethod yX6_isSound, Cond.selects RX6 yX6_isSound yX6_isSound, Cond.code yX6_isSound cX6_isSound 1 (some .boolean), Cond.methodLink RX6 227 yX6_printsAreSound, Cond.instanceMethod yX6_printsAreSound, Cond.selects RX6 yX6_printsAreSound yX6_printsAreSound, Cond.code yX6_printsAreSound cX6_printsAreSound 3 (some .boolean), Cond.methodLink RX6 287 yX6_pairIsSound, Cond.instanceMethod yX6_pairIsSound, Cond.selects RX6 yX6_pairIsSound yX6_pairIsSound, Cond.code yX6_pairIsSound cX6_pairIsSound 5 (some .boolean), Cond.methodLink RX6 231 yX6_bufferIsSound, Cond.instanceMethod yX6_bufferIsSound]
def wsX6_digest_r10 : List Cond := [Cond.selects RX6 yX6_bufferIsSound yX6_bufferIsSound, Cond.code yX6_bufferIsSound cX6_bufferIsSound 2 (some .boolean), Cond.methodLink RX6 234 yX6_framesAreSound, Cond.instanceMethod yX6_framesAreSound, Cond.selects RX6 yX6_framesAreSound yX6_framesAreSound, Cond.code yX6_framesAreSound cX6_framesAreSound 3 (some .boolean), Cond.methodLink RX6 237 yX6_labelsAreSound, Cond.static yX6_labelsAreSound, Cond.code yX6_labelsAreSound cX6_labelsAreSound 0 (some .boolean), Cond.constant RX6 294 (107891), Cond.methodLink RX6 291 yX1_goesBack, Cond.static yX1_goesBack, Cond.code yX1_goesBack cX1_goesBack 1 (some .boolean), Cond.methodLink RX1 15 yX1_labelOf, Cond.methodLink RX1 19 yX1_pictureOf, Cond.static yX1_pictureOf, Cond.code yX1_pictureOf cX1_pictureOf 5 (some .int), Cond.methodLink RX1 11 yX1_isLeftOut, Cond.static yX1_isLeftOut, Cond.code yX1_isLeftOut cX1_isLeftOut 3 (some .boolean)]
def wsX6_digest : List Cond := .code yX6_digest cX6_digest 4 (some .long) :: ((wsX6_digest_r1 ++ (wsX6_digest_r2 ++ (wsX6_digest_r3 ++ (wsX6_digest_r4 ++ (wsX6_digest_r5 ++ (wsX6_digest_r6 ++ (wsX6_digest_r7 ++ (wsX6_digest_r8 ++ (wsX6_digest_r9 ++ wsX6_digest_r10))))))))) ++ wsX60 ++ wsX50 ++ wsX30 ++ wsX20 ++ wsX00 ++ wsX40 ++ (vx_atS RX6 71 "java/lang/IllegalArgumentException" ["java/lang/RuntimeException", "java/lang/Exception"]).filter goodWord ++ (vx_atS RX6 155 "java/lang/IndexOutOfBoundsException" ["java/lang/RuntimeException", "java/lang/Exception"]).filter goodWord)
def wsJ9_abs_0f7a4 : List Cond := .code yJ9_abs_0f7a4 cJ9_abs_0f7a4 1 (some .int) :: ([])
def wsJ9_max_7cf53 : List Cond := .code yJ9_max_7cf53 cJ9_max_7cf53 2 (some .int) :: ([])
def wsJ9_min_7cf53 : List Cond := .code yJ9_min_7cf53 cJ9_min_7cf53 2 (some .int) :: ([])
def wsL_below : List Cond := .code yL_below cL_below 2 (some .int) :: ([.constant RL 7 (2147483647)])
def wsL_cell : List Cond := .code yL_cell cL_cell 2 (some .int) :: ([.constant RL 8 (790386105)])
def wsL_act_r1 : List Cond := [Cond.classLink RL 82 "java/lang/IndexOutOfBoundsException", Cond.classLink RL 84 "java/lang/IllegalArgumentException", Cond.classLink RL 86 "java/lang/IllegalStateException", Cond.methodLink RL 18 yL_below, Cond.static yL_below, Cond.initialized RL, Cond.code yL_below cL_below 2 (some .int), Cond.constant RL 7 (2147483647), Cond.methodLink RL 51 yX6_frame, Cond.instanceMethod yX6_frame, Cond.selects RX6 yX6_frame yX6_frame, Cond.initialized RX6, Cond.code yX6_frame cX6_frame 3 (some .int), Cond.classLink RX6 60 "java/lang/IllegalStateException", Cond.initialized "java/lang/IllegalStateException", Cond.fieldLink RX6 14 "Threetwo" "reel" "LThreetwo$Row;", Cond.methodLink RX6 53 yX6_requireLook, Cond.static yX6_requireLook, Cond.code yX6_requireLook cX6_requireLook 1 none, Cond.classLink RX6 67 "java/lang/IllegalArgumentException", Cond.initialized "java/lang/IllegalArgumentException", Cond.methodLink RX6 56 yX4_add, Cond.instanceMethod yX4_add, Cond.selects RX4 yX4_add yX4_add]
def wsL_act_r2 : List Cond := [Cond.initialized RX4, Cond.code yX4_add cX4_add 2 (some .int), Cond.fieldLink RX4 21 "Threetwo$Row" "told" "I", Cond.fieldLink RX4 15 "Threetwo$Row" "items" "[I", Cond.methodLink RL 54 yX6_pull, Cond.instanceMethod yX6_pull, Cond.selects RX6 yX6_pull yX6_pull, Cond.code yX6_pull cX6_pull 2 (some .int), Cond.fieldLink RX6 21 "Threetwo" "strip" "LThreetwo$Strip;", Cond.fieldLink RX6 28 "Threetwo" "rhythm" "LThreetwo$Rhythm;", Cond.methodLink RX6 72 yX5_pullDown, Cond.instanceMethod yX5_pullDown, Cond.selects RX5 yX5_pullDown yX5_pullDown, Cond.initialized RX5, Cond.code yX5_pullDown cX5_pullDown 6 none, Cond.fieldLink RX5 14 "Threetwo$Strip" "looks" "LThreetwo$Row;", Cond.fieldLink RX5 34 "Threetwo$Strip" "notes" "I", Cond.methodLink RX5 38 yX4_clear, Cond.instanceMethod yX4_clear, Cond.selects RX4 yX4_clear yX4_clear, Cond.code yX4_clear cX4_clear 1 none, Cond.methodLink RX5 41 yX4_many, Cond.instanceMethod yX4_many, Cond.selects RX4 yX4_many yX4_many]
def wsL_act_r3 : List Cond := [Cond.code yX4_many cX4_many 1 (some .int), Cond.methodLink RX5 45 yX4_at, Cond.instanceMethod yX4_at, Cond.selects RX4 yX4_at yX4_at, Cond.code yX4_at cX4_at 2 (some .int), Cond.methodLink RX5 49 yX4_add, Cond.methodLink RX6 76 yX3_forget, Cond.instanceMethod yX3_forget, Cond.selects RX3 yX3_forget yX3_forget, Cond.initialized RX3, Cond.code yX3_forget cX3_forget 1 none, Cond.fieldLink RX3 37 "Threetwo$Rhythm" "known" "Z", Cond.methodLink RX6 82 yX4_many, Cond.methodLink RL 57 yX6_cut, Cond.instanceMethod yX6_cut, Cond.selects RX6 yX6_cut yX6_cut, Cond.code yX6_cut cX6_cut 3 (some .int), Cond.methodLink RX6 86 yX6_requireField, Cond.instanceMethod yX6_requireField, Cond.selects RX6 yX6_requireField yX6_requireField, Cond.code yX6_requireField cX6_requireField 2 none, Cond.classLink RX6 151 "java/lang/IndexOutOfBoundsException", Cond.initialized "java/lang/IndexOutOfBoundsException", Cond.methodLink RX6 268 yX4_has]
def wsL_act_r4 : List Cond := [Cond.instanceMethod yX4_has, Cond.selects RX4 yX4_has yX4_has, Cond.code yX4_has cX4_has 2 (some .boolean), Cond.methodLink RX6 91 yX5_cutOut, Cond.instanceMethod yX5_cutOut, Cond.selects RX5 yX5_cutOut yX5_cutOut, Cond.code yX5_cutOut cX5_cutOut 3 none, Cond.methodLink RX5 52 yX4_remove, Cond.instanceMethod yX4_remove, Cond.selects RX4 yX4_remove yX4_remove, Cond.code yX4_remove cX4_remove 4 none, Cond.methodLink RX4 25 yX4_has, Cond.methodLink RL 60 yX6_spoil, Cond.instanceMethod yX6_spoil, Cond.selects RX6 yX6_spoil yX6_spoil, Cond.code yX6_spoil cX6_spoil 4 (some .int), Cond.methodLink RX6 95 yX4_at, Cond.methodLink RX6 98 yX5_note, Cond.instanceMethod yX5_note, Cond.selects RX5 yX5_note yX5_note, Cond.code yX5_note cX5_note 3 none, Cond.fieldLink RX5 23 "Threetwo$Strip" "noteFields" "[I", Cond.fieldLink RX5 27 "Threetwo$Strip" "noteLooks" "[I", Cond.methodLink RX5 56 yX4_put]
def wsL_act_r5 : List Cond := [Cond.instanceMethod yX4_put, Cond.selects RX4 yX4_put yX4_put, Cond.code yX4_put cX4_put 3 none, Cond.methodLink RL 63 yX6_heal, Cond.instanceMethod yX6_heal, Cond.selects RX6 yX6_heal yX6_heal, Cond.code yX6_heal cX6_heal 2 (some .int), Cond.methodLink RX6 101 yX5_takeBack, Cond.instanceMethod yX5_takeBack, Cond.selects RX5 yX5_takeBack yX5_takeBack, Cond.code yX5_takeBack cX5_takeBack 2 (some .int), Cond.methodLink RL 67 yX6_change, Cond.instanceMethod yX6_change, Cond.selects RX6 yX6_change yX6_change, Cond.code yX6_change cX6_change 3 (some .int), Cond.fieldLink RX6 46 "Threetwo" "changeNow" "I", Cond.methodLink RL 70 yX6_print, Cond.instanceMethod yX6_print, Cond.selects RX6 yX6_print yX6_print, Cond.code yX6_print cX6_print 2 (some .int), Cond.fieldLink RX6 35 "Threetwo" "prints" "LThreetwo$Prints;", Cond.methodLink RX6 106 yX2_begin, Cond.instanceMethod yX2_begin, Cond.selects RX2 yX2_begin yX2_begin]
def wsL_act_r6 : List Cond := [Cond.initialized RX2, Cond.code yX2_begin cX2_begin 1 (some .int), Cond.fieldLink RX2 28 "Threetwo$Prints" "many" "I", Cond.methodLink RL 73 yX6_look, Cond.instanceMethod yX6_look, Cond.selects RX6 yX6_look yX6_look, Cond.code yX6_look cX6_look 4 (some .int), Cond.methodLink RX6 111 yX6_requirePrint, Cond.instanceMethod yX6_requirePrint, Cond.selects RX6 yX6_requirePrint yX6_requirePrint, Cond.code yX6_requirePrint cX6_requirePrint 2 none, Cond.methodLink RX6 273 yX2_has, Cond.instanceMethod yX2_has, Cond.selects RX2 yX2_has yX2_has, Cond.code yX2_has cX2_has 2 (some .boolean), Cond.methodLink RX6 114 yX2_row, Cond.instanceMethod yX2_row, Cond.selects RX2 yX2_row yX2_row, Cond.code yX2_row cX2_row 2 (some (.object "Threetwo$Row")), Cond.fieldLink RX2 11 "Threetwo$Prints" "rows" "[LThreetwo$Row;", Cond.methodLink RL 76 yX6_rate, Cond.instanceMethod yX6_rate, Cond.selects RX6 yX6_rate yX6_rate, Cond.code yX6_rate cX6_rate 3 (some .int)]
def wsL_act_r7 : List Cond := [Cond.fieldLink RX6 42 "Threetwo" "buffer" "LThreetwo$Buffer;", Cond.methodLink RL 79 yX6_size, Cond.instanceMethod yX6_size, Cond.selects RX6 yX6_size yX6_size, Cond.code yX6_size cX6_size 3 (some .int)]
def wsL_act : List Cond := .codeWith yL_act cL_act 4 none [(0, 262, 265, 82), (0, 262, 267, 84), (0, 262, 269, 86)] :: ((wsL_act_r1 ++ (wsL_act_r2 ++ (wsL_act_r3 ++ (wsL_act_r4 ++ (wsL_act_r5 ++ (wsL_act_r6 ++ wsL_act_r7)))))) ++ wsX60 ++ wsX40 ++ wsX50 ++ wsX30 ++ wsX20 ++ wsX00 ++ (vx_atS RX6 64 "java/lang/IllegalStateException" ["java/lang/RuntimeException", "java/lang/Exception"]).filter goodWord ++ (vx_atS RX6 71 "java/lang/IllegalArgumentException" ["java/lang/RuntimeException", "java/lang/Exception"]).filter goodWord ++ (vx_atS RX6 155 "java/lang/IndexOutOfBoundsException" ["java/lang/RuntimeException", "java/lang/Exception"]).filter goodWord)
def wsL_law0_r1 : List Cond := [Cond.classLink RL 9 RX6, Cond.instantiable RX6 7, Cond.initialized RX6, Cond.constant RL 26 (107892), Cond.methodLink RL 11 yX6_init, Cond.instanceMethod yX6_init, Cond.code yX6_init cX6_init 1 none, Cond.methodLink RX6 1 objectInit, Cond.instanceMethod objectInit, Cond.code objectInit ⟨#[0xb1]⟩ 1 none, Cond.classLink RX6 7 RX4, Cond.instantiable RX4 2, Cond.initialized RX4, Cond.fieldLink RX6 14 "Threetwo" "reel" "LThreetwo$Row;", Cond.classLink RX6 18 RX5, Cond.instantiable RX5 6, Cond.initialized RX5, Cond.fieldLink RX6 21 "Threetwo" "strip" "LThreetwo$Strip;", Cond.classLink RX6 25 RX3, Cond.instantiable RX3 9, Cond.initialized RX3, Cond.fieldLink RX6 28 "Threetwo" "rhythm" "LThreetwo$Rhythm;", Cond.classLink RX6 32 RX2, Cond.instantiable RX2 4]
def wsL_law0_r2 : List Cond := [Cond.initialized RX2, Cond.fieldLink RX6 35 "Threetwo" "prints" "LThreetwo$Prints;", Cond.classLink RX6 39 RX0, Cond.instantiable RX0 2, Cond.initialized RX0, Cond.fieldLink RX6 42 "Threetwo" "buffer" "LThreetwo$Buffer;", Cond.fieldLink RX6 46 "Threetwo" "changeNow" "I", Cond.fieldLink RX6 50 "Threetwo" "refused" "I", Cond.methodLink RX6 11 yX4_init, Cond.instanceMethod yX4_init, Cond.code yX4_init cX4_init 2 none, Cond.methodLink RX4 3 objectInit, Cond.methodLink RX4 9 Lib.Math.max.name, Cond.static Lib.Math.max.name, Cond.initialized "java/lang/Math", Cond.code Lib.Math.max.name Lib.Math.max.code 2 (some .int), Cond.arrayClass .int, Cond.fieldLink RX4 15 "Threetwo$Row" "items" "[I", Cond.fieldLink RX4 21 "Threetwo$Row" "told" "I", Cond.methodLink RX6 20 yX5_init, Cond.instanceMethod yX5_init, Cond.code yX5_init cX5_init 1 none, Cond.methodLink RX5 3 objectInit, Cond.classLink RX5 9 RX4]
def wsL_law0_r3 : List Cond := [Cond.fieldLink RX5 14 "Threetwo$Strip" "looks" "LThreetwo$Row;", Cond.fieldLink RX5 20 "Threetwo$Strip" "rest" "LThreetwo$Row;", Cond.fieldLink RX5 23 "Threetwo$Strip" "noteFields" "[I", Cond.fieldLink RX5 27 "Threetwo$Strip" "noteLooks" "[I", Cond.arrayClass .char, Cond.fieldLink RX5 30 "Threetwo$Strip" "signs" "[C", Cond.fieldLink RX5 34 "Threetwo$Strip" "notes" "I", Cond.methodLink RX5 11 yX4_init, Cond.methodLink RX6 27 yX3_init, Cond.instanceMethod yX3_init, Cond.code yX3_init cX3_init 1 none, Cond.methodLink RX3 3 objectInit, Cond.fieldLink RX3 11 "Threetwo$Rhythm" "behind" "[I", Cond.fieldLink RX3 15 "Threetwo$Rhythm" "places" "[I", Cond.fieldLink RX3 18 "Threetwo$Rhythm" "frameOf" "[I", Cond.fieldLink RX3 21 "Threetwo$Rhythm" "firsts" "[I", Cond.fieldLink RX3 24 "Threetwo$Rhythm" "lengths" "[I", Cond.fieldLink RX3 27 "Threetwo$Rhythm" "frameLooks" "[I", Cond.fieldLink RX3 30 "Threetwo$Rhythm" "cost" "I", Cond.fieldLink RX3 34 "Threetwo$Rhythm" "frames" "I", Cond.fieldLink RX3 37 "Threetwo$Rhythm" "known" "Z", Cond.methodLink RX6 34 yX2_init, Cond.instanceMethod yX2_init, Cond.code yX2_init cX2_init 2 none]
def wsL_law0_r4 : List Cond := [Cond.methodLink RX2 3 objectInit, Cond.classLink RX2 9 RX4, Cond.fieldLink RX2 11 "Threetwo$Prints" "rows" "[LThreetwo$Row;", Cond.fieldLink RX2 20 "Threetwo$Prints" "behind" "[I", Cond.fieldLink RX2 24 "Threetwo$Prints" "signs" "[C", Cond.fieldLink RX2 28 "Threetwo$Prints" "many" "I", Cond.methodLink RX2 17 yX4_init, Cond.methodLink RX6 41 yX0_init, Cond.instanceMethod yX0_init, Cond.code yX0_init cX0_init 1 none, Cond.methodLink RX0 3 objectInit, Cond.classLink RX0 9 RX4, Cond.fieldLink RX0 14 "Threetwo$Buffer" "sizes" "LThreetwo$Row;", Cond.fieldLink RX0 20 "Threetwo$Buffer" "rateNow" "I", Cond.methodLink RX0 11 yX4_init, Cond.methodLink RL 12 yL_cell, Cond.static yL_cell, Cond.initialized RL, Cond.code yL_cell cL_cell 2 (some .int), Cond.constant RL 8 (790386105), Cond.methodLink RL 18 yL_below, Cond.static yL_below, Cond.code yL_below cL_below 2 (some .int), Cond.constant RL 7 (2147483647)]
def wsL_law0_r5 : List Cond := [Cond.methodLink RL 22 yL_act, Cond.static yL_act, Cond.codeWith yL_act cL_act 4 none [(0, 262, 265, 82), (0, 262, 267, 84), (0, 262, 269, 86)], Cond.classLink RL 82 "java/lang/IndexOutOfBoundsException", Cond.classLink RL 84 "java/lang/IllegalArgumentException", Cond.classLink RL 86 "java/lang/IllegalStateException", Cond.methodLink RL 51 yX6_frame, Cond.instanceMethod yX6_frame, Cond.selects RX6 yX6_frame yX6_frame, Cond.code yX6_frame cX6_frame 3 (some .int), Cond.classLink RX6 60 "java/lang/IllegalStateException", Cond.initialized "java/lang/IllegalStateException", Cond.methodLink RX6 53 yX6_requireLook, Cond.static yX6_requireLook, Cond.code yX6_requireLook cX6_requireLook 1 none, Cond.classLink RX6 67 "java/lang/IllegalArgumentException", Cond.initialized "java/lang/IllegalArgumentException", Cond.methodLink RX6 56 yX4_add, Cond.instanceMethod yX4_add, Cond.selects RX4 yX4_add yX4_add, Cond.code yX4_add cX4_add 2 (some .int), Cond.methodLink RL 54 yX6_pull, Cond.instanceMethod yX6_pull, Cond.selects RX6 yX6_pull yX6_pull]
def wsL_law0_r6 : List Cond := [Cond.code yX6_pull cX6_pull 2 (some .int), Cond.methodLink RX6 72 yX5_pullDown, Cond.instanceMethod yX5_pullDown, Cond.selects RX5 yX5_pullDown yX5_pullDown, Cond.code yX5_pullDown cX5_pullDown 6 none, Cond.methodLink RX5 38 yX4_clear, Cond.instanceMethod yX4_clear, Cond.selects RX4 yX4_clear yX4_clear, Cond.code yX4_clear cX4_clear 1 none, Cond.methodLink RX5 41 yX4_many, Cond.instanceMethod yX4_many, Cond.selects RX4 yX4_many yX4_many, Cond.code yX4_many cX4_many 1 (some .int), Cond.methodLink RX5 45 yX4_at, Cond.instanceMethod yX4_at, Cond.selects RX4 yX4_at yX4_at, Cond.code yX4_at cX4_at 2 (some .int), Cond.methodLink RX5 49 yX4_add, Cond.methodLink RX6 76 yX3_forget, Cond.instanceMethod yX3_forget, Cond.selects RX3 yX3_forget yX3_forget, Cond.code yX3_forget cX3_forget 1 none, Cond.methodLink RX6 82 yX4_many, Cond.methodLink RL 57 yX6_cut]
def wsL_law0_r7 : List Cond := [Cond.instanceMethod yX6_cut, Cond.selects RX6 yX6_cut yX6_cut, Cond.code yX6_cut cX6_cut 3 (some .int), Cond.methodLink RX6 86 yX6_requireField, Cond.instanceMethod yX6_requireField, Cond.selects RX6 yX6_requireField yX6_requireField, Cond.code yX6_requireField cX6_requireField 2 none, Cond.classLink RX6 151 "java/lang/IndexOutOfBoundsException", Cond.initialized "java/lang/IndexOutOfBoundsException", Cond.methodLink RX6 268 yX4_has, Cond.instanceMethod yX4_has, Cond.selects RX4 yX4_has yX4_has, Cond.code yX4_has cX4_has 2 (some .boolean), Cond.methodLink RX6 91 yX5_cutOut, Cond.instanceMethod yX5_cutOut, Cond.selects RX5 yX5_cutOut yX5_cutOut, Cond.code yX5_cutOut cX5_cutOut 3 none, Cond.methodLink RX5 52 yX4_remove, Cond.instanceMethod yX4_remove, Cond.selects RX4 yX4_remove yX4_remove, Cond.code yX4_remove cX4_remove 4 none, Cond.methodLink RX4 25 yX4_has, Cond.methodLink RL 60 yX6_spoil, Cond.instanceMethod yX6_spoil]
def wsL_law0_r8 : List Cond := [Cond.selects RX6 yX6_spoil yX6_spoil, Cond.code yX6_spoil cX6_spoil 4 (some .int), Cond.methodLink RX6 95 yX4_at, Cond.methodLink RX6 98 yX5_note, Cond.instanceMethod yX5_note, Cond.selects RX5 yX5_note yX5_note, Cond.code yX5_note cX5_note 3 none, Cond.methodLink RX5 56 yX4_put, Cond.instanceMethod yX4_put, Cond.selects RX4 yX4_put yX4_put, Cond.code yX4_put cX4_put 3 none, Cond.methodLink RL 63 yX6_heal, Cond.instanceMethod yX6_heal, Cond.selects RX6 yX6_heal yX6_heal, Cond.code yX6_heal cX6_heal 2 (some .int), Cond.methodLink RX6 101 yX5_takeBack, Cond.instanceMethod yX5_takeBack, Cond.selects RX5 yX5_takeBack yX5_takeBack, Cond.code yX5_takeBack cX5_takeBack 2 (some .int), Cond.methodLink RL 67 yX6_change, Cond.instanceMethod yX6_change, Cond.selects RX6 yX6_change yX6_change, Cond.code yX6_change cX6_change 3 (some .int), Cond.methodLink RL 70 yX6_print]
def wsL_law0_r9 : List Cond := [Cond.instanceMethod yX6_print, Cond.selects RX6 yX6_print yX6_print, Cond.code yX6_print cX6_print 2 (some .int), Cond.methodLink RX6 106 yX2_begin, Cond.instanceMethod yX2_begin, Cond.selects RX2 yX2_begin yX2_begin, Cond.code yX2_begin cX2_begin 1 (some .int), Cond.methodLink RL 73 yX6_look, Cond.instanceMethod yX6_look, Cond.selects RX6 yX6_look yX6_look, Cond.code yX6_look cX6_look 4 (some .int), Cond.methodLink RX6 111 yX6_requirePrint, Cond.instanceMethod yX6_requirePrint, Cond.selects RX6 yX6_requirePrint yX6_requirePrint, Cond.code yX6_requirePrint cX6_requirePrint 2 none, Cond.methodLink RX6 273 yX2_has, Cond.instanceMethod yX2_has, Cond.selects RX2 yX2_has yX2_has, Cond.code yX2_has cX2_has 2 (some .boolean), Cond.methodLink RX6 114 yX2_row, Cond.instanceMethod yX2_row, Cond.selects RX2 yX2_row yX2_row, Cond.code yX2_row cX2_row 2 (some (.object "Threetwo$Row")), Cond.methodLink RL 76 yX6_rate]
def wsL_law0_r10 : List Cond := [Cond.instanceMethod yX6_rate, Cond.selects RX6 yX6_rate yX6_rate, Cond.code yX6_rate cX6_rate 3 (some .int), Cond.methodLink RL 79 yX6_size, Cond.instanceMethod yX6_size, Cond.selects RX6 yX6_size yX6_size, Cond.code yX6_size cX6_size 3 (some .int), Cond.methodLink RL 27 yX6_label, Cond.instanceMethod yX6_label, Cond.selects RX6 yX6_label yX6_label, Cond.code yX6_label cX6_label 2 (some .int), Cond.constant RX6 204 (107892), Cond.methodLink RX6 207 yX1_labelOf, Cond.static yX1_labelOf, Cond.initialized RX1, Cond.code yX1_labelOf cX1_labelOf 4 (some .int), Cond.methodLink RL 31 yX6_picture, Cond.instanceMethod yX6_picture, Cond.selects RX6 yX6_picture yX6_picture, Cond.code yX6_picture cX6_picture 2 (some .int), Cond.methodLink RX6 212 yX1_pictureOf, Cond.static yX1_pictureOf, Cond.code yX1_pictureOf cX1_pictureOf 5 (some .int), Cond.methodLink RX1 11 yX1_isLeftOut]
def wsL_law0_r11 : List Cond := [Cond.static yX1_isLeftOut, Cond.code yX1_isLeftOut cX1_isLeftOut 3 (some .boolean), Cond.methodLink RL 34 yX6_house, Cond.instanceMethod yX6_house, Cond.selects RX6 yX6_house yX6_house, Cond.code yX6_house cX6_house 2 (some .int), Cond.methodLink RX6 132 yX3_find, Cond.instanceMethod yX3_find, Cond.selects RX3 yX3_find yX3_find, Cond.code yX3_find cX3_find 4 none, Cond.methodLink RX3 41 yX3_leastCost, Cond.instanceMethod yX3_leastCost, Cond.selects RX3 yX3_leastCost yX3_leastCost, Cond.code yX3_leastCost cX3_leastCost 8 (some .int), Cond.methodLink RX3 49 yX4_many, Cond.methodLink RX3 63 yX4_at, Cond.methodLink RX3 67 yX3_bestNext, Cond.instanceMethod yX3_bestNext, Cond.selects RX3 yX3_bestNext yX3_bestNext, Cond.code yX3_bestNext cX3_bestNext 10 (some .int), Cond.methodLink RX3 71 yX3_step, Cond.static yX3_step, Cond.code yX3_step cX3_step 4 (some .int), Cond.methodLink RX3 74 yX3_bestFirst]
def wsL_law0_r12 : List Cond := [Cond.instanceMethod yX3_bestFirst, Cond.selects RX3 yX3_bestFirst yX3_bestFirst, Cond.code yX3_bestFirst cX3_bestFirst 3 (some .int), Cond.methodLink RX3 45 yX3_tracePath, Cond.instanceMethod yX3_tracePath, Cond.selects RX3 yX3_tracePath yX3_tracePath, Cond.code yX3_tracePath cX3_tracePath 5 none, Cond.methodLink RX3 55 yX3_gatherFrames, Cond.instanceMethod yX3_gatherFrames, Cond.selects RX3 yX3_gatherFrames yX3_gatherFrames, Cond.code yX3_gatherFrames cX3_gatherFrames 4 none, Cond.methodLink RX3 77 yX3_beginsFrame, Cond.instanceMethod yX3_beginsFrame, Cond.selects RX3 yX3_beginsFrame yX3_beginsFrame, Cond.code yX3_beginsFrame cX3_beginsFrame 3 (some .boolean), Cond.methodLink RX3 59 yX3_commonLook, Cond.static yX3_commonLook, Cond.code yX3_commonLook cX3_commonLook 8 (some .int), Cond.methodLink RX3 81 yX3_timesOf, Cond.static yX3_timesOf, Cond.code yX3_timesOf cX3_timesOf 6 (some .int), Cond.methodLink RX6 192 yX0_leastDelay, Cond.instanceMethod yX0_leastDelay, Cond.selects RX0 yX0_leastDelay yX0_leastDelay]
def wsL_law0_r13 : List Cond := [Cond.code yX0_leastDelay cX0_leastDelay 5 (some .int), Cond.methodLink RX0 39 Lib.Math.max.name, Cond.methodLink RX0 28 yX4_many, Cond.methodLink RX0 31 yX4_at, Cond.methodLink RX6 195 yX0_peak, Cond.instanceMethod yX0_peak, Cond.selects RX0 yX0_peak yX0_peak, Cond.code yX0_peak cX0_peak 6 (some .int), Cond.methodLink RX0 44 yX0_leastDelay, Cond.methodLink RX0 24 yX0_sumOfSizes, Cond.instanceMethod yX0_sumOfSizes, Cond.selects RX0 yX0_sumOfSizes yX0_sumOfSizes, Cond.code yX0_sumOfSizes cX0_sumOfSizes 3 (some .int), Cond.methodLink RX0 35 yX0_cameIn, Cond.instanceMethod yX0_cameIn, Cond.selects RX0 yX0_cameIn yX0_cameIn, Cond.code yX0_cameIn cX0_cameIn 3 (some .int), Cond.methodLink RX0 47 Lib.Math.min.name, Cond.static Lib.Math.min.name, Cond.code Lib.Math.min.name Lib.Math.min.code 2 (some .int), Cond.methodLink RL 37 yX6_apart, Cond.instanceMethod yX6_apart, Cond.selects RX6 yX6_apart yX6_apart, Cond.code yX6_apart cX6_apart 3 (some .int)]
def wsL_law0_r14 : List Cond := [Cond.methodLink RX6 169 yX2_distance, Cond.instanceMethod yX2_distance, Cond.selects RX2 yX2_distance yX2_distance, Cond.code yX2_distance cX2_distance 7 (some .int), Cond.methodLink RX2 32 yX4_many, Cond.methodLink RX2 35 yX2_leastFrom, Cond.instanceMethod yX2_leastFrom, Cond.selects RX2 yX2_leastFrom yX2_leastFrom, Cond.code yX2_leastFrom cX2_leastFrom 7 (some .int), Cond.methodLink RX2 51 Lib.Math.min.name, Cond.methodLink RX2 43 yX4_has, Cond.methodLink RX2 56 yX4_at, Cond.methodLink RX2 60 yX2_together, Cond.static yX2_together, Cond.code yX2_together cX2_together 2 (some .int), Cond.methodLink RX2 63 Lib.Math.abs.name, Cond.static Lib.Math.abs.name, Cond.code Lib.Math.abs.name Lib.Math.abs.code 1 (some .int), Cond.methodLink RL 40 yX6_dry, Cond.instanceMethod yX6_dry, Cond.selects RX6 yX6_dry yX6_dry, Cond.code yX6_dry cX6_dry 2 (some .int), Cond.methodLink RX6 217 yX0_firstDry, Cond.instanceMethod yX0_firstDry]
def wsL_law0_r15 : List Cond := [Cond.selects RX0 yX0_firstDry yX0_firstDry, Cond.code yX0_firstDry cX0_firstDry 5 (some .int), Cond.methodLink RL 43 yX6_digest, Cond.instanceMethod yX6_digest, Cond.selects RX6 yX6_digest yX6_digest, Cond.code yX6_digest cX6_digest 4 (some .long), Cond.constantLong RX6 240 (8311), Cond.constantLong RX6 242 (31), Cond.methodLink RX6 244 yX6_house, Cond.methodLink RX6 247 yX6_withFields, Cond.instanceMethod yX6_withFields, Cond.selects RX6 yX6_withFields yX6_withFields, Cond.code yX6_withFields cX6_withFields 7 (some .long), Cond.methodLink RX6 295 yX6_ofField, Cond.instanceMethod yX6_ofField, Cond.selects RX6 yX6_ofField yX6_ofField, Cond.code yX6_ofField cX6_ofField 3 (some .int), Cond.methodLink RX6 142 yX5_isNoted, Cond.instanceMethod yX5_isNoted, Cond.selects RX5 yX5_isNoted yX5_isNoted, Cond.code yX5_isNoted cX5_isNoted 3 (some .boolean), Cond.methodLink RX6 251 yX6_withFoundFrames, Cond.instanceMethod yX6_withFoundFrames, Cond.selects RX6 yX6_withFoundFrames yX6_withFoundFrames]
def wsL_law0_r16 : List Cond := [Cond.code yX6_withFoundFrames cX6_withFoundFrames 7 (some .long), Cond.methodLink RX6 298 yX6_found, Cond.instanceMethod yX6_found, Cond.selects RX6 yX6_found yX6_found, Cond.code yX6_found cX6_found 3 (some .int), Cond.methodLink RX6 254 yX6_withPrints, Cond.instanceMethod yX6_withPrints, Cond.selects RX6 yX6_withPrints yX6_withPrints, Cond.code yX6_withPrints cX6_withPrints 7 (some .long), Cond.methodLink RX6 177 yX2_layOut, Cond.instanceMethod yX2_layOut, Cond.selects RX2 yX2_layOut yX2_layOut, Cond.code yX2_layOut cX2_layOut 9 (some .int), Cond.methodLink RX2 39 yX2_distance, Cond.methodLink RX2 47 yX2_signAt, Cond.instanceMethod yX2_signAt, Cond.selects RX2 yX2_signAt yX2_signAt, Cond.code yX2_signAt cX2_signAt 6 (some .char), Cond.methodLink RX6 257 yX6_label, Cond.methodLink RX6 260 yX6_dry, Cond.methodLink RX6 201 yX5_nameLooks, Cond.instanceMethod yX5_nameLooks, Cond.selects RX5 yX5_nameLooks yX5_nameLooks, Cond.code yX5_nameLooks cX5_nameLooks 4 (some .int)]
def wsL_law0_r17 : List Cond := [Cond.methodLink RX5 59 yX5_firstLike, Cond.instanceMethod yX5_firstLike, Cond.selects RX5 yX5_firstLike yX5_firstLike, Cond.code yX5_firstLike cX5_firstLike 3 (some .int), Cond.methodLink RX6 263 yX6_isSound, Cond.instanceMethod yX6_isSound, Cond.selects RX6 yX6_isSound yX6_isSound, Cond.code yX6_isSound cX6_isSound 1 (some .boolean), Cond.methodLink RX6 227 yX6_printsAreSound, Cond.instanceMethod yX6_printsAreSound, Cond.selects RX6 yX6_printsAreSound yX6_printsAreSound, Cond.code yX6_printsAreSound cX6_printsAreSound 3 (some .boolean), Cond.methodLink RX6 287 yX6_pairIsSound, Cond.instanceMethod yX6_pairIsSound, Cond.selects RX6 yX6_pairIsSound yX6_pairIsSound, Cond.code yX6_pairIsSound cX6_pairIsSound 5 (some .boolean), Cond.methodLink RX6 231 yX6_bufferIsSound, Cond.instanceMethod yX6_bufferIsSound, Cond.selects RX6 yX6_bufferIsSound yX6_bufferIsSound, Cond.code yX6_bufferIsSound cX6_bufferIsSound 2 (some .boolean), Cond.methodLink RX6 234 yX6_framesAreSound, Cond.instanceMethod yX6_framesAreSound, Cond.selects RX6 yX6_framesAreSound yX6_framesAreSound, Cond.code yX6_framesAreSound cX6_framesAreSound 3 (some .boolean)]
def wsL_law0_r18 : List Cond := [Cond.methodLink RX6 237 yX6_labelsAreSound, Cond.static yX6_labelsAreSound, Cond.code yX6_labelsAreSound cX6_labelsAreSound 0 (some .boolean), Cond.constant RX6 294 (107891), Cond.methodLink RX6 291 yX1_goesBack, Cond.static yX1_goesBack, Cond.code yX1_goesBack cX1_goesBack 1 (some .boolean), Cond.methodLink RX1 15 yX1_labelOf, Cond.methodLink RX1 19 yX1_pictureOf, Cond.methodLink RL 47 yX6_isSound]
def wsL_law0 : List Cond := (wsL_law0_r1 ++ (wsL_law0_r2 ++ (wsL_law0_r3 ++ (wsL_law0_r4 ++ (wsL_law0_r5 ++ (wsL_law0_r6 ++ (wsL_law0_r7 ++ (wsL_law0_r8 ++ (wsL_law0_r9 ++ (wsL_law0_r10 ++ (wsL_law0_r11 ++ (wsL_law0_r12 ++ (wsL_law0_r13 ++ (wsL_law0_r14 ++ (wsL_law0_r15 ++ (wsL_law0_r16 ++ (wsL_law0_r17 ++ wsL_law0_r18))))))))))))))))) ++ wsX60 ++ wsX40 ++ wsX50 ++ wsX30 ++ wsX20 ++ wsX00 ++ ([] : List Cond)
def wsL_law : List Cond := wsL_law0 ++ (vx_atS RX6 64 "java/lang/IllegalStateException" ["java/lang/RuntimeException", "java/lang/Exception"]).filter goodWord ++ (vx_atS RX6 71 "java/lang/IllegalArgumentException" ["java/lang/RuntimeException", "java/lang/Exception"]).filter goodWord ++ (vx_atS RX6 155 "java/lang/IndexOutOfBoundsException" ["java/lang/RuntimeException", "java/lang/Exception"]).filter goodWord
