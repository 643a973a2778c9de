set_option maxHeartbeats 4000000 in
set_option maxRecDepth 100000 in
theorem c_L_below (l : Launch) (D : va_G) (gi gc gr : ClassId) (v : Int32) (n : Int) (hn : 0 < n ∧ n < 2147483648) : Met l yL_below wsL_below { frames := 0, cells := 0, slots := 0, locals := 0 } (zPr D gi gc gr [] [.int v, .int (iI n)]) (vp_Si (fun v => ∃ z : Int, v = iI z ∧ (0 ≤ z ∧ z < n))) 0 0 (fun _ => False) := by
  refine zt_metRi (own := RL) (cc := cL_below) (maxL := 2) (by decide) rfl rfl (Nat.le_of_ble_eq_true rfl) ?_
  intro p e s m args below meth c Q C hK hP hQ ls hl
  have hx := C.1
  have hb := C.2.1
  have hml := C.2.2.1
  have hown := C.2.2.2.1
  have hts := C.2.2.2.2
  have hl : lv_has ls 2 [(0, .int v), (1, .int (iI n))] := hl
  refine lv_iload_n hx hb dL_below_0 rfl (lv_at hl 0 rfl) ?_
  refine lv_ldc (v := iI (2147483647)) hx hb hown (hts (.constant RL 7 (2147483647)) (by decide +kernel)) dL_below_1 ?_
  refine lv_iand hx hb dL_below_3 ?_
  refine lv_topi (fun y_1 ey_1 => ?_)
  obtain ⟨j9, hj9, ej9⟩ := pk_andE v (m := iI 2147483647) 31 (by decide +kernel)
  obtain rfl : y_1 = iI (j9 : Int) := by rw [ey_1, ej9]; exact iI_ofN j9
  refine lv_iload_n hx hb dL_below_4 rfl (lv_at hl 1 rfl) ?_
  refine zt_irem hx hb dL_below_5 (by omega) ?_
  exact hQ _ _ _ (⟨_, rfl, Int.emod_nonneg _ (by omega), Int.emod_lt_of_pos _ (by omega)⟩) dL_below_6
def zOk (rn : Int) (nn : Int) (t : Int) (F : Int) (kn : Int) (fi : Nat → Int) (le : Nat → Int) (mp : Int) (tn : Nat → Int) (gs : Nat → Nat → Int) (rate : Int) (bt : Int) (bg : Nat → Int) : Prop := (0 ≤ rn ∧ rn ≤ 24) ∧ (0 ≤ t ∧ t ≤ 60) ∧ (0 ≤ nn ∧ nn ≤ 512) ∧ (kn = 0 ∨ kn = 1) ∧ (kn = 1 → Cov F t fi le) ∧ (0 ≤ mp ∧ mp ≤ 3) ∧ (∀ k : Nat, k < 3 → 0 ≤ tn k ∧ tn k ≤ 10) ∧ (∀ k : Nat, k < 3 → ∀ j : Nat, (j : Int) < tn k → 0 ≤ gs k j ∧ gs k j ≤ 99) ∧ (1 ≤ rate ∧ rate ≤ 50) ∧ (0 ≤ bt ∧ bt ≤ 20) ∧ (∀ j : Nat, (j : Int) < bt → 0 ≤ bg j ∧ bg j ≤ 99)
def zInv (D : va_G) (gi gc gr : ClassId) (h : Nat) (k1 : Nat) (k2 : Nat) (d : Nat) (r : Nat) (a : Nat) (r2 : Nat) (n1 : Nat) (n2 : Nat) (sg : Nat) (o : Nat) (q1 : Nat) (q2 : Nat) (q3 : Nat) (q4 : Nat) (q5 : Nat) (q6 : Nat) (w : Nat) (rw : Nat) (bq : Nat) (sq : Nat) (ra : Nat → Nat) (ia : Nat → Nat) (bu : Nat) (br : Nat) (ba : Nat) (A : Nat → Prop) (H : Heap) : Prop := ∃ (chg : Int) (rfd : Int) (rn : Int) (rg : Nat → Int) (nn : Int) (t : Int) (g : Nat → Int) (nf : Nat → Int) (nl : Nat → Int) (ssf : Nat → Int32) (cst : Int) (F : Int) (kn : Int) (bh : Nat → Int) (pl : Nat → Int) (fo : Nat → Int) (fi : Nat → Int) (le : Nat → Int) (fl : Nat → Int) (mp : Int) (pb : Nat → Int) (tn : Nat → Int) (gs : Nat → Nat → Int) (sf : Nat → Int32) (rate : Int) (bt : Int) (bg : Nat → Int), zOk rn nn t F kn fi le mp tn gs rate bt bg ∧ va_P D vwCl [(h, .inr (5, [.ref k1, .ref d, .ref o, .ref w, .ref bu, .int (iI chg), .int (iI rfd)])), (k1, .inr (3, [.ref k2, .int (iI rn)])), (k2, aI gi 24 rg), (d, .inr (4, [.ref r, .ref r2, .ref n1, .ref n2, .ref sg, .int (iI nn)])), (r, .inr (3, [.ref a, .int (iI t)])), (a, aI gi 60 g), (n1, aI gi 512 nf), (n2, aI gi 512 nl), (sg, .inl (gc, 60, .inl ssf)), (o, .inr (2, [.ref q1, .ref q2, .ref q3, .ref q4, .ref q5, .ref q6, .int (iI cst), .int (iI F), .int (iI kn)])), (q1, aI gi 300 bh), (q2, aI gi 60 pl), (q3, aI gi 60 fo), (q4, aI gi 60 fi), (q5, aI gi 60 le), (q6, aI gi 60 fl), (w, .inr (1, [.ref rw, .ref bq, .ref sq, .int (iI mp)])), (rw, .inl (gr, 3, .inr (.inr (.inr (.inr (rF ra)))))), (bq, aI gi 121 pb), ((ra 0), .inr (3, [.ref (ia 0), .int (iI (tn 0))])), ((ia 0), aI gi 10 (gs 0)), ((ra 1), .inr (3, [.ref (ia 1), .int (iI (tn 1))])), ((ia 1), aI gi 10 (gs 1)), ((ra 2), .inr (3, [.ref (ia 2), .int (iI (tn 2))])), ((ia 2), aI gi 10 (gs 2)), (sq, .inl (gc, 20, .inl sf)), (bu, .inr (0, [.ref br, .int (iI rate)])), (br, .inr (3, [.ref ba, .int (iI bt)])), (ba, aI gi 20 bg)] H ∧ va_D A [(h, .inr (5, [.ref k1, .ref d, .ref o, .ref w, .ref bu, .int (iI chg), .int (iI rfd)])), (k1, .inr (3, [.ref k2, .int (iI rn)])), (k2, aI gi 24 rg), (d, .inr (4, [.ref r, .ref r2, .ref n1, .ref n2, .ref sg, .int (iI nn)])), (r, .inr (3, [.ref a, .int (iI t)])), (a, aI gi 60 g), (n1, aI gi 512 nf), (n2, aI gi 512 nl), (sg, .inl (gc, 60, .inl ssf)), (o, .inr (2, [.ref q1, .ref q2, .ref q3, .ref q4, .ref q5, .ref q6, .int (iI cst), .int (iI F), .int (iI kn)])), (q1, aI gi 300 bh), (q2, aI gi 60 pl), (q3, aI gi 60 fo), (q4, aI gi 60 fi), (q5, aI gi 60 le), (q6, aI gi 60 fl), (w, .inr (1, [.ref rw, .ref bq, .ref sq, .int (iI mp)])), (rw, .inl (gr, 3, .inr (.inr (.inr (.inr (rF ra)))))), (bq, aI gi 121 pb), ((ra 0), .inr (3, [.ref (ia 0), .int (iI (tn 0))])), ((ia 0), aI gi 10 (gs 0)), ((ra 1), .inr (3, [.ref (ia 1), .int (iI (tn 1))])), ((ia 1), aI gi 10 (gs 1)), ((ra 2), .inr (3, [.ref (ia 2), .int (iI (tn 2))])), ((ia 2), aI gi 10 (gs 2)), (sq, .inl (gc, 20, .inl sf)), (bu, .inr (0, [.ref br, .int (iI rate)])), (br, .inr (3, [.ref ba, .int (iI bt)])), (ba, aI gi 20 bg)]
def zC (U : State) : Prop := va_Nc "java/lang/IllegalArgumentException" "java/lang/IndexOutOfBoundsException" U ∧ va_Nc "java/lang/IllegalStateException" "java/lang/IndexOutOfBoundsException" U ∧ va_Nc "java/lang/IllegalStateException" "java/lang/IllegalArgumentException" U
theorem zC.moved {u U : State} (hv : u.vm.Alike U.vm) (h : zC u) : zC U := ⟨h.1.moved hv, h.2.1.moved hv, h.2.2.moved hv⟩
abbrev zXF (A : Nat → Prop) : String → State → State → Prop := vx_X (S := Unit) (fun _ => False) (fun _ _ _ => True) A
def actH : List (Nat × Nat × Nat × Nat) := [(0, 262, 265, 82), (0, 262, 267, 84), (0, 262, 269, 86)]
section ZA9
variable {p : Program} {l : Launch} {e : Env} {R : Room} {s : State} {m : MethodId} {args : Array Value} {below : List Frame} {meth : Method} {c : Code} {H : Heap} {locs : List Loc} {cells slots mc ms : Nat} {Q : State → Prop}
variable {cc : ByteArray} {pc maxL : Nat} {ls : Array Slot} {rest : List Value} {ws : List Cond}
theorem zt_catch {E : String} {ce : Cell} {q : Addr} (C : CallFix p m c cc maxL s args ws RL) (htab : c.exceptionTable.toList = tableOf actH) (hX : zX s) (hZ : zC s) (hpc : pc < 262) (hE : zEn E) (hcell : H[q]? = some ce) (hv : ce.vm = .none) (hcl : s.vm.findClass E = some ce.cls)
    (l1 : Cond.classLink RL 82 "java/lang/IndexOutOfBoundsException" ∈ ws) (l2 : Cond.classLink RL 84 "java/lang/IllegalArgumentException" ∈ ws) (l3 : Cond.classLink RL 86 "java/lang/IllegalStateException" ∈ ws)
    (kk : ∀ hp : Nat, (hp = 265 ∨ hp = 267 ∨ hp = 269) → W p l e R s m args below meth c H locs cells slots Q (F0 m hp ls [.ref q])) : vx_W p l e R s m args below meth c H locs cells slots Q (F0 m pc ls rest) q := by
  have cov : ∀ a b : Nat, covers (⟨0, 262, a, b⟩ : ExceptionTableEntry) pc = true := fun a b => by simp [covers, hpc]
  have nw : ∀ w ∈ zXw, w.before args s = true := fun w hw => va_tabs (by simp only [zXw, List.mem_cons, List.not_mem_nil, or_false] at hw; rcases hw with e | e | e | e | e | e <;> (subst e; rfl)) rfl (hX.1 w hw)
  rcases hE with e9 | e9 | e9
  · subst e9
    exact vx_catch C.2.2.2.1 [⟨0, 262, 265, 82⟩] ⟨0, 262, 267, 84⟩ [⟨0, 262, 269, 86⟩] htab (fun z hz => by
      rw [List.mem_singleton.mp hz]
      exact Or.inr ⟨by show (82 : Nat) ≠ 0; decide, _, C.2.2.2.2 _ l1, hZ.1⟩) (cov _ _) (by show (84 : Nat) ≠ 0; decide) (C.2.2.2.2 _ l2) (nw _ (by decide +kernel)) hcell hv hcl (kk 267 (Or.inr (Or.inl rfl)))
  · subst e9
    exact vx_catch C.2.2.2.1 [⟨0, 262, 265, 82⟩, ⟨0, 262, 267, 84⟩] ⟨0, 262, 269, 86⟩ [] htab (fun z hz => by
      simp only [List.mem_cons, List.not_mem_nil, or_false] at hz
      rcases hz with hz | hz
      · rw [hz]; exact Or.inr ⟨by show (82 : Nat) ≠ 0; decide, _, C.2.2.2.2 _ l1, hZ.2.1⟩
      · rw [hz]; exact Or.inr ⟨by show (84 : Nat) ≠ 0; decide, _, C.2.2.2.2 _ l2, hZ.2.2⟩) (cov _ _) (by show (86 : Nat) ≠ 0; decide) (C.2.2.2.2 _ l3) (nw _ (by decide +kernel)) hcell hv hcl (kk 269 (Or.inr (Or.inr rfl)))
  · subst e9
    exact vx_catch C.2.2.2.1 [] ⟨0, 262, 265, 82⟩ [⟨0, 262, 267, 84⟩, ⟨0, 262, 269, 86⟩] htab (fun z hz => by cases hz) (cov _ _) (by show (82 : Nat) ≠ 0; decide) (C.2.2.2.2 _ l1) (nw _ (by decide +kernel)) hcell hv hcl (kk 265 (Or.inl rfl))
theorem zt_vretI {I : Heap → Prop} {XC : String → State → State → Prop} {A : Nat → Prop} (hx : p.tables.exec = Jvm.exec) (hb : c.code = cc) (hr : meth.sig.returnType = none) (hlk : meth.locks = false) (hc : cells ≤ mc) (hs : slots ≤ ms) (hI : I H) (hS : va_S A s.heap H locs) (hdg : decode cc pc = .ok (.return_, 1)) :
    W p l e R s m args below meth c H locs cells slots (vx_MQ below (va_Qv (S := Unit) (fun _ => True) (fun _ t => I t.heap) A) XC args s mc ms A) (F0 m pc ls []) :=
  W.widen hc hs (vx_ret (W.vret hx hb hr (fun t ht _ => ⟨⟨(), rfl, trivial, by show I t.heap; rw [ht]; exact hI⟩, hS.F ht⟩) hS.2.2 hdg hlk))
end ZA9
def zPa (D : va_G) (gi gc gr : ClassId) (w : va_W) (sz : Nat) (av : List Value) : Array Value → State → Prop := fun v U => zPx D gi gc gr w sz av v U ∧ zC U
theorem zt_preSa {s : State} {H : Heap} {locs : List Loc} {D : va_G} {gi gc gr : ClassId} {wc : va_W} {A : Nat → Prop} (hK : zK D gi gc gr s) (hX : zX s) (hC : zC s) (hZ : zS A s s.heap) (hS : va_S A s.heap H locs) (hF : ∀ q, va_A wc H.size q → A q) (hP : va_P D vwCl wc H) (hD : va_D A wc) (As : List Value) : PreS s H (zPa D gi gc gr wc H.size As) As :=
  ⟨fun a U g mk q => ⟨zPx.blind a U g mk q.1, zC.moved (u := U) (U := U.calling g mk a) (Vm.Alike.refl U.vm) q.2⟩, fun U hU hW => ⟨⟨⟨rfl, by rw [hU], by rw [hU]; exact hP, hK.warm hW, hD.weaken (fun _ _ _ _ => trivial)⟩, hX.warm hW, hZ.go hS hF hW.alike hU⟩, hC.moved hW.alike⟩⟩
theorem zPa.blind {D : va_G} {gi gc gr : ClassId} {w : va_W} {sz : Nat} {av : List Value} : FrameBlind (zPa D gi gc gr w sz av) := fun a U g mk q => ⟨zPx.blind a U g mk q.1, zC.moved (u := U) (U := U.calling g mk a) (Vm.Alike.refl U.vm) q.2⟩

