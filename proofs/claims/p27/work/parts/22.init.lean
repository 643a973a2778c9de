/-! ===== making: arrays of the three kinds, rows of references ===== -/
theorem arrV_congr {cI : ClassId} {N : Nat} {f g : Nat → Value} (h : ∀ j : Nat, j < N → f j = g j) : arrV cI N f = arrV cI N g := by
  unfold arrV
  have e : (fun j : Fin N => f j.val) = fun j : Fin N => g j.val := funext fun j => h j.val j.isLt
  rw [e]
section ZNW
variable {p : Program} {l : Launch} {e : Env} {R : Room} {s : State} {m : MethodId} {args : Array Value} {below : List Frame} {meth : Method} {c : Code} {H H0 : Heap} {locs : List Loc} {cells slots : Nat} {Q : State → Prop}
variable {cc : ByteArray} {pc : Nat} {ls : Array Slot} {rest : List Value} {D : va_G} {gi gc gr : ClassId} {ws : va_W} {A : Nat → Prop}
theorem zt_newI (hx : p.tables.exec = Jvm.exec) (hb : c.code = cc) (harr : (Cond.arrayClass .int).before args s = true) (hK : zK D gi gc gr s) (hP : va_P D vwCl ws H) (hD : va_D A ws) (hS : va_S A H0 H locs) (hA : ∀ q, H0.size ≤ q → A q) {N : Nat} {n : Int} (hn : n = (N : Int)) (hN : N ≤ 1000) (hcells : cells + 1 ≤ R.cells) (hslots : slots + N ≤ R.slots) (hdg : decode cc pc = .ok (.newarray .int, 2))
    (k : ∀ (q : Nat) (H1 : Heap), va_P D vwCl (ws ++ [(q, aI gi N (fun _ => 0))]) H1 → va_D A (ws ++ [(q, aI gi N (fun _ => 0))]) → va_S A H0 H1 locs → W p l e R s m args below meth c H1 locs (cells + 1) (slots + N) Q (F0 m (pc + 2) ls (.ref q :: rest))) : W p l e R s m args below meth c H locs cells slots Q (F0 m pc ls (.int (iI n) :: rest)) := by
  subst hn
  refine va_newa (atype := .int) (a0 := (N, .inl (iF (fun _ => 0)))) hx hb harr rfl hK.1 hP hD hS hA (fun _ => rfl) (fun q => ?_) (iI_nat (by omega)) (by show N * 4 ≤ _; omega) hcells hslots hdg (fun q cA H1 hK1 hP1 hD1 hS1 => ?_)
  · rw [← iI_0, iI_lt (by omega) (by omega)] at q
    omega
  · have h1 : s.vm.findClass ("[" ++ FieldType.int.toString) = some gi := (hK.1.2 0 _ rfl).2
    have h2 : s.vm.findClass ("[" ++ FieldType.int.toString) = some cA := (hK1.2 3 _ rfl).2
    obtain rfl : gi = cA := Option.some.inj (h1.symm.trans h2)
    exact k q H1 hP1 hD1 hS1
theorem zt_newC (hx : p.tables.exec = Jvm.exec) (hb : c.code = cc) (harr : (Cond.arrayClass .char).before args s = true) (hK : zK D gi gc gr s) (hP : va_P D vwCl ws H) (hD : va_D A ws) (hS : va_S A H0 H locs) (hA : ∀ q, H0.size ≤ q → A q) {N : Nat} {n : Int} (hn : n = (N : Int)) (hN : N ≤ 1000) (hcells : cells + 1 ≤ R.cells) (hslots : slots + N ≤ R.slots) (hdg : decode cc pc = .ok (.newarray .char, 2))
    (k : ∀ (q : Nat) (H1 : Heap), va_P D vwCl (ws ++ [(q, .inl (gc, N, .inl (fun _ => 0)))]) H1 → va_D A (ws ++ [(q, .inl (gc, N, .inl (fun _ => 0)))]) → va_S A H0 H1 locs → W p l e R s m args below meth c H1 locs (cells + 1) (slots + N) Q (F0 m (pc + 2) ls (.ref q :: rest))) : W p l e R s m args below meth c H locs cells slots Q (F0 m pc ls (.int (iI n) :: rest)) := by
  subst hn
  refine va_newa (atype := .char) (a0 := (N, .inl (fun _ => 0))) hx hb harr rfl hK.1 hP hD hS hA (fun _ => rfl) (fun q => ?_) (iI_nat (by omega)) (by show N * 2 ≤ _; omega) hcells hslots hdg (fun q cA H1 hK1 hP1 hD1 hS1 => ?_)
  · rw [← iI_0, iI_lt (by omega) (by omega)] at q
    omega
  · have h1 : s.vm.findClass ("[" ++ FieldType.char.toString) = some gc := (hK.1.2 1 _ rfl).2
    have h2 : s.vm.findClass ("[" ++ FieldType.char.toString) = some cA := (hK1.2 3 _ rfl).2
    obtain rfl : gc = cA := Option.some.inj (h1.symm.trans h2)
    exact k q H1 hP1 hD1 hS1
theorem zt_newQ (hx : p.tables.exec = Jvm.exec) (hb : c.code = cc) {own : String} {index : Nat} (hown : s.vm.findClass own = some m.cls) (hclink : (Cond.classLink own index RX4).before args s = true) (hK : zK D gi gc gr s) (hP : va_P D vwCl ws H) (hD : va_D A ws) (hS : va_S A H0 H locs) (hA : ∀ q, H0.size ≤ q → A q) {N : Nat} {n : Int} (hn : n = (N : Int)) (hN : N ≤ 1000) (hcells : cells + 1 ≤ R.cells) (hslots : slots + N ≤ R.slots) (hdg : decode cc pc = .ok (.anewarray index, 3))
    (k : ∀ (q : Nat) (H1 : Heap), va_P D vwCl (ws ++ [(q, .inl (gr, N, .inr (.inr (.inr (.inr (fun _ => none))))))]) H1 → va_D A (ws ++ [(q, .inl (gr, N, .inr (.inr (.inr (.inr (fun _ => none))))))]) → va_S A H0 H1 locs → W p l e R s m args below meth c H1 locs (cells + 1) (slots + N) Q (F0 m (pc + 3) ls (.ref q :: rest))) : W p l e R s m args below meth c H locs cells slots Q (F0 m pc ls (.int (iI n) :: rest)) := by
  subst hn
  refine va_newq hx hb hown hclink hK.2.1 hK.1 hP hD hS hA (fun q => ?_) (iI_nat (by omega)) (by omega) hcells hslots hdg (fun q cA H1 hK1 hP1 hD1 hS1 => ?_)
  · rw [← iI_0, iI_lt (by omega) (by omega)] at q
    omega
  · obtain ⟨_, _, _, _, _, h1⟩ := (hK.1.2 2 _ rfl).2
    obtain ⟨_, _, _, _, _, h2⟩ := (hK1.2 3 _ rfl).2
    obtain rfl : gr = cA := Option.some.inj (h1.symm.trans h2)
    exact k q H1 hP1 hD1 hS1
theorem zt_astq {a v : Nat} (hx : p.tables.exec = Jvm.exec) (hb : c.code = cc) (hK : zK D gi gc gr s) (hP : va_P D vwCl ws H) (hD : va_D A ws) (hS : va_S A H0 H locs) (q0 qk : Nat) {n : Nat} {vs : List Value} {f : Nat → Option Nat} (ha : ws[q0]? = some (a, .inl (gr, n, .inr (.inr (.inr (.inr f)))))) (hv : ws[qk]? = some (v, .inr (3, vs))) (hn : n < 2147483648) {i : Int} (h : 0 ≤ i ∧ i < (n : Int)) (hdg : decode cc pc = .ok (.aastore, 1))
    (kk : ∀ (H1 : Heap) (locs1 : List Loc), va_P D vwCl (ws.set q0 (a, .inl (gr, n, .inr (.inr (.inr (.inr (va_up f i.toNat (some v)))))))) H1 → va_D A (ws.set q0 (a, .inl (gr, n, .inr (.inr (.inr (.inr (va_up f i.toNat (some v)))))))) → va_S A H0 H1 locs1 → W p l e R s m args below meth c H1 locs1 cells slots Q (F0 m (pc + 1) ls rest)) : W p l e R s m args below meth c H locs cells slots Q (F0 m pc ls (.ref v :: .int (iI i) :: .ref a :: rest)) := by
  refine va_astq hx hb hK.1 hP hD hS q0 2 qk 3 ha rfl hv rfl (iI_in h hn) hdg (fun H1 locs1 h1 h2 h3 => ?_)
  rw [iI_nat (by omega)] at h1 h2
  exact kk H1 locs1 h1 h2 h3
end ZNW
theorem zt_ref3 {D : va_G} {ws : va_W} {H : Heap} {a n : Nat} {gr : ClassId} {f f2 : Nat → Option Nat} (hP : va_P D vwCl ws H) (q0 : Nat) (h : ws[q0]? = some (a, .inl (gr, n, .inr (.inr (.inr (.inr f)))))) (hf : ∀ j : Nat, j < n → f j = f2 j) : va_P D vwCl (ws.set q0 (a, .inl (gr, n, .inr (.inr (.inr (.inr f2)))))) H := by
  have hl := (List.getElem?_eq_some_iff.mp h).1
  intro k q hk
  by_cases e : k = q0
  · subst e
    rw [List.getElem?_set_self hl] at hk
    cases hk
    have h1 := hP k _ h
    show H[a]? = some (arrV gr n (fun j => va_rf (f2 j)))
    rw [← arrV_congr (f := fun j => va_rf (f j)) (fun j hj => congrArg va_rf (hf j hj))]
    exact h1
  · rw [List.getElem?_set_ne (Ne.symm e)] at hk
    exact hP k q hk

set_option maxHeartbeats 4000000 in
set_option maxRecDepth 100000 in
theorem c_X4_init (l : Launch) (D : va_G) (gi gc gr : ClassId) (sz : Nat) (r : Nat) (n : Nat) (hn : n ≤ 1000) : Met l yX4_init wsX4_init { frames := 1, cells := 1, slots := n, locals := 21 } (zPw D gi gc gr [(r, .inr (3, [.null, .int (iI 0)]))] sz [.ref r, .int (iI (n : Int))]) (va_Qv (S := Nat) (fun _ => True) (zB D (va_A [(r, .inr (3, [.null, .int (iI 0)]))] sz) (fun u => [(r, .inr (3, [.ref u, .int (iI 0)])), (u, aI gi n (fun _ => 0))])) (va_A [(r, .inr (3, [.null, .int (iI 0)]))] sz)) 1 n (va_A [(r, .inr (3, [.null, .int (iI 0)]))] sz) := by
  refine zt_metWv (own := RX4) (cc := cX4_init) (maxL := 2) (by decide) rfl rfl (Nat.le_of_ble_eq_true rfl) ?_
  intro p e s m args below meth c Q A C hK hP hD hS hA hin0 hQ ls hl
  have hin := hin0 rfl
  have hx := C.1
  have hb := C.2.1
  have hml := C.2.2.1
  have hown := C.2.2.2.1
  have hts := C.2.2.2.2
  have i4 : ∀ w ∈ u_ws RX4 TX4 2, w ∈ wsX4_init := by decide +kernel
  have f15 := hts (.fieldLink RX4 15 "Threetwo$Row" "items" "[I") (by decide +kernel)
  have f21 := hts (.fieldLink RX4 21 "Threetwo$Row" "told" "I") (by decide +kernel)
  have hl : lv_has ls 2 [(0, .ref r), (1, .int (iI (n : Int)))] := hl
  refine lv_aload_n hx hb dX4_init_0 rfl (lv_at hl 0 rfl) ?_
  refine W.objInit hx hb hown (hts (.methodLink RX4 3 objectInit) (by decide +kernel)) (hts (.instanceMethod objectInit) (by decide +kernel)) (hts _ (List.mem_of_getElem? (i := 3) rfl)) rfl (by rw [hml]; exact hl.1) rfl dX4_init_1 (Nat.le_of_ble_eq_true rfl) (Nat.le_of_ble_eq_true rfl) ?_
  refine W.eq (g2 := F0 m 4 ls []) rfl ?_
  refine lv_aload_n hx hb dX4_init_4 rfl (lv_at hl 0 rfl) ?_
  refine lv_iload_n hx hb dX4_init_5 rfl (lv_at hl 1 rfl) ?_
  refine lv_iconst (v := iI (0)) hx hb dX4_init_6 (by decide +kernel) ?_
  refine zt_mmax hx hb (hml.trans hl.1.symm) hown (hts (.methodLink RX4 9 Lib.Math.max.name) (by decide +kernel)) (hts (.static Lib.Math.max.name) (by decide +kernel)) (hts (.initialized "java/lang/Math") (by decide +kernel)) (hts (.code Lib.Math.max.name Lib.Math.max.code 2 (some .int)) (by decide +kernel)) (Nat.le_of_ble_eq_true rfl) (Nat.le_of_ble_eq_true rfl) (Nat.le_of_ble_eq_true rfl) (Nat.le_of_ble_eq_true rfl) (by omega) dX4_init_7 (fun m_1 em_1 => ?_)
  refine zt_newI hx hb (hts (.arrayClass .int) (by decide +kernel)) hK hP hD hS hA (N := n) (by rw [em_1, if_neg (by omega)]) (by omega) (Nat.le_of_ble_eq_true rfl) (by show 0 + n ≤ n; omega) dX4_init_10 (fun v_2 H hP hD hS => ?_)
  have hP : va_P D vwCl [(r, .inr (3, [.null, .int (iI 0)])), (v_2, aI gi n (fun _ => 0))] H := hP
  have hD : va_D A [(r, .inr (3, [.null, .int (iI 0)])), (v_2, aI gi n (fun _ => 0))] := hD
  refine va_putF (D := D) (ci := 3) (v := .ref v_2) (ty := .array .int) (C := RX4) (T := TX4) (N := 2) hx hb hts i4 tyX4 tyX4_ok nmX4 hown hK.1 hP hD hS 0 rfl rfl 0 (by decide) f15 (fun _ h9 => h9) rfl hin rfl (by decide +kernel) rfl rfl (Nat.le_of_ble_eq_true rfl) dX4_init_12 (fun H locs hP hD hS => ?_)
  have hP : va_P D vwCl [(r, .inr (3, [.ref v_2, .int (iI 0)])), (v_2, aI gi n (fun _ => 0))] H := hP
  have hD : va_D A [(r, .inr (3, [.ref v_2, .int (iI 0)])), (v_2, aI gi n (fun _ => 0))] := hD
  refine lv_aload_n hx hb dX4_init_15 rfl (lv_at hl 0 rfl) ?_
  refine lv_iconst (v := iI (0)) hx hb dX4_init_16 (by decide +kernel) ?_
  refine va_put (D := D) (ci := 3) (v := .int (iI 0)) (ty := .int) (C := RX4) (T := TX4) (N := 2) hx hb hts i4 tyX4 tyX4_ok nmX4 hown hK.1 hP hD hS 0 rfl rfl 1 (by decide) f21 (fun _ h9 => h9) rfl (by decide +kernel) rfl rfl (Nat.le_of_ble_eq_true rfl) dX4_init_17 (fun H locs hP hD hS => ?_)
  have hP : va_P D vwCl [(r, .inr (3, [.ref v_2, .int (iI 0)])), (v_2, aI gi n (fun _ => 0))] H := hP
  have hD : va_D A [(r, .inr (3, [.ref v_2, .int (iI 0)])), (v_2, aI gi n (fun _ => 0))] := hD
  refine W.widen (k := 1) (n := n) (by omega) (by omega) ?_
  exact hQ v_2 _ _ _ _ (by trivial) hP hD hS dX4_init_20
set_option maxHeartbeats 4000000 in
set_option maxRecDepth 100000 in
theorem c_X5_init (l : Launch) (D : va_G) (gi gc gr : ClassId) (sz : Nat) (d : Nat) : Met l yX5_init wsX5_init { frames := 2, cells := 7, slots := 1208, locals := 42 } (zPw D gi gc gr [(d, .inr (4, [.null, .null, .null, .null, .null, .int (iI 0)]))] sz [.ref d]) (va_Qv (S := Nat × Nat × Nat × Nat × Nat × Nat × Nat) (fun _ => True) (zB D (va_A [(d, .inr (4, [.null, .null, .null, .null, .null, .int (iI 0)]))] sz) (fun u => [(d, .inr (4, [.ref u.1, .ref u.2.2.1, .ref u.2.2.2.2.1, .ref u.2.2.2.2.2.1, .ref u.2.2.2.2.2.2, .int (iI 0)])), (u.1, .inr (3, [.ref u.2.1, .int (iI 0)])), (u.2.1, aI gi 60 (fun _ => 0)), (u.2.2.1, .inr (3, [.ref u.2.2.2.1, .int (iI 0)])), (u.2.2.2.1, aI gi 60 (fun _ => 0)), (u.2.2.2.2.1, aI gi 512 (fun _ => 0)), (u.2.2.2.2.2.1, aI gi 512 (fun _ => 0)), (u.2.2.2.2.2.2, .inl (gc, 60, .inl (fun _ => 0)))])) (va_A [(d, .inr (4, [.null, .null, .null, .null, .null, .int (iI 0)]))] sz)) 7 1208 (va_A [(d, .inr (4, [.null, .null, .null, .null, .null, .int (iI 0)]))] sz) := by
  refine zt_metWv (own := RX5) (cc := cX5_init) (maxL := 1) (by decide) rfl rfl (Nat.le_of_ble_eq_true rfl) ?_
  intro p e s m args below meth c Q A C hK hP hD hS hA hin0 hQ ls hl
  have hin := hin0 rfl
  have hx := C.1
  have hb := C.2.1
  have hml := C.2.2.1
  have hown := C.2.2.2.1
  have hts := C.2.2.2.2
  have i4 : ∀ w ∈ u_ws RX4 TX4 2, w ∈ wsX5_init := by decide +kernel
  have i5 : ∀ w ∈ u_ws RX5 TX5 6, w ∈ wsX5_init := by decide +kernel
  have f14 := hts (.fieldLink RX5 14 "Threetwo$Strip" "looks" "LThreetwo$Row;") (by decide +kernel)
  have f20 := hts (.fieldLink RX5 20 "Threetwo$Strip" "rest" "LThreetwo$Row;") (by decide +kernel)
  have f23 := hts (.fieldLink RX5 23 "Threetwo$Strip" "noteFields" "[I") (by decide +kernel)
  have f27 := hts (.fieldLink RX5 27 "Threetwo$Strip" "noteLooks" "[I") (by decide +kernel)
  have f30 := hts (.fieldLink RX5 30 "Threetwo$Strip" "signs" "[C") (by decide +kernel)
  have f34 := hts (.fieldLink RX5 34 "Threetwo$Strip" "notes" "I") (by decide +kernel)
  have hl : lv_has ls 1 [(0, .ref d)] := hl
  refine lv_aload_n hx hb dX5_init_0 rfl (lv_at hl 0 rfl) ?_
  refine W.objInit hx hb hown (hts (.methodLink RX5 3 objectInit) (by decide +kernel)) (hts (.instanceMethod objectInit) (by decide +kernel)) (hts _ (List.mem_of_getElem? (i := 3) rfl)) rfl (by rw [hml]; exact hl.1) rfl dX5_init_1 (Nat.le_of_ble_eq_true rfl) (Nat.le_of_ble_eq_true rfl) ?_
  refine W.eq (g2 := F0 m 4 ls []) rfl ?_
  refine lv_aload_n hx hb dX5_init_4 rfl (lv_at hl 0 rfl) ?_
  refine va_new (ci := 3) (fs := [.null, .int 0]) (C := RX4) (T := TX4) (N := 2) hx hb hts i4 tyX4 tyX4_ok hown (hts (.classLink RX5 9 RX4) (by decide +kernel)) (hts (.instantiable RX4 2) (by decide +kernel)) (hts (.initialized RX4) (by decide +kernel)) hK.1 hP hD hS hA rfl (fun j hj => by rcases (show j = 0 ∨ j = 1 by omega) with rfl | rfl <;> rfl) (Nat.le_of_ble_eq_true rfl) (Nat.le_of_ble_eq_true rfl) dX5_init_5 (fun v_1 H hP hD hS => ?_)
  have hP : va_P D vwCl [(d, .inr (4, [.null, .null, .null, .null, .null, .int (iI 0)])), (v_1, .inr (3, [.null, .int (iI 0)]))] H := hP
  have hD : va_D A [(d, .inr (4, [.null, .null, .null, .null, .null, .int (iI 0)])), (v_1, .inr (3, [.null, .int (iI 0)]))] := hD
  refine lv_dup hx hb dX5_init_8 rfl ?_
  refine lv_bipush (v := iI (60)) hx hb dX5_init_9 (by decide +kernel) ?_
  have hPc := hP.sub (ws' := [(v_1, .inr (3, [.null, .int (iI 0)]))]) [1] rfl
  have hDc := hD.sub (ws' := [(v_1, .inr (3, [.null, .int (iI 0)]))]) [1] (by decide) rfl
  have hFc := va_free (wc := [(v_1, .inr (3, [.null, .int (iI 0)]))]) hD hS hA [1] rfl
  refine va_callv (va_runI C (As := [.int (iI 60)]) (rest := [.ref v_1, .ref d]) (c_X4_init l D gi gc gr H.size v_1 60 (by first | omega | assumption)) (cwI 1 hts gX5_init_X4_init rfl rfl rfl (hts (.initialized RX4) (by decide +kernel)) (hts (.methodLink RX5 11 yX4_init) (by decide +kernel)) (hts (.instanceMethod yX4_init) (by decide +kernel)) rfl (by decide +kernel) ⟨Nat.le_of_ble_eq_true rfl, Nat.le_of_ble_eq_true rfl⟩) (zt_preSw hK hPc hDc (Value.ref v_1 :: [.int (iI 60)])) rfl rfl hl.1 rfl (lv_room (Nat.le_of_ble_eq_true rfl)) dX5_init_11 ⟨Nat.le_of_ble_eq_true rfl, Nat.le_of_ble_eq_true rfl⟩) hS (fun q _ h => hFc q h) hFc (fun u_r_2 T9 H1 locs hT9 hvm hw hB hz1 hk1 hS => ?_)
  obtain ⟨hP1, hD1⟩ := hB
  rw [hT9] at hP1
  obtain ⟨hP, hD⟩ := zt_back (w1 := [(v_1, .inr (3, [.ref u_r_2, .int (iI 0)])), (u_r_2, aI gi 60 (fun _ => 0))]) (wr := [(d, .inr (4, [.null, .null, .null, .null, .null, .int (iI 0)]))]) (wn := [(d, .inr (4, [.null, .null, .null, .null, .null, .int (iI 0)])), (v_1, .inr (3, [.ref u_r_2, .int (iI 0)])), (u_r_2, aI gi 60 (fun _ => 0))]) hP hD [1] [0] [0, 1, 2] rfl rfl (by decide) (by decide) hk1 hFc hP1 hD1 rfl (by decide)
  generalize H1 = H at hP hS ⊢
  refine va_putF (D := D) (ci := 4) (v := .ref v_1) (ty := .object "Threetwo$Row") (C := RX5) (T := TX5) (N := 6) hx hb hts i5 tyX5 tyX5_ok nmX5 hown hK.1 hP hD hS 0 rfl rfl 0 (by decide) f14 (fun _ h9 => h9) rfl hin rfl (by decide +kernel) rfl rfl (Nat.le_of_ble_eq_true rfl) dX5_init_14 (fun H locs hP hD hS => ?_)
  have hP : va_P D vwCl [(d, .inr (4, [.ref v_1, .null, .null, .null, .null, .int (iI 0)])), (v_1, .inr (3, [.ref u_r_2, .int (iI 0)])), (u_r_2, aI gi 60 (fun _ => 0))] H := hP
  have hD : va_D A [(d, .inr (4, [.ref v_1, .null, .null, .null, .null, .int (iI 0)])), (v_1, .inr (3, [.ref u_r_2, .int (iI 0)])), (u_r_2, aI gi 60 (fun _ => 0))] := hD
  refine lv_aload_n hx hb dX5_init_17 rfl (lv_at hl 0 rfl) ?_
  refine va_new (ci := 3) (fs := [.null, .int 0]) (C := RX4) (T := TX4) (N := 2) hx hb hts i4 tyX4 tyX4_ok hown (hts (.classLink RX5 9 RX4) (by decide +kernel)) (hts (.instantiable RX4 2) (by decide +kernel)) (hts (.initialized RX4) (by decide +kernel)) hK.1 hP hD hS hA rfl (fun j hj => by rcases (show j = 0 ∨ j = 1 by omega) with rfl | rfl <;> rfl) (Nat.le_of_ble_eq_true rfl) (Nat.le_of_ble_eq_true rfl) dX5_init_18 (fun v_3 H hP hD hS => ?_)
  have hP : va_P D vwCl [(d, .inr (4, [.ref v_1, .null, .null, .null, .null, .int (iI 0)])), (v_1, .inr (3, [.ref u_r_2, .int (iI 0)])), (u_r_2, aI gi 60 (fun _ => 0)), (v_3, .inr (3, [.null, .int (iI 0)]))] H := hP
  have hD : va_D A [(d, .inr (4, [.ref v_1, .null, .null, .null, .null, .int (iI 0)])), (v_1, .inr (3, [.ref u_r_2, .int (iI 0)])), (u_r_2, aI gi 60 (fun _ => 0)), (v_3, .inr (3, [.null, .int (iI 0)]))] := hD
  refine lv_dup hx hb dX5_init_21 rfl ?_
  refine lv_bipush (v := iI (60)) hx hb dX5_init_22 (by decide +kernel) ?_
  have hPc := hP.sub (ws' := [(v_3, .inr (3, [.null, .int (iI 0)]))]) [3] rfl
  have hDc := hD.sub (ws' := [(v_3, .inr (3, [.null, .int (iI 0)]))]) [3] (by decide) rfl
  have hFc := va_free (wc := [(v_3, .inr (3, [.null, .int (iI 0)]))]) hD hS hA [3] rfl
  refine va_callv (va_runI C (As := [.int (iI 60)]) (rest := [.ref v_3, .ref d]) (c_X4_init l D gi gc gr H.size v_3 60 (by first | omega | assumption)) (cwI 1 hts gX5_init_X4_init rfl rfl rfl (hts (.initialized RX4) (by decide +kernel)) (hts (.methodLink RX5 11 yX4_init) (by decide +kernel)) (hts (.instanceMethod yX4_init) (by decide +kernel)) rfl (by decide +kernel) ⟨Nat.le_of_ble_eq_true rfl, Nat.le_of_ble_eq_true rfl⟩) (zt_preSw hK hPc hDc (Value.ref v_3 :: [.int (iI 60)])) rfl rfl hl.1 rfl (lv_room (Nat.le_of_ble_eq_true rfl)) dX5_init_24 ⟨Nat.le_of_ble_eq_true rfl, Nat.le_of_ble_eq_true rfl⟩) hS (fun q _ h => hFc q h) hFc (fun u_r_4 T9 H1 locs hT9 hvm hw hB hz1 hk1 hS => ?_)
  obtain ⟨hP1, hD1⟩ := hB
  rw [hT9] at hP1
  obtain ⟨hP, hD⟩ := zt_back (w1 := [(v_3, .inr (3, [.ref u_r_4, .int (iI 0)])), (u_r_4, aI gi 60 (fun _ => 0))]) (wr := [(d, .inr (4, [.ref v_1, .null, .null, .null, .null, .int (iI 0)])), (v_1, .inr (3, [.ref u_r_2, .int (iI 0)])), (u_r_2, aI gi 60 (fun _ => 0))]) (wn := [(d, .inr (4, [.ref v_1, .null, .null, .null, .null, .int (iI 0)])), (v_1, .inr (3, [.ref u_r_2, .int (iI 0)])), (u_r_2, aI gi 60 (fun _ => 0)), (v_3, .inr (3, [.ref u_r_4, .int (iI 0)])), (u_r_4, aI gi 60 (fun _ => 0))]) hP hD [3] [0, 1, 2] [0, 1, 2, 3, 4] rfl rfl (by decide) (by decide) hk1 hFc hP1 hD1 rfl (by decide)
  generalize H1 = H at hP hS ⊢
  refine va_putF (D := D) (ci := 4) (v := .ref v_3) (ty := .object "Threetwo$Row") (C := RX5) (T := TX5) (N := 6) hx hb hts i5 tyX5 tyX5_ok nmX5 hown hK.1 hP hD hS 0 rfl rfl 1 (by decide) f20 (fun _ h9 => h9) rfl hin rfl (by decide +kernel) rfl rfl (Nat.le_of_ble_eq_true rfl) dX5_init_27 (fun H locs hP hD hS => ?_)
  have hP : va_P D vwCl [(d, .inr (4, [.ref v_1, .ref v_3, .null, .null, .null, .int (iI 0)])), (v_1, .inr (3, [.ref u_r_2, .int (iI 0)])), (u_r_2, aI gi 60 (fun _ => 0)), (v_3, .inr (3, [.ref u_r_4, .int (iI 0)])), (u_r_4, aI gi 60 (fun _ => 0))] H := hP
  have hD : va_D A [(d, .inr (4, [.ref v_1, .ref v_3, .null, .null, .null, .int (iI 0)])), (v_1, .inr (3, [.ref u_r_2, .int (iI 0)])), (u_r_2, aI gi 60 (fun _ => 0)), (v_3, .inr (3, [.ref u_r_4, .int (iI 0)])), (u_r_4, aI gi 60 (fun _ => 0))] := hD
  refine lv_aload_n hx hb dX5_init_30 rfl (lv_at hl 0 rfl) ?_
  refine lv_sipush (v := iI (512)) hx hb dX5_init_31 (by decide +kernel) ?_
  refine zt_newI hx hb (hts (.arrayClass .int) (by decide +kernel)) hK hP hD hS hA (N := 512) (rfl) (by decide) (Nat.le_of_ble_eq_true rfl) (Nat.le_of_ble_eq_true rfl) dX5_init_34 (fun v_5 H hP hD hS => ?_)
  have hP : va_P D vwCl [(d, .inr (4, [.ref v_1, .ref v_3, .null, .null, .null, .int (iI 0)])), (v_1, .inr (3, [.ref u_r_2, .int (iI 0)])), (u_r_2, aI gi 60 (fun _ => 0)), (v_3, .inr (3, [.ref u_r_4, .int (iI 0)])), (u_r_4, aI gi 60 (fun _ => 0)), (v_5, aI gi 512 (fun _ => 0))] H := hP
  have hD : va_D A [(d, .inr (4, [.ref v_1, .ref v_3, .null, .null, .null, .int (iI 0)])), (v_1, .inr (3, [.ref u_r_2, .int (iI 0)])), (u_r_2, aI gi 60 (fun _ => 0)), (v_3, .inr (3, [.ref u_r_4, .int (iI 0)])), (u_r_4, aI gi 60 (fun _ => 0)), (v_5, aI gi 512 (fun _ => 0))] := hD
  refine va_putF (D := D) (ci := 4) (v := .ref v_5) (ty := .array .int) (C := RX5) (T := TX5) (N := 6) hx hb hts i5 tyX5 tyX5_ok nmX5 hown hK.1 hP hD hS 0 rfl rfl 2 (by decide) f23 (fun _ h9 => h9) rfl hin rfl (by decide +kernel) rfl rfl (Nat.le_of_ble_eq_true rfl) dX5_init_36 (fun H locs hP hD hS => ?_)
  have hP : va_P D vwCl [(d, .inr (4, [.ref v_1, .ref v_3, .ref v_5, .null, .null, .int (iI 0)])), (v_1, .inr (3, [.ref u_r_2, .int (iI 0)])), (u_r_2, aI gi 60 (fun _ => 0)), (v_3, .inr (3, [.ref u_r_4, .int (iI 0)])), (u_r_4, aI gi 60 (fun _ => 0)), (v_5, aI gi 512 (fun _ => 0))] H := hP
  have hD : va_D A [(d, .inr (4, [.ref v_1, .ref v_3, .ref v_5, .null, .null, .int (iI 0)])), (v_1, .inr (3, [.ref u_r_2, .int (iI 0)])), (u_r_2, aI gi 60 (fun _ => 0)), (v_3, .inr (3, [.ref u_r_4, .int (iI 0)])), (u_r_4, aI gi 60 (fun _ => 0)), (v_5, aI gi 512 (fun _ => 0))] := hD
  refine lv_aload_n hx hb dX5_init_39 rfl (lv_at hl 0 rfl) ?_
  refine lv_sipush (v := iI (512)) hx hb dX5_init_40 (by decide +kernel) ?_
  refine zt_newI hx hb (hts (.arrayClass .int) (by decide +kernel)) hK hP hD hS hA (N := 512) (rfl) (by decide) (Nat.le_of_ble_eq_true rfl) (Nat.le_of_ble_eq_true rfl) dX5_init_43 (fun v_6 H hP hD hS => ?_)
  have hP : va_P D vwCl [(d, .inr (4, [.ref v_1, .ref v_3, .ref v_5, .null, .null, .int (iI 0)])), (v_1, .inr (3, [.ref u_r_2, .int (iI 0)])), (u_r_2, aI gi 60 (fun _ => 0)), (v_3, .inr (3, [.ref u_r_4, .int (iI 0)])), (u_r_4, aI gi 60 (fun _ => 0)), (v_5, aI gi 512 (fun _ => 0)), (v_6, aI gi 512 (fun _ => 0))] H := hP
  have hD : va_D A [(d, .inr (4, [.ref v_1, .ref v_3, .ref v_5, .null, .null, .int (iI 0)])), (v_1, .inr (3, [.ref u_r_2, .int (iI 0)])), (u_r_2, aI gi 60 (fun _ => 0)), (v_3, .inr (3, [.ref u_r_4, .int (iI 0)])), (u_r_4, aI gi 60 (fun _ => 0)), (v_5, aI gi 512 (fun _ => 0)), (v_6, aI gi 512 (fun _ => 0))] := hD
  refine va_putF (D := D) (ci := 4) (v := .ref v_6) (ty := .array .int) (C := RX5) (T := TX5) (N := 6) hx hb hts i5 tyX5 tyX5_ok nmX5 hown hK.1 hP hD hS 0 rfl rfl 3 (by decide) f27 (fun _ h9 => h9) rfl hin rfl (by decide +kernel) rfl rfl (Nat.le_of_ble_eq_true rfl) dX5_init_45 (fun H locs hP hD hS => ?_)
  have hP : va_P D vwCl [(d, .inr (4, [.ref v_1, .ref v_3, .ref v_5, .ref v_6, .null, .int (iI 0)])), (v_1, .inr (3, [.ref u_r_2, .int (iI 0)])), (u_r_2, aI gi 60 (fun _ => 0)), (v_3, .inr (3, [.ref u_r_4, .int (iI 0)])), (u_r_4, aI gi 60 (fun _ => 0)), (v_5, aI gi 512 (fun _ => 0)), (v_6, aI gi 512 (fun _ => 0))] H := hP
  have hD : va_D A [(d, .inr (4, [.ref v_1, .ref v_3, .ref v_5, .ref v_6, .null, .int (iI 0)])), (v_1, .inr (3, [.ref u_r_2, .int (iI 0)])), (u_r_2, aI gi 60 (fun _ => 0)), (v_3, .inr (3, [.ref u_r_4, .int (iI 0)])), (u_r_4, aI gi 60 (fun _ => 0)), (v_5, aI gi 512 (fun _ => 0)), (v_6, aI gi 512 (fun _ => 0))] := hD
  refine lv_aload_n hx hb dX5_init_48 rfl (lv_at hl 0 rfl) ?_
  refine lv_bipush (v := iI (60)) hx hb dX5_init_49 (by decide +kernel) ?_
  refine zt_newC hx hb (hts (.arrayClass .char) (by decide +kernel)) hK hP hD hS hA (N := 60) (rfl) (by decide) (Nat.le_of_ble_eq_true rfl) (Nat.le_of_ble_eq_true rfl) dX5_init_51 (fun v_7 H hP hD hS => ?_)
  have hP : va_P D vwCl [(d, .inr (4, [.ref v_1, .ref v_3, .ref v_5, .ref v_6, .null, .int (iI 0)])), (v_1, .inr (3, [.ref u_r_2, .int (iI 0)])), (u_r_2, aI gi 60 (fun _ => 0)), (v_3, .inr (3, [.ref u_r_4, .int (iI 0)])), (u_r_4, aI gi 60 (fun _ => 0)), (v_5, aI gi 512 (fun _ => 0)), (v_6, aI gi 512 (fun _ => 0)), (v_7, .inl (gc, 60, .inl (fun _ => 0)))] H := hP
  have hD : va_D A [(d, .inr (4, [.ref v_1, .ref v_3, .ref v_5, .ref v_6, .null, .int (iI 0)])), (v_1, .inr (3, [.ref u_r_2, .int (iI 0)])), (u_r_2, aI gi 60 (fun _ => 0)), (v_3, .inr (3, [.ref u_r_4, .int (iI 0)])), (u_r_4, aI gi 60 (fun _ => 0)), (v_5, aI gi 512 (fun _ => 0)), (v_6, aI gi 512 (fun _ => 0)), (v_7, .inl (gc, 60, .inl (fun _ => 0)))] := hD
  refine va_putF (D := D) (ci := 4) (v := .ref v_7) (ty := .array .char) (C := RX5) (T := TX5) (N := 6) hx hb hts i5 tyX5 tyX5_ok nmX5 hown hK.1 hP hD hS 0 rfl rfl 4 (by decide) f30 (fun _ h9 => h9) rfl hin rfl (by decide +kernel) rfl rfl (Nat.le_of_ble_eq_true rfl) dX5_init_53 (fun H locs hP hD hS => ?_)
  have hP : va_P D vwCl [(d, .inr (4, [.ref v_1, .ref v_3, .ref v_5, .ref v_6, .ref v_7, .int (iI 0)])), (v_1, .inr (3, [.ref u_r_2, .int (iI 0)])), (u_r_2, aI gi 60 (fun _ => 0)), (v_3, .inr (3, [.ref u_r_4, .int (iI 0)])), (u_r_4, aI gi 60 (fun _ => 0)), (v_5, aI gi 512 (fun _ => 0)), (v_6, aI gi 512 (fun _ => 0)), (v_7, .inl (gc, 60, .inl (fun _ => 0)))] H := hP
  have hD : va_D A [(d, .inr (4, [.ref v_1, .ref v_3, .ref v_5, .ref v_6, .ref v_7, .int (iI 0)])), (v_1, .inr (3, [.ref u_r_2, .int (iI 0)])), (u_r_2, aI gi 60 (fun _ => 0)), (v_3, .inr (3, [.ref u_r_4, .int (iI 0)])), (u_r_4, aI gi 60 (fun _ => 0)), (v_5, aI gi 512 (fun _ => 0)), (v_6, aI gi 512 (fun _ => 0)), (v_7, .inl (gc, 60, .inl (fun _ => 0)))] := hD
  refine lv_aload_n hx hb dX5_init_56 rfl (lv_at hl 0 rfl) ?_
  refine lv_iconst (v := iI (0)) hx hb dX5_init_57 (by decide +kernel) ?_
  refine va_put (D := D) (ci := 4) (v := .int (iI 0)) (ty := .int) (C := RX5) (T := TX5) (N := 6) hx hb hts i5 tyX5 tyX5_ok nmX5 hown hK.1 hP hD hS 0 rfl rfl 5 (by decide) f34 (fun _ h9 => h9) rfl (by decide +kernel) rfl rfl (Nat.le_of_ble_eq_true rfl) dX5_init_58 (fun H locs hP hD hS => ?_)
  have hP : va_P D vwCl [(d, .inr (4, [.ref v_1, .ref v_3, .ref v_5, .ref v_6, .ref v_7, .int (iI 0)])), (v_1, .inr (3, [.ref u_r_2, .int (iI 0)])), (u_r_2, aI gi 60 (fun _ => 0)), (v_3, .inr (3, [.ref u_r_4, .int (iI 0)])), (u_r_4, aI gi 60 (fun _ => 0)), (v_5, aI gi 512 (fun _ => 0)), (v_6, aI gi 512 (fun _ => 0)), (v_7, .inl (gc, 60, .inl (fun _ => 0)))] H := hP
  have hD : va_D A [(d, .inr (4, [.ref v_1, .ref v_3, .ref v_5, .ref v_6, .ref v_7, .int (iI 0)])), (v_1, .inr (3, [.ref u_r_2, .int (iI 0)])), (u_r_2, aI gi 60 (fun _ => 0)), (v_3, .inr (3, [.ref u_r_4, .int (iI 0)])), (u_r_4, aI gi 60 (fun _ => 0)), (v_5, aI gi 512 (fun _ => 0)), (v_6, aI gi 512 (fun _ => 0)), (v_7, .inl (gc, 60, .inl (fun _ => 0)))] := hD
  refine W.widen (k := 7) (n := 1208) (by omega) (by omega) ?_
  exact hQ (v_1, u_r_2, v_3, u_r_4, v_5, v_6, v_7) _ _ _ _ (by trivial) hP hD hS dX5_init_61
set_option maxHeartbeats 4000000 in
set_option maxRecDepth 100000 in
theorem c_X3_init (l : Launch) (D : va_G) (gi gc gr : ClassId) (sz : Nat) (o : Nat) : Met l yX3_init wsX3_init { frames := 1, cells := 6, slots := 600, locals := 20 } (zPw D gi gc gr [(o, .inr (2, [.null, .null, .null, .null, .null, .null, .int (iI 0), .int (iI 0), .int (iI 0)]))] sz [.ref o]) (va_Qv (S := Nat × Nat × Nat × Nat × Nat × Nat) (fun _ => True) (zB D (va_A [(o, .inr (2, [.null, .null, .null, .null, .null, .null, .int (iI 0), .int (iI 0), .int (iI 0)]))] sz) (fun u => [(o, .inr (2, [.ref u.1, .ref u.2.1, .ref u.2.2.1, .ref u.2.2.2.1, .ref u.2.2.2.2.1, .ref u.2.2.2.2.2, .int (iI 0), .int (iI 0), .int (iI 0)])), (u.1, aI gi 300 (fun _ => 0)), (u.2.1, aI gi 60 (fun _ => 0)), (u.2.2.1, aI gi 60 (fun _ => 0)), (u.2.2.2.1, aI gi 60 (fun _ => 0)), (u.2.2.2.2.1, aI gi 60 (fun _ => 0)), (u.2.2.2.2.2, aI gi 60 (fun _ => 0))])) (va_A [(o, .inr (2, [.null, .null, .null, .null, .null, .null, .int (iI 0), .int (iI 0), .int (iI 0)]))] sz)) 6 600 (va_A [(o, .inr (2, [.null, .null, .null, .null, .null, .null, .int (iI 0), .int (iI 0), .int (iI 0)]))] sz) := by
  refine zt_metWv (own := RX3) (cc := cX3_init) (maxL := 1) (by decide) rfl rfl (Nat.le_of_ble_eq_true rfl) ?_
  intro p e s m args below meth c Q A C hK hP hD hS hA hin0 hQ ls hl
  have hin := hin0 rfl
  have hx := C.1
  have hb := C.2.1
  have hml := C.2.2.1
  have hown := C.2.2.2.1
  have hts := C.2.2.2.2
  have i3 : ∀ w ∈ u_ws RX3 TX3 9, w ∈ wsX3_init := by decide +kernel
  have f11 := hts (.fieldLink RX3 11 "Threetwo$Rhythm" "behind" "[I") (by decide +kernel)
  have f15 := hts (.fieldLink RX3 15 "Threetwo$Rhythm" "places" "[I") (by decide +kernel)
  have f18 := hts (.fieldLink RX3 18 "Threetwo$Rhythm" "frameOf" "[I") (by decide +kernel)
  have f21 := hts (.fieldLink RX3 21 "Threetwo$Rhythm" "firsts" "[I") (by decide +kernel)
  have f24 := hts (.fieldLink RX3 24 "Threetwo$Rhythm" "lengths" "[I") (by decide +kernel)
  have f27 := hts (.fieldLink RX3 27 "Threetwo$Rhythm" "frameLooks" "[I") (by decide +kernel)
  have f30 := hts (.fieldLink RX3 30 "Threetwo$Rhythm" "cost" "I") (by decide +kernel)
  have f34 := hts (.fieldLink RX3 34 "Threetwo$Rhythm" "frames" "I") (by decide +kernel)
  have f37 := hts (.fieldLink RX3 37 "Threetwo$Rhythm" "known" "Z") (by decide +kernel)
  have hl : lv_has ls 1 [(0, .ref o)] := hl
  refine lv_aload_n hx hb dX3_init_0 rfl (lv_at hl 0 rfl) ?_
  refine W.objInit hx hb hown (hts (.methodLink RX3 3 objectInit) (by decide +kernel)) (hts (.instanceMethod objectInit) (by decide +kernel)) (hts _ (List.mem_of_getElem? (i := 3) rfl)) rfl (by rw [hml]; exact hl.1) rfl dX3_init_1 (Nat.le_of_ble_eq_true rfl) (Nat.le_of_ble_eq_true rfl) ?_
  refine W.eq (g2 := F0 m 4 ls []) rfl ?_
  refine lv_aload_n hx hb dX3_init_4 rfl (lv_at hl 0 rfl) ?_
  refine lv_sipush (v := iI (300)) hx hb dX3_init_5 (by decide +kernel) ?_
  refine zt_newI hx hb (hts (.arrayClass .int) (by decide +kernel)) hK hP hD hS hA (N := 300) (rfl) (by decide) (Nat.le_of_ble_eq_true rfl) (Nat.le_of_ble_eq_true rfl) dX3_init_8 (fun v_1 H hP hD hS => ?_)
  have hP : va_P D vwCl [(o, .inr (2, [.null, .null, .null, .null, .null, .null, .int (iI 0), .int (iI 0), .int (iI 0)])), (v_1, aI gi 300 (fun _ => 0))] H := hP
  have hD : va_D A [(o, .inr (2, [.null, .null, .null, .null, .null, .null, .int (iI 0), .int (iI 0), .int (iI 0)])), (v_1, aI gi 300 (fun _ => 0))] := hD
  refine va_putF (D := D) (ci := 2) (v := .ref v_1) (ty := .array .int) (C := RX3) (T := TX3) (N := 9) hx hb hts i3 tyX3 tyX3_ok nmX3 hown hK.1 hP hD hS 0 rfl rfl 0 (by decide) f11 (fun _ h9 => h9) rfl hin rfl (by decide +kernel) rfl rfl (Nat.le_of_ble_eq_true rfl) dX3_init_10 (fun H locs hP hD hS => ?_)
  have hP : va_P D vwCl [(o, .inr (2, [.ref v_1, .null, .null, .null, .null, .null, .int (iI 0), .int (iI 0), .int (iI 0)])), (v_1, aI gi 300 (fun _ => 0))] H := hP
  have hD : va_D A [(o, .inr (2, [.ref v_1, .null, .null, .null, .null, .null, .int (iI 0), .int (iI 0), .int (iI 0)])), (v_1, aI gi 300 (fun _ => 0))] := hD
  refine lv_aload_n hx hb dX3_init_13 rfl (lv_at hl 0 rfl) ?_
  refine lv_bipush (v := iI (60)) hx hb dX3_init_14 (by decide +kernel) ?_
  refine zt_newI hx hb (hts (.arrayClass .int) (by decide +kernel)) hK hP hD hS hA (N := 60) (rfl) (by decide) (Nat.le_of_ble_eq_true rfl) (Nat.le_of_ble_eq_true rfl) dX3_init_16 (fun v_2 H hP hD hS => ?_)
  have hP : va_P D vwCl [(o, .inr (2, [.ref v_1, .null, .null, .null, .null, .null, .int (iI 0), .int (iI 0), .int (iI 0)])), (v_1, aI gi 300 (fun _ => 0)), (v_2, aI gi 60 (fun _ => 0))] H := hP
  have hD : va_D A [(o, .inr (2, [.ref v_1, .null, .null, .null, .null, .null, .int (iI 0), .int (iI 0), .int (iI 0)])), (v_1, aI gi 300 (fun _ => 0)), (v_2, aI gi 60 (fun _ => 0))] := hD
  refine va_putF (D := D) (ci := 2) (v := .ref v_2) (ty := .array .int) (C := RX3) (T := TX3) (N := 9) hx hb hts i3 tyX3 tyX3_ok nmX3 hown hK.1 hP hD hS 0 rfl rfl 1 (by decide) f15 (fun _ h9 => h9) rfl hin rfl (by decide +kernel) rfl rfl (Nat.le_of_ble_eq_true rfl) dX3_init_18 (fun H locs hP hD hS => ?_)
  have hP : va_P D vwCl [(o, .inr (2, [.ref v_1, .ref v_2, .null, .null, .null, .null, .int (iI 0), .int (iI 0), .int (iI 0)])), (v_1, aI gi 300 (fun _ => 0)), (v_2, aI gi 60 (fun _ => 0))] H := hP
  have hD : va_D A [(o, .inr (2, [.ref v_1, .ref v_2, .null, .null, .null, .null, .int (iI 0), .int (iI 0), .int (iI 0)])), (v_1, aI gi 300 (fun _ => 0)), (v_2, aI gi 60 (fun _ => 0))] := hD
  refine lv_aload_n hx hb dX3_init_21 rfl (lv_at hl 0 rfl) ?_
  refine lv_bipush (v := iI (60)) hx hb dX3_init_22 (by decide +kernel) ?_
  refine zt_newI hx hb (hts (.arrayClass .int) (by decide +kernel)) hK hP hD hS hA (N := 60) (rfl) (by decide) (Nat.le_of_ble_eq_true rfl) (Nat.le_of_ble_eq_true rfl) dX3_init_24 (fun v_3 H hP hD hS => ?_)
  have hP : va_P D vwCl [(o, .inr (2, [.ref v_1, .ref v_2, .null, .null, .null, .null, .int (iI 0), .int (iI 0), .int (iI 0)])), (v_1, aI gi 300 (fun _ => 0)), (v_2, aI gi 60 (fun _ => 0)), (v_3, aI gi 60 (fun _ => 0))] H := hP
  have hD : va_D A [(o, .inr (2, [.ref v_1, .ref v_2, .null, .null, .null, .null, .int (iI 0), .int (iI 0), .int (iI 0)])), (v_1, aI gi 300 (fun _ => 0)), (v_2, aI gi 60 (fun _ => 0)), (v_3, aI gi 60 (fun _ => 0))] := hD
  refine va_putF (D := D) (ci := 2) (v := .ref v_3) (ty := .array .int) (C := RX3) (T := TX3) (N := 9) hx hb hts i3 tyX3 tyX3_ok nmX3 hown hK.1 hP hD hS 0 rfl rfl 2 (by decide) f18 (fun _ h9 => h9) rfl hin rfl (by decide +kernel) rfl rfl (Nat.le_of_ble_eq_true rfl) dX3_init_26 (fun H locs hP hD hS => ?_)
  have hP : va_P D vwCl [(o, .inr (2, [.ref v_1, .ref v_2, .ref v_3, .null, .null, .null, .int (iI 0), .int (iI 0), .int (iI 0)])), (v_1, aI gi 300 (fun _ => 0)), (v_2, aI gi 60 (fun _ => 0)), (v_3, aI gi 60 (fun _ => 0))] H := hP
  have hD : va_D A [(o, .inr (2, [.ref v_1, .ref v_2, .ref v_3, .null, .null, .null, .int (iI 0), .int (iI 0), .int (iI 0)])), (v_1, aI gi 300 (fun _ => 0)), (v_2, aI gi 60 (fun _ => 0)), (v_3, aI gi 60 (fun _ => 0))] := hD
  refine lv_aload_n hx hb dX3_init_29 rfl (lv_at hl 0 rfl) ?_
  refine lv_bipush (v := iI (60)) hx hb dX3_init_30 (by decide +kernel) ?_
  refine zt_newI hx hb (hts (.arrayClass .int) (by decide +kernel)) hK hP hD hS hA (N := 60) (rfl) (by decide) (Nat.le_of_ble_eq_true rfl) (Nat.le_of_ble_eq_true rfl) dX3_init_32 (fun v_4 H hP hD hS => ?_)
  have hP : va_P D vwCl [(o, .inr (2, [.ref v_1, .ref v_2, .ref v_3, .null, .null, .null, .int (iI 0), .int (iI 0), .int (iI 0)])), (v_1, aI gi 300 (fun _ => 0)), (v_2, aI gi 60 (fun _ => 0)), (v_3, aI gi 60 (fun _ => 0)), (v_4, aI gi 60 (fun _ => 0))] H := hP
  have hD : va_D A [(o, .inr (2, [.ref v_1, .ref v_2, .ref v_3, .null, .null, .null, .int (iI 0), .int (iI 0), .int (iI 0)])), (v_1, aI gi 300 (fun _ => 0)), (v_2, aI gi 60 (fun _ => 0)), (v_3, aI gi 60 (fun _ => 0)), (v_4, aI gi 60 (fun _ => 0))] := hD
  refine va_putF (D := D) (ci := 2) (v := .ref v_4) (ty := .array .int) (C := RX3) (T := TX3) (N := 9) hx hb hts i3 tyX3 tyX3_ok nmX3 hown hK.1 hP hD hS 0 rfl rfl 3 (by decide) f21 (fun _ h9 => h9) rfl hin rfl (by decide +kernel) rfl rfl (Nat.le_of_ble_eq_true rfl) dX3_init_34 (fun H locs hP hD hS => ?_)
  have hP : va_P D vwCl [(o, .inr (2, [.ref v_1, .ref v_2, .ref v_3, .ref v_4, .null, .null, .int (iI 0), .int (iI 0), .int (iI 0)])), (v_1, aI gi 300 (fun _ => 0)), (v_2, aI gi 60 (fun _ => 0)), (v_3, aI gi 60 (fun _ => 0)), (v_4, aI gi 60 (fun _ => 0))] H := hP
  have hD : va_D A [(o, .inr (2, [.ref v_1, .ref v_2, .ref v_3, .ref v_4, .null, .null, .int (iI 0), .int (iI 0), .int (iI 0)])), (v_1, aI gi 300 (fun _ => 0)), (v_2, aI gi 60 (fun _ => 0)), (v_3, aI gi 60 (fun _ => 0)), (v_4, aI gi 60 (fun _ => 0))] := hD
  refine lv_aload_n hx hb dX3_init_37 rfl (lv_at hl 0 rfl) ?_
  refine lv_bipush (v := iI (60)) hx hb dX3_init_38 (by decide +kernel) ?_
  refine zt_newI hx hb (hts (.arrayClass .int) (by decide +kernel)) hK hP hD hS hA (N := 60) (rfl) (by decide) (Nat.le_of_ble_eq_true rfl) (Nat.le_of_ble_eq_true rfl) dX3_init_40 (fun v_5 H hP hD hS => ?_)
  have hP : va_P D vwCl [(o, .inr (2, [.ref v_1, .ref v_2, .ref v_3, .ref v_4, .null, .null, .int (iI 0), .int (iI 0), .int (iI 0)])), (v_1, aI gi 300 (fun _ => 0)), (v_2, aI gi 60 (fun _ => 0)), (v_3, aI gi 60 (fun _ => 0)), (v_4, aI gi 60 (fun _ => 0)), (v_5, aI gi 60 (fun _ => 0))] H := hP
  have hD : va_D A [(o, .inr (2, [.ref v_1, .ref v_2, .ref v_3, .ref v_4, .null, .null, .int (iI 0), .int (iI 0), .int (iI 0)])), (v_1, aI gi 300 (fun _ => 0)), (v_2, aI gi 60 (fun _ => 0)), (v_3, aI gi 60 (fun _ => 0)), (v_4, aI gi 60 (fun _ => 0)), (v_5, aI gi 60 (fun _ => 0))] := hD
  refine va_putF (D := D) (ci := 2) (v := .ref v_5) (ty := .array .int) (C := RX3) (T := TX3) (N := 9) hx hb hts i3 tyX3 tyX3_ok nmX3 hown hK.1 hP hD hS 0 rfl rfl 4 (by decide) f24 (fun _ h9 => h9) rfl hin rfl (by decide +kernel) rfl rfl (Nat.le_of_ble_eq_true rfl) dX3_init_42 (fun H locs hP hD hS => ?_)
  have hP : va_P D vwCl [(o, .inr (2, [.ref v_1, .ref v_2, .ref v_3, .ref v_4, .ref v_5, .null, .int (iI 0), .int (iI 0), .int (iI 0)])), (v_1, aI gi 300 (fun _ => 0)), (v_2, aI gi 60 (fun _ => 0)), (v_3, aI gi 60 (fun _ => 0)), (v_4, aI gi 60 (fun _ => 0)), (v_5, aI gi 60 (fun _ => 0))] H := hP
  have hD : va_D A [(o, .inr (2, [.ref v_1, .ref v_2, .ref v_3, .ref v_4, .ref v_5, .null, .int (iI 0), .int (iI 0), .int (iI 0)])), (v_1, aI gi 300 (fun _ => 0)), (v_2, aI gi 60 (fun _ => 0)), (v_3, aI gi 60 (fun _ => 0)), (v_4, aI gi 60 (fun _ => 0)), (v_5, aI gi 60 (fun _ => 0))] := hD
  refine lv_aload_n hx hb dX3_init_45 rfl (lv_at hl 0 rfl) ?_
  refine lv_bipush (v := iI (60)) hx hb dX3_init_46 (by decide +kernel) ?_
  refine zt_newI hx hb (hts (.arrayClass .int) (by decide +kernel)) hK hP hD hS hA (N := 60) (rfl) (by decide) (Nat.le_of_ble_eq_true rfl) (Nat.le_of_ble_eq_true rfl) dX3_init_48 (fun v_6 H hP hD hS => ?_)
  have hP : va_P D vwCl [(o, .inr (2, [.ref v_1, .ref v_2, .ref v_3, .ref v_4, .ref v_5, .null, .int (iI 0), .int (iI 0), .int (iI 0)])), (v_1, aI gi 300 (fun _ => 0)), (v_2, aI gi 60 (fun _ => 0)), (v_3, aI gi 60 (fun _ => 0)), (v_4, aI gi 60 (fun _ => 0)), (v_5, aI gi 60 (fun _ => 0)), (v_6, aI gi 60 (fun _ => 0))] H := hP
  have hD : va_D A [(o, .inr (2, [.ref v_1, .ref v_2, .ref v_3, .ref v_4, .ref v_5, .null, .int (iI 0), .int (iI 0), .int (iI 0)])), (v_1, aI gi 300 (fun _ => 0)), (v_2, aI gi 60 (fun _ => 0)), (v_3, aI gi 60 (fun _ => 0)), (v_4, aI gi 60 (fun _ => 0)), (v_5, aI gi 60 (fun _ => 0)), (v_6, aI gi 60 (fun _ => 0))] := hD
  refine va_putF (D := D) (ci := 2) (v := .ref v_6) (ty := .array .int) (C := RX3) (T := TX3) (N := 9) hx hb hts i3 tyX3 tyX3_ok nmX3 hown hK.1 hP hD hS 0 rfl rfl 5 (by decide) f27 (fun _ h9 => h9) rfl hin rfl (by decide +kernel) rfl rfl (Nat.le_of_ble_eq_true rfl) dX3_init_50 (fun H locs hP hD hS => ?_)
  have hP : va_P D vwCl [(o, .inr (2, [.ref v_1, .ref v_2, .ref v_3, .ref v_4, .ref v_5, .ref v_6, .int (iI 0), .int (iI 0), .int (iI 0)])), (v_1, aI gi 300 (fun _ => 0)), (v_2, aI gi 60 (fun _ => 0)), (v_3, aI gi 60 (fun _ => 0)), (v_4, aI gi 60 (fun _ => 0)), (v_5, aI gi 60 (fun _ => 0)), (v_6, aI gi 60 (fun _ => 0))] H := hP
  have hD : va_D A [(o, .inr (2, [.ref v_1, .ref v_2, .ref v_3, .ref v_4, .ref v_5, .ref v_6, .int (iI 0), .int (iI 0), .int (iI 0)])), (v_1, aI gi 300 (fun _ => 0)), (v_2, aI gi 60 (fun _ => 0)), (v_3, aI gi 60 (fun _ => 0)), (v_4, aI gi 60 (fun _ => 0)), (v_5, aI gi 60 (fun _ => 0)), (v_6, aI gi 60 (fun _ => 0))] := hD
  refine lv_aload_n hx hb dX3_init_53 rfl (lv_at hl 0 rfl) ?_
  refine lv_iconst (v := iI (0)) hx hb dX3_init_54 (by decide +kernel) ?_
  refine va_put (D := D) (ci := 2) (v := .int (iI 0)) (ty := .int) (C := RX3) (T := TX3) (N := 9) hx hb hts i3 tyX3 tyX3_ok nmX3 hown hK.1 hP hD hS 0 rfl rfl 6 (by decide) f30 (fun _ h9 => h9) rfl (by decide +kernel) rfl rfl (Nat.le_of_ble_eq_true rfl) dX3_init_55 (fun H locs hP hD hS => ?_)
  have hP : va_P D vwCl [(o, .inr (2, [.ref v_1, .ref v_2, .ref v_3, .ref v_4, .ref v_5, .ref v_6, .int (iI 0), .int (iI 0), .int (iI 0)])), (v_1, aI gi 300 (fun _ => 0)), (v_2, aI gi 60 (fun _ => 0)), (v_3, aI gi 60 (fun _ => 0)), (v_4, aI gi 60 (fun _ => 0)), (v_5, aI gi 60 (fun _ => 0)), (v_6, aI gi 60 (fun _ => 0))] H := hP
  have hD : va_D A [(o, .inr (2, [.ref v_1, .ref v_2, .ref v_3, .ref v_4, .ref v_5, .ref v_6, .int (iI 0), .int (iI 0), .int (iI 0)])), (v_1, aI gi 300 (fun _ => 0)), (v_2, aI gi 60 (fun _ => 0)), (v_3, aI gi 60 (fun _ => 0)), (v_4, aI gi 60 (fun _ => 0)), (v_5, aI gi 60 (fun _ => 0)), (v_6, aI gi 60 (fun _ => 0))] := hD
  refine lv_aload_n hx hb dX3_init_58 rfl (lv_at hl 0 rfl) ?_
  refine lv_iconst (v := iI (0)) hx hb dX3_init_59 (by decide +kernel) ?_
  refine va_put (D := D) (ci := 2) (v := .int (iI 0)) (ty := .int) (C := RX3) (T := TX3) (N := 9) hx hb hts i3 tyX3 tyX3_ok nmX3 hown hK.1 hP hD hS 0 rfl rfl 7 (by decide) f34 (fun _ h9 => h9) rfl (by decide +kernel) rfl rfl (Nat.le_of_ble_eq_true rfl) dX3_init_60 (fun H locs hP hD hS => ?_)
  have hP : va_P D vwCl [(o, .inr (2, [.ref v_1, .ref v_2, .ref v_3, .ref v_4, .ref v_5, .ref v_6, .int (iI 0), .int (iI 0), .int (iI 0)])), (v_1, aI gi 300 (fun _ => 0)), (v_2, aI gi 60 (fun _ => 0)), (v_3, aI gi 60 (fun _ => 0)), (v_4, aI gi 60 (fun _ => 0)), (v_5, aI gi 60 (fun _ => 0)), (v_6, aI gi 60 (fun _ => 0))] H := hP
  have hD : va_D A [(o, .inr (2, [.ref v_1, .ref v_2, .ref v_3, .ref v_4, .ref v_5, .ref v_6, .int (iI 0), .int (iI 0), .int (iI 0)])), (v_1, aI gi 300 (fun _ => 0)), (v_2, aI gi 60 (fun _ => 0)), (v_3, aI gi 60 (fun _ => 0)), (v_4, aI gi 60 (fun _ => 0)), (v_5, aI gi 60 (fun _ => 0)), (v_6, aI gi 60 (fun _ => 0))] := hD
  refine lv_aload_n hx hb dX3_init_63 rfl (lv_at hl 0 rfl) ?_
  refine lv_iconst (v := iI (0)) hx hb dX3_init_64 (by decide +kernel) ?_
  refine va_put (D := D) (ci := 2) (v := .int (iI 0)) (ty := .boolean) (C := RX3) (T := TX3) (N := 9) hx hb hts i3 tyX3 tyX3_ok nmX3 hown hK.1 hP hD hS 0 rfl rfl 8 (by decide) f37 (fun _ h9 => h9) rfl (by decide +kernel) rfl rfl (Nat.le_of_ble_eq_true rfl) dX3_init_65 (fun H locs hP hD hS => ?_)
  have hP : va_P D vwCl [(o, .inr (2, [.ref v_1, .ref v_2, .ref v_3, .ref v_4, .ref v_5, .ref v_6, .int (iI 0), .int (iI 0), .int (iI 0)])), (v_1, aI gi 300 (fun _ => 0)), (v_2, aI gi 60 (fun _ => 0)), (v_3, aI gi 60 (fun _ => 0)), (v_4, aI gi 60 (fun _ => 0)), (v_5, aI gi 60 (fun _ => 0)), (v_6, aI gi 60 (fun _ => 0))] H := hP
  have hD : va_D A [(o, .inr (2, [.ref v_1, .ref v_2, .ref v_3, .ref v_4, .ref v_5, .ref v_6, .int (iI 0), .int (iI 0), .int (iI 0)])), (v_1, aI gi 300 (fun _ => 0)), (v_2, aI gi 60 (fun _ => 0)), (v_3, aI gi 60 (fun _ => 0)), (v_4, aI gi 60 (fun _ => 0)), (v_5, aI gi 60 (fun _ => 0)), (v_6, aI gi 60 (fun _ => 0))] := hD
  refine W.widen (k := 6) (n := 600) (by omega) (by omega) ?_
  exact hQ (v_1, v_2, v_3, v_4, v_5, v_6) _ _ _ _ (by trivial) hP hD hS dX3_init_68
set_option maxHeartbeats 4000000 in
set_option maxRecDepth 100000 in
theorem c_X0_init (l : Launch) (D : va_G) (gi gc gr : ClassId) (sz : Nat) (bu : Nat) : Met l yX0_init wsX0_init { frames := 2, cells := 2, slots := 22, locals := 42 } (zPw D gi gc gr [(bu, .inr (0, [.null, .int (iI 0)]))] sz [.ref bu]) (va_Qv (S := Nat × Nat) (fun _ => True) (zB D (va_A [(bu, .inr (0, [.null, .int (iI 0)]))] sz) (fun u => [(bu, .inr (0, [.ref u.1, .int (iI 10)])), (u.1, .inr (3, [.ref u.2, .int (iI 0)])), (u.2, aI gi 20 (fun _ => 0))])) (va_A [(bu, .inr (0, [.null, .int (iI 0)]))] sz)) 2 22 (va_A [(bu, .inr (0, [.null, .int (iI 0)]))] sz) := by
  refine zt_metWv (own := RX0) (cc := cX0_init) (maxL := 1) (by decide) rfl rfl (Nat.le_of_ble_eq_true rfl) ?_
  intro p e s m args below meth c Q A C hK hP hD hS hA hin0 hQ ls hl
  have hin := hin0 rfl
  have hx := C.1
  have hb := C.2.1
  have hml := C.2.2.1
  have hown := C.2.2.2.1
  have hts := C.2.2.2.2
  have i0 : ∀ w ∈ u_ws RX0 TX0 2, w ∈ wsX0_init := by decide +kernel
  have i4 : ∀ w ∈ u_ws RX4 TX4 2, w ∈ wsX0_init := by decide +kernel
  have f14 := hts (.fieldLink RX0 14 "Threetwo$Buffer" "sizes" "LThreetwo$Row;") (by decide +kernel)
  have f20 := hts (.fieldLink RX0 20 "Threetwo$Buffer" "rateNow" "I") (by decide +kernel)
  have hl : lv_has ls 1 [(0, .ref bu)] := hl
  refine lv_aload_n hx hb dX0_init_0 rfl (lv_at hl 0 rfl) ?_
  refine W.objInit hx hb hown (hts (.methodLink RX0 3 objectInit) (by decide +kernel)) (hts (.instanceMethod objectInit) (by decide +kernel)) (hts _ (List.mem_of_getElem? (i := 3) rfl)) rfl (by rw [hml]; exact hl.1) rfl dX0_init_1 (Nat.le_of_ble_eq_true rfl) (Nat.le_of_ble_eq_true rfl) ?_
  refine W.eq (g2 := F0 m 4 ls []) rfl ?_
  refine lv_aload_n hx hb dX0_init_4 rfl (lv_at hl 0 rfl) ?_
  refine va_new (ci := 3) (fs := [.null, .int 0]) (C := RX4) (T := TX4) (N := 2) hx hb hts i4 tyX4 tyX4_ok hown (hts (.classLink RX0 9 RX4) (by decide +kernel)) (hts (.instantiable RX4 2) (by decide +kernel)) (hts (.initialized RX4) (by decide +kernel)) hK.1 hP hD hS hA rfl (fun j hj => by rcases (show j = 0 ∨ j = 1 by omega) with rfl | rfl <;> rfl) (Nat.le_of_ble_eq_true rfl) (Nat.le_of_ble_eq_true rfl) dX0_init_5 (fun v_1 H hP hD hS => ?_)
  have hP : va_P D vwCl [(bu, .inr (0, [.null, .int (iI 0)])), (v_1, .inr (3, [.null, .int (iI 0)]))] H := hP
  have hD : va_D A [(bu, .inr (0, [.null, .int (iI 0)])), (v_1, .inr (3, [.null, .int (iI 0)]))] := hD
  refine lv_dup hx hb dX0_init_8 rfl ?_
  refine lv_bipush (v := iI (20)) hx hb dX0_init_9 (by decide +kernel) ?_
  have hPc := hP.sub (ws' := [(v_1, .inr (3, [.null, .int (iI 0)]))]) [1] rfl
  have hDc := hD.sub (ws' := [(v_1, .inr (3, [.null, .int (iI 0)]))]) [1] (by decide) rfl
  have hFc := va_free (wc := [(v_1, .inr (3, [.null, .int (iI 0)]))]) hD hS hA [1] rfl
  refine va_callv (va_runI C (As := [.int (iI 20)]) (rest := [.ref v_1, .ref bu]) (c_X4_init l D gi gc gr H.size v_1 20 (by first | omega | assumption)) (cwI 1 hts gX0_init_X4_init rfl rfl rfl (hts (.initialized RX4) (by decide +kernel)) (hts (.methodLink RX0 11 yX4_init) (by decide +kernel)) (hts (.instanceMethod yX4_init) (by decide +kernel)) rfl (by decide +kernel) ⟨Nat.le_of_ble_eq_true rfl, Nat.le_of_ble_eq_true rfl⟩) (zt_preSw hK hPc hDc (Value.ref v_1 :: [.int (iI 20)])) rfl rfl hl.1 rfl (lv_room (Nat.le_of_ble_eq_true rfl)) dX0_init_11 ⟨Nat.le_of_ble_eq_true rfl, Nat.le_of_ble_eq_true rfl⟩) hS (fun q _ h => hFc q h) hFc (fun u_r_2 T9 H1 locs hT9 hvm hw hB hz1 hk1 hS => ?_)
  obtain ⟨hP1, hD1⟩ := hB
  rw [hT9] at hP1
  obtain ⟨hP, hD⟩ := zt_back (w1 := [(v_1, .inr (3, [.ref u_r_2, .int (iI 0)])), (u_r_2, aI gi 20 (fun _ => 0))]) (wr := [(bu, .inr (0, [.null, .int (iI 0)]))]) (wn := [(bu, .inr (0, [.null, .int (iI 0)])), (v_1, .inr (3, [.ref u_r_2, .int (iI 0)])), (u_r_2, aI gi 20 (fun _ => 0))]) hP hD [1] [0] [0, 1, 2] rfl rfl (by decide) (by decide) hk1 hFc hP1 hD1 rfl (by decide)
  generalize H1 = H at hP hS ⊢
  refine va_putF (D := D) (ci := 0) (v := .ref v_1) (ty := .object "Threetwo$Row") (C := RX0) (T := TX0) (N := 2) hx hb hts i0 tyX0 tyX0_ok nmX0 hown hK.1 hP hD hS 0 rfl rfl 0 (by decide) f14 (fun _ h9 => h9) rfl hin rfl (by decide +kernel) rfl rfl (Nat.le_of_ble_eq_true rfl) dX0_init_14 (fun H locs hP hD hS => ?_)
  have hP : va_P D vwCl [(bu, .inr (0, [.ref v_1, .int (iI 0)])), (v_1, .inr (3, [.ref u_r_2, .int (iI 0)])), (u_r_2, aI gi 20 (fun _ => 0))] H := hP
  have hD : va_D A [(bu, .inr (0, [.ref v_1, .int (iI 0)])), (v_1, .inr (3, [.ref u_r_2, .int (iI 0)])), (u_r_2, aI gi 20 (fun _ => 0))] := hD
  refine lv_aload_n hx hb dX0_init_17 rfl (lv_at hl 0 rfl) ?_
  refine lv_bipush (v := iI (10)) hx hb dX0_init_18 (by decide +kernel) ?_
  refine va_put (D := D) (ci := 0) (v := .int (iI 10)) (ty := .int) (C := RX0) (T := TX0) (N := 2) hx hb hts i0 tyX0 tyX0_ok nmX0 hown hK.1 hP hD hS 0 rfl rfl 1 (by decide) f20 (fun _ h9 => h9) rfl (by decide +kernel) rfl rfl (Nat.le_of_ble_eq_true rfl) dX0_init_20 (fun H locs hP hD hS => ?_)
  have hP : va_P D vwCl [(bu, .inr (0, [.ref v_1, .int (iI 10)])), (v_1, .inr (3, [.ref u_r_2, .int (iI 0)])), (u_r_2, aI gi 20 (fun _ => 0))] H := hP
  have hD : va_D A [(bu, .inr (0, [.ref v_1, .int (iI 10)])), (v_1, .inr (3, [.ref u_r_2, .int (iI 0)])), (u_r_2, aI gi 20 (fun _ => 0))] := hD
  refine W.widen (k := 2) (n := 22) (by omega) (by omega) ?_
  exact hQ (v_1, u_r_2) _ _ _ _ (by trivial) hP hD hS dX0_init_23
