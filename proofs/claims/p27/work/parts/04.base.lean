/-! ===== my own rows: ints by their numbers, branches, entries, ends, calls of methods that only read ===== -/
def iI (n : Int) : Int32 := Int32.ofInt n
theorem iI_t {n : Int} (h : -2147483648 ≤ n ∧ n < 2147483648) : (iI n).toInt = n := Int32.toInt_ofInt_of_le (by omega) (by omega)
theorem iI_of (x : Int32) : iI x.toInt = x := Int32.ofInt_toInt x
theorem iI_ex (x : Int32) : ∃ n : Int, x = iI n ∧ -2147483648 ≤ n ∧ n < 2147483648 := ⟨x.toInt, (iI_of x).symm, Int32.le_toInt x, Int32.toInt_lt x⟩
theorem iI_add (a b : Int) : iI a + iI b = iI (a + b) := (Int32.ofInt_add a b).symm
theorem iI_sub (a b : Int) : iI a - iI b = iI (a - b) := (Int32.ofInt_sub a b).symm
theorem iI_mul (a b : Int) : iI a * iI b = iI (a * b) := (Int32.ofInt_mul a b).symm
theorem iI_lt {a b : Int} (ha : -2147483648 ≤ a ∧ a < 2147483648) (hb : -2147483648 ≤ b ∧ b < 2147483648) : iI a < iI b ↔ a < b := by
  rw [Int32.lt_iff_toInt_lt, iI_t ha, iI_t hb]
theorem iI_le {a b : Int} (ha : -2147483648 ≤ a ∧ a < 2147483648) (hb : -2147483648 ≤ b ∧ b < 2147483648) : iI a ≤ iI b ↔ a ≤ b := by
  rw [Int32.le_iff_toInt_le, iI_t ha, iI_t hb]
theorem iI_eq {a b : Int} (ha : -2147483648 ≤ a ∧ a < 2147483648) (hb : -2147483648 ≤ b ∧ b < 2147483648) : iI a = iI b ↔ a = b :=
  ⟨fun h => by rw [← iI_t ha, ← iI_t hb, h], fun h => by rw [h]⟩
theorem iI_0 : iI 0 = 0 := rfl
theorem iI_nat {a : Int} (h : 0 ≤ a ∧ a < 2147483648) : (iI a).toNatClampNeg = a.toNat := by
  show (iI a).toInt.toNat = _
  rw [iI_t (by omega)]
theorem iI_in {a : Int} {n : Nat} (h : 0 ≤ a ∧ a < (n : Int)) (hn : n < 2147483648) : vp_in (iI a) n := vp_in_iff.mpr (by rw [iI_t (by omega)]; exact h)
theorem iI_div {a b : Int} (ha : 0 ≤ a ∧ a < 2147483648) (hb : 0 < b ∧ b < 2147483648) : iI a / iI b = iI (a / b) := by
  have h1 : 0 ≤ a / b := Int.ediv_nonneg ha.1 (by omega)
  have h2 : a / b ≤ a := Int.ediv_le_self b ha.1
  apply Int32.toInt_inj.mp
  rw [lg_idiv_nonneg (by rw [iI_t (by omega)]; exact ha.1) (by rw [iI_t (by omega)]; exact hb.1), iI_t (by omega), iI_t (by omega), iI_t (by omega)]
theorem iI_rem {a b : Int} (ha : 0 ≤ a ∧ a < 2147483648) (hb : 0 < b ∧ b < 2147483648) : iI a - iI a / iI b * iI b = iI (a % b) := by
  rw [iI_div ha hb, iI_mul, iI_sub]
  congr 1
  have h := Int.mul_ediv_add_emod a b
  rw [Int.mul_comm] at h
  omega
theorem iI_cat (a : Int) : (Value.int (iI a)).category = 1 := rfl
def iF (g : Nat → Int) : Nat → Int32 := fun j => iI (g j)
def uP (g : Nat → Int) (k : Nat) (x : Int) : Nat → Int := fun j => if j = k then x else g j
theorem uP_s {g : Nat → Int} {k : Nat} {x : Int} : uP g k x k = x := if_pos rfl
theorem uP_n {g : Nat → Int} {k j : Nat} {x : Int} (h : j ≠ k) : uP g k x j = g j := if_neg h
theorem iF_upd (g : Nat → Int) (k : Nat) (x : Int) : upd (iF g) k (iI x) = iF (uP g k x) := by
  funext j
  unfold upd iF uP
  by_cases h : j = k
  · rw [if_pos h, if_pos h]
  · rw [if_neg h, if_neg h]
theorem iF_of (f : Nat → Int32) : ∃ g : Nat → Int, f = iF g ∧ ∀ j, -2147483648 ≤ g j ∧ g j < 2147483648 :=
  ⟨fun j => (f j).toInt, funext fun j => (iI_of _).symm, fun j => ⟨Int32.le_toInt _, Int32.toInt_lt _⟩⟩
/-- an array of ints, of n places -/
abbrev aI (ci : ClassId) (n : Nat) (g : Nat → Int) : va_E := .inl (ci, n, .inl (iF g))
section ZT
variable {p : Program} {l : Launch} {e : Env} {R : Room} {s : State} {m : MethodId} {args : Array Value} {below : List Frame} {meth : Method} {c : Code} {H : Heap} {locs : List Loc} {cells slots : Nat} {Q : State → Prop}
variable {cc : ByteArray} {pc : Nat} {ls : Array Slot} {rest : List Value}
theorem zt_iadd (hx : p.tables.exec = Jvm.exec) (hb : c.code = cc) {x y : Int} (hdg : decode cc pc = .ok (.iadd, 1))
    (k : W p l e R s m args below meth c H locs cells slots Q (F0 m (pc + 1) ls (.int (iI (x + y)) :: rest))) : W p l e R s m args below meth c H locs cells slots Q (F0 m pc ls (.int (iI y) :: .int (iI x) :: rest)) := lv_iadd hx hb hdg (by rw [iI_add]; exact k)
theorem zt_isub (hx : p.tables.exec = Jvm.exec) (hb : c.code = cc) {x y : Int} (hdg : decode cc pc = .ok (.isub, 1))
    (k : W p l e R s m args below meth c H locs cells slots Q (F0 m (pc + 1) ls (.int (iI (x - y)) :: rest))) : W p l e R s m args below meth c H locs cells slots Q (F0 m pc ls (.int (iI y) :: .int (iI x) :: rest)) := lv_isub hx hb hdg (by rw [iI_sub]; exact k)
theorem zt_imul (hx : p.tables.exec = Jvm.exec) (hb : c.code = cc) {x y : Int} (hdg : decode cc pc = .ok (.imul, 1))
    (k : W p l e R s m args below meth c H locs cells slots Q (F0 m (pc + 1) ls (.int (iI (x * y)) :: rest))) : W p l e R s m args below meth c H locs cells slots Q (F0 m pc ls (.int (iI y) :: .int (iI x) :: rest)) := lv_imul hx hb hdg (by rw [iI_mul]; exact k)
theorem zt_idiv (hx : p.tables.exec = Jvm.exec) (hb : c.code = cc) {x y : Int} (hdg : decode cc pc = .ok (.idiv, 1)) (h : (0 ≤ x ∧ x < 2147483648) ∧ (0 < y ∧ y < 2147483648))
    (k : W p l e R s m args below meth c H locs cells slots Q (F0 m (pc + 1) ls (.int (iI (x / y)) :: rest))) : W p l e R s m args below meth c H locs cells slots Q (F0 m pc ls (.int (iI y) :: .int (iI x) :: rest)) := by
  refine lv_idiv hx hb hdg (fun q => ?_) (by rw [iI_div h.1 h.2]; exact k)
  rw [← iI_0, iI_eq (by omega) (by omega)] at q
  omega
theorem zt_irem (hx : p.tables.exec = Jvm.exec) (hb : c.code = cc) {x y : Int} (hdg : decode cc pc = .ok (.irem, 1)) (h : (0 ≤ x ∧ x < 2147483648) ∧ (0 < y ∧ y < 2147483648))
    (k : W p l e R s m args below meth c H locs cells slots Q (F0 m (pc + 1) ls (.int (iI (x % y)) :: rest))) : W p l e R s m args below meth c H locs cells slots Q (F0 m pc ls (.int (iI y) :: .int (iI x) :: rest)) := by
  refine lv_irem hx hb hdg (fun q => ?_) (by rw [iI_rem h.1 h.2]; exact k)
  rw [← iI_0, iI_eq (by omega) (by omega)] at q
  omega
theorem zt_icmp_eq (hx : p.tables.exec = Jvm.exec) (hb : c.code = cc) {x y : Int} {off : Int} {tgt : Nat} (hdg : decode cc pc = .ok (.if_icmp .eq off, 3)) (ht : (pc : Int) + off = (tgt : Int)) (h : (-2147483648 ≤ x ∧ x < 2147483648) ∧ (-2147483648 ≤ y ∧ y < 2147483648))
    (kt : x = y → W p l e R s m args below meth c H locs cells slots Q (F0 m tgt ls rest)) (kf : ¬ x = y → W p l e R s m args below meth c H locs cells slots Q (F0 m (pc + 3) ls rest)) : W p l e R s m args below meth c H locs cells slots Q (F0 m pc ls (.int (iI y) :: .int (iI x) :: rest)) :=
  lv_icmp_eq hx hb hdg ht (fun q => kt ((iI_eq h.1 h.2).mp q)) (fun q => kf (fun z => q ((iI_eq h.1 h.2).mpr z)))
theorem zt_icmp_ne (hx : p.tables.exec = Jvm.exec) (hb : c.code = cc) {x y : Int} {off : Int} {tgt : Nat} (hdg : decode cc pc = .ok (.if_icmp .ne off, 3)) (ht : (pc : Int) + off = (tgt : Int)) (h : (-2147483648 ≤ x ∧ x < 2147483648) ∧ (-2147483648 ≤ y ∧ y < 2147483648))
    (kt : ¬ x = y → W p l e R s m args below meth c H locs cells slots Q (F0 m tgt ls rest)) (kf : x = y → W p l e R s m args below meth c H locs cells slots Q (F0 m (pc + 3) ls rest)) : W p l e R s m args below meth c H locs cells slots Q (F0 m pc ls (.int (iI y) :: .int (iI x) :: rest)) :=
  lv_icmp_ne hx hb hdg ht (fun q => kt (fun z => q ((iI_eq h.1 h.2).mpr z))) (fun q => kf ((iI_eq h.1 h.2).mp q))
theorem zt_icmp_lt (hx : p.tables.exec = Jvm.exec) (hb : c.code = cc) {x y : Int} {off : Int} {tgt : Nat} (hdg : decode cc pc = .ok (.if_icmp .lt off, 3)) (ht : (pc : Int) + off = (tgt : Int)) (h : (-2147483648 ≤ x ∧ x < 2147483648) ∧ (-2147483648 ≤ y ∧ y < 2147483648))
    (kt : x < y → W p l e R s m args below meth c H locs cells slots Q (F0 m tgt ls rest)) (kf : y ≤ x → W p l e R s m args below meth c H locs cells slots Q (F0 m (pc + 3) ls rest)) : W p l e R s m args below meth c H locs cells slots Q (F0 m pc ls (.int (iI y) :: .int (iI x) :: rest)) :=
  lv_icmp_lt hx hb hdg ht (fun q => kt ((iI_lt h.1 h.2).mp q)) (fun q => kf (by rw [iI_lt h.1 h.2] at q; omega))
theorem zt_icmp_ge (hx : p.tables.exec = Jvm.exec) (hb : c.code = cc) {x y : Int} {off : Int} {tgt : Nat} (hdg : decode cc pc = .ok (.if_icmp .ge off, 3)) (ht : (pc : Int) + off = (tgt : Int)) (h : (-2147483648 ≤ x ∧ x < 2147483648) ∧ (-2147483648 ≤ y ∧ y < 2147483648))
    (kt : y ≤ x → W p l e R s m args below meth c H locs cells slots Q (F0 m tgt ls rest)) (kf : x < y → W p l e R s m args below meth c H locs cells slots Q (F0 m (pc + 3) ls rest)) : W p l e R s m args below meth c H locs cells slots Q (F0 m pc ls (.int (iI y) :: .int (iI x) :: rest)) :=
  lv_icmp_ge hx hb hdg ht (fun q => kt ((iI_le h.2 h.1).mp q)) (fun q => kf (by rw [iI_le h.2 h.1] at q; omega))
theorem zt_icmp_gt (hx : p.tables.exec = Jvm.exec) (hb : c.code = cc) {x y : Int} {off : Int} {tgt : Nat} (hdg : decode cc pc = .ok (.if_icmp .gt off, 3)) (ht : (pc : Int) + off = (tgt : Int)) (h : (-2147483648 ≤ x ∧ x < 2147483648) ∧ (-2147483648 ≤ y ∧ y < 2147483648))
    (kt : y < x → W p l e R s m args below meth c H locs cells slots Q (F0 m tgt ls rest)) (kf : x ≤ y → W p l e R s m args below meth c H locs cells slots Q (F0 m (pc + 3) ls rest)) : W p l e R s m args below meth c H locs cells slots Q (F0 m pc ls (.int (iI y) :: .int (iI x) :: rest)) :=
  lv_icmp_gt hx hb hdg ht (fun q => kt ((iI_lt h.2 h.1).mp q)) (fun q => kf (by rw [iI_lt h.2 h.1] at q; omega))
theorem zt_icmp_le (hx : p.tables.exec = Jvm.exec) (hb : c.code = cc) {x y : Int} {off : Int} {tgt : Nat} (hdg : decode cc pc = .ok (.if_icmp .le off, 3)) (ht : (pc : Int) + off = (tgt : Int)) (h : (-2147483648 ≤ x ∧ x < 2147483648) ∧ (-2147483648 ≤ y ∧ y < 2147483648))
    (kt : x ≤ y → W p l e R s m args below meth c H locs cells slots Q (F0 m tgt ls rest)) (kf : y < x → W p l e R s m args below meth c H locs cells slots Q (F0 m (pc + 3) ls rest)) : W p l e R s m args below meth c H locs cells slots Q (F0 m pc ls (.int (iI y) :: .int (iI x) :: rest)) :=
  lv_icmp_le hx hb hdg ht (fun q => kt ((iI_le h.1 h.2).mp q)) (fun q => kf (by rw [iI_le h.1 h.2] at q; omega))
theorem zt_if_eq (hx : p.tables.exec = Jvm.exec) (hb : c.code = cc) {x : Int} {off : Int} {tgt : Nat} (hdg : decode cc pc = .ok (.ifCond .eq off, 3)) (ht : (pc : Int) + off = (tgt : Int)) (h : -2147483648 ≤ x ∧ x < 2147483648)
    (kt : x = 0 → W p l e R s m args below meth c H locs cells slots Q (F0 m tgt ls rest)) (kf : ¬ x = 0 → W p l e R s m args below meth c H locs cells slots Q (F0 m (pc + 3) ls rest)) : W p l e R s m args below meth c H locs cells slots Q (F0 m pc ls (.int (iI x) :: rest)) :=
  lv_if_eq hx hb hdg ht (fun q => kt ((iI_eq h (by omega)).mp (q.trans iI_0.symm))) (fun q => kf (fun z => q (by rw [z]; rfl)))
theorem zt_if_ne (hx : p.tables.exec = Jvm.exec) (hb : c.code = cc) {x : Int} {off : Int} {tgt : Nat} (hdg : decode cc pc = .ok (.ifCond .ne off, 3)) (ht : (pc : Int) + off = (tgt : Int)) (h : -2147483648 ≤ x ∧ x < 2147483648)
    (kt : ¬ x = 0 → W p l e R s m args below meth c H locs cells slots Q (F0 m tgt ls rest)) (kf : x = 0 → W p l e R s m args below meth c H locs cells slots Q (F0 m (pc + 3) ls rest)) : W p l e R s m args below meth c H locs cells slots Q (F0 m pc ls (.int (iI x) :: rest)) :=
  lv_if_ne hx hb hdg ht (fun q => kt (fun z => q (by rw [z]; rfl))) (fun q => kf ((iI_eq h (by omega)).mp (q.trans iI_0.symm)))
theorem zt_if_lt (hx : p.tables.exec = Jvm.exec) (hb : c.code = cc) {x : Int} {off : Int} {tgt : Nat} (hdg : decode cc pc = .ok (.ifCond .lt off, 3)) (ht : (pc : Int) + off = (tgt : Int)) (h : -2147483648 ≤ x ∧ x < 2147483648)
    (kt : x < 0 → W p l e R s m args below meth c H locs cells slots Q (F0 m tgt ls rest)) (kf : 0 ≤ x → W p l e R s m args below meth c H locs cells slots Q (F0 m (pc + 3) ls rest)) : W p l e R s m args below meth c H locs cells slots Q (F0 m pc ls (.int (iI x) :: rest)) :=
  lv_if_lt hx hb hdg ht (fun q => kt ((iI_lt h (by omega)).mp (iI_0.symm ▸ q))) (fun q => kf (by rw [← iI_0, iI_lt h (by omega)] at q; omega))
theorem zt_if_ge (hx : p.tables.exec = Jvm.exec) (hb : c.code = cc) {x : Int} {off : Int} {tgt : Nat} (hdg : decode cc pc = .ok (.ifCond .ge off, 3)) (ht : (pc : Int) + off = (tgt : Int)) (h : -2147483648 ≤ x ∧ x < 2147483648)
    (kt : 0 ≤ x → W p l e R s m args below meth c H locs cells slots Q (F0 m tgt ls rest)) (kf : x < 0 → W p l e R s m args below meth c H locs cells slots Q (F0 m (pc + 3) ls rest)) : W p l e R s m args below meth c H locs cells slots Q (F0 m pc ls (.int (iI x) :: rest)) :=
  lv_if_ge hx hb hdg ht (fun q => kt (by rw [← iI_0, iI_le (by omega) h] at q; exact q)) (fun q => kf (by rw [← iI_0, iI_le (by omega) h] at q; omega))
theorem zt_if_gt (hx : p.tables.exec = Jvm.exec) (hb : c.code = cc) {x : Int} {off : Int} {tgt : Nat} (hdg : decode cc pc = .ok (.ifCond .gt off, 3)) (ht : (pc : Int) + off = (tgt : Int)) (h : -2147483648 ≤ x ∧ x < 2147483648)
    (kt : 0 < x → W p l e R s m args below meth c H locs cells slots Q (F0 m tgt ls rest)) (kf : x ≤ 0 → W p l e R s m args below meth c H locs cells slots Q (F0 m (pc + 3) ls rest)) : W p l e R s m args below meth c H locs cells slots Q (F0 m pc ls (.int (iI x) :: rest)) :=
  lv_if_gt hx hb hdg ht (fun q => kt (by rw [← iI_0, iI_lt (by omega) h] at q; exact q)) (fun q => kf (by rw [← iI_0, iI_lt (by omega) h] at q; omega))
theorem zt_if_le (hx : p.tables.exec = Jvm.exec) (hb : c.code = cc) {x : Int} {off : Int} {tgt : Nat} (hdg : decode cc pc = .ok (.ifCond .le off, 3)) (ht : (pc : Int) + off = (tgt : Int)) (h : -2147483648 ≤ x ∧ x < 2147483648)
    (kt : x ≤ 0 → W p l e R s m args below meth c H locs cells slots Q (F0 m tgt ls rest)) (kf : 0 < x → W p l e R s m args below meth c H locs cells slots Q (F0 m (pc + 3) ls rest)) : W p l e R s m args below meth c H locs cells slots Q (F0 m pc ls (.int (iI x) :: rest)) :=
  lv_if_le hx hb hdg ht (fun q => kt (by rw [← iI_0, iI_le h (by omega)] at q; exact q)) (fun q => kf (by rw [← iI_0, iI_le h (by omega)] at q; omega))
/-- the top of the stack, written otherwise -/
theorem zt_top {v w : Value} (h : v = w) (k : W p l e R s m args below meth c H locs cells slots Q (F0 m pc ls (w :: rest))) : W p l e R s m args below meth c H locs cells slots Q (F0 m pc ls (v :: rest)) := h ▸ k
section ZA
variable {D : va_G} {cl : List vw_C} {A : Nat → Prop} {a : Nat} {tys : List (ClassId × FieldType)} {ws : va_W} {H0 : Heap}
theorem zt_iald (hx : p.tables.exec = Jvm.exec) (hb : c.code = cc) (hK : va_K D cl tys s) (hP : va_P D cl ws H) (q0 : Nat) (t0 : Nat) {cA : ClassId} {n : Nat} {g : Nat → Int} (ha : ws[q0]? = some (a, aI cA n g)) (ht : tys[t0]? = some (cA, .int)) (hn : n < 2147483648) {i : Int} (h : 0 ≤ i ∧ i < (n : Int)) (hdg : decode cc pc = .ok (.iaload, 1))
    (k : W p l e R s m args below meth c H locs cells slots Q (F0 m (pc + 1) ls (.int (iI (g i.toNat)) :: rest))) : W p l e R s m args below meth c H locs cells slots Q (F0 m pc ls (.int (iI i) :: .ref a :: rest)) := by
  refine va_iald hx hb hK hP q0 t0 ha ht (iI_in h hn) hdg ?_
  rw [iI_nat (by omega)]
  exact k
theorem zt_iast (hx : p.tables.exec = Jvm.exec) (hb : c.code = cc) (hK : va_K D cl tys s) (hP : va_P D cl ws H) (hD : va_D A ws) (hS : va_S A H0 H locs) (q0 : Nat) (t0 : Nat) {cA : ClassId} {n : Nat} {g : Nat → Int} (ha : ws[q0]? = some (a, aI cA n g)) (ht : tys[t0]? = some (cA, .int)) (hn : n < 2147483648) {i x : Int} (h : 0 ≤ i ∧ i < (n : Int)) (hdg : decode cc pc = .ok (.iastore, 1))
    (k : ∀ (H1 : Heap) (locs1 : List Loc), va_P D cl (ws.set q0 (a, aI cA n (uP g i.toNat x))) H1 → va_D A (ws.set q0 (a, aI cA n (uP g i.toNat x))) → va_S A H0 H1 locs1 → W p l e R s m args below meth c H1 locs1 cells slots Q (F0 m (pc + 1) ls rest)) : W p l e R s m args below meth c H locs cells slots Q (F0 m pc ls (.int (iI x) :: .int (iI i) :: .ref a :: rest)) := by
  refine va_iast hx hb hK hP hD hS q0 t0 ha ht (iI_in h hn) hdg (fun H1 locs1 h1 h2 h3 => ?_)
  rw [iI_nat (by omega), iF_upd] at h1 h2
  exact k H1 locs1 h1 h2 h3
theorem zt_cald (hx : p.tables.exec = Jvm.exec) (hb : c.code = cc) (hK : va_K D cl tys s) (hP : va_P D cl ws H) (q0 : Nat) (t0 : Nat) {cA : ClassId} {n : Nat} {f : Nat → Int32} (ha : ws[q0]? = some (a, .inl (cA, n, .inl f))) (ht : tys[t0]? = some (cA, .char)) (hn : n < 2147483648) {i : Int} (h : 0 ≤ i ∧ i < (n : Int)) (hdg : decode cc pc = .ok (.caload, 1))
    (k : ∀ y : Int32, W p l e R s m args below meth c H locs cells slots Q (F0 m (pc + 1) ls (.int y :: rest))) : W p l e R s m args below meth c H locs cells slots Q (F0 m pc ls (.int (iI i) :: .ref a :: rest)) :=
  va_cald hx hb hK hP q0 t0 ha ht (iI_in h hn) hdg (k _)
theorem zt_cast (hx : p.tables.exec = Jvm.exec) (hb : c.code = cc) (hK : va_K D cl tys s) (hP : va_P D cl ws H) (hD : va_D A ws) (hS : va_S A H0 H locs) (q0 : Nat) (t0 : Nat) {cA : ClassId} {n : Nat} {f : Nat → Int32} (ha : ws[q0]? = some (a, .inl (cA, n, .inl f))) (ht : tys[t0]? = some (cA, .char)) (hn : n < 2147483648) {i : Int} {x : Int32} (h : 0 ≤ i ∧ i < (n : Int)) (hdg : decode cc pc = .ok (.castore, 1))
    (k : ∀ (f1 : Nat → Int32) (H1 : Heap) (locs1 : List Loc), va_P D cl (ws.set q0 (a, .inl (cA, n, .inl f1))) H1 → va_D A (ws.set q0 (a, .inl (cA, n, .inl f1))) → va_S A H0 H1 locs1 → W p l e R s m args below meth c H1 locs1 cells slots Q (F0 m (pc + 1) ls rest)) : W p l e R s m args below meth c H locs cells slots Q (F0 m pc ls (.int x :: .int (iI i) :: .ref a :: rest)) :=
  va_cast hx hb hK hP hD hS q0 t0 ha ht (iI_in h hn) hdg (fun H1 locs1 h1 h2 h3 => k _ H1 locs1 h1 h2 h3)
end ZA
end ZT
/-! what every method knows: the classes, the three kinds of array, the fields of nest mates -/
def zN (U : State) : Prop := va_AO RX4 U ∧ va_Nw (.fieldLinkNest RX6 122 "Threetwo$Buffer" "rateNow" "I" "Threetwo") U ∧ va_Nw (.fieldLinkNest RX6 127 "Threetwo$Buffer" "sizes" "LThreetwo$Row;" "Threetwo") U ∧ va_Nw (.fieldLinkNest RX6 135 "Threetwo$Rhythm" "places" "[I" "Threetwo") U ∧ va_Nw (.fieldLinkNest RX6 139 "Threetwo$Rhythm" "frameOf" "[I" "Threetwo") U ∧ va_Nw (.fieldLinkNest RX6 148 "Threetwo$Rhythm" "frames" "I" "Threetwo") U ∧ va_Nw (.fieldLinkNest RX6 156 "Threetwo$Rhythm" "frameLooks" "[I" "Threetwo") U ∧ va_Nw (.fieldLinkNest RX6 159 "Threetwo$Rhythm" "firsts" "[I" "Threetwo") U ∧ va_Nw (.fieldLinkNest RX6 162 "Threetwo$Rhythm" "lengths" "[I" "Threetwo") U ∧ va_Nw (.fieldLinkNest RX6 184 "Threetwo$Strip" "notes" "I" "Threetwo") U ∧ va_Nw (.fieldLinkNest RX6 187 "Threetwo$Rhythm" "cost" "I" "Threetwo") U ∧ va_Nw (.fieldLinkNest RX6 190 "Threetwo$Prints" "many" "I" "Threetwo") U ∧ va_Nw (.fieldLinkNest RX6 79 "Threetwo$Strip" "looks" "LThreetwo$Row;" "Threetwo") U
theorem zN.warm {s U : State} (hW : s.WarmedH U.vm) (h : zN s) : zN U := by
  obtain ⟨h0, h1, h2, h3, h4, h5, h6, h7, h8, h9, h10, h11, h12⟩ := h
  exact ⟨va_AO.moved hW.alike h0, va_Nw.warmF hW h1, va_Nw.warmF hW h2, va_Nw.warmF hW h3, va_Nw.warmF hW h4, va_Nw.warmF hW h5, va_Nw.warmF hW h6, va_Nw.warmF hW h7, va_Nw.warmF hW h8, va_Nw.warmF hW h9, va_Nw.warmF hW h10, va_Nw.warmF hW h11, va_Nw.warmF hW h12⟩
theorem zN.same {u U : State} (hv : u.vm = U.vm) (h : zN u) : zN U := by
  obtain ⟨h0, h1, h2, h3, h4, h5, h6, h7, h8, h9, h10, h11, h12⟩ := h
  exact ⟨va_AO.moved (hv ▸ Vm.Alike.refl u.vm) h0, va_Nw.same rfl hv h1, va_Nw.same rfl hv h2, va_Nw.same rfl hv h3, va_Nw.same rfl hv h4, va_Nw.same rfl hv h5, va_Nw.same rfl hv h6, va_Nw.same rfl hv h7, va_Nw.same rfl hv h8, va_Nw.same rfl hv h9, va_Nw.same rfl hv h10, va_Nw.same rfl hv h11, va_Nw.same rfl hv h12⟩
def zK (D : va_G) (gi gc gr : ClassId) (U : State) : Prop := va_K D vwCl [(gi, .int), (gc, .char), (gr, .object "Threetwo$Row")] U ∧ zN U
theorem zK.warm {D : va_G} {gi gc gr : ClassId} {s U : State} (hW : s.WarmedH U.vm) (h : zK D gi gc gr s) : zK D gi gc gr U := ⟨va_K.moved hW.alike h.1, h.2.warm hW⟩
theorem zK.same {D : va_G} {gi gc gr : ClassId} {u U : State} (hv : u.vm = U.vm) (h : zK D gi gc gr u) : zK D gi gc gr U := ⟨va_K.moved (hv ▸ Vm.Alike.refl u.vm) h.1, h.2.same hv⟩
/-- a method's start, where it only reads: the cells that it needs (they may be named twice) -/
def zPr (D : va_G) (gi gc gr : ClassId) (w : va_W) (av : List Value) : Array Value → State → Prop := fun v U => v = av.toArray ∧ va_P D vwCl w U.heap ∧ zK D gi gc gr U
/-- a method's start, where it writes: its cells, apart -/
def zPw (D : va_G) (gi gc gr : ClassId) (w : va_W) (sz : Nat) (av : List Value) : Array Value → State → Prop := fun v U => v = av.toArray ∧ U.heap.size = sz ∧ va_P D vwCl w U.heap ∧ zK D gi gc gr U ∧ va_D (fun _ => True) w
theorem zPr.blind {D : va_G} {gi gc gr : ClassId} {w : va_W} {av : List Value} : FrameBlind (zPr D gi gc gr w av) := fun a U g mk q => ⟨q.1, q.2.1, zK.same (u := U) (U := U.calling g mk a) rfl q.2.2⟩
theorem zPw.blind {D : va_G} {gi gc gr : ClassId} {w : va_W} {sz : Nat} {av : List Value} : FrameBlind (zPw D gi gc gr w sz av) := fun a U g mk q => ⟨q.1, q.2.1, q.2.2.1, zK.same (u := U) (U := U.calling g mk a) rfl q.2.2.2.1, q.2.2.2.2⟩
/-- the entry of a method that only reads: it hands back an int, a small int, a long, nothing -/
theorem zt_metRi {l : Launch} {y : MethodName} {ws ws' : List Cond} {rm : Room} {cc : ByteArray} {maxL : Nat} {own : String} {D : va_G} {gi gc gr : ClassId} {w : va_W} {av : List Value} {post : Int32 → Prop}
    (hy : plainName y.cls = true) (hcls : y.cls = own) (hw : ws = Cond.code y cc maxL (some .int) :: ws') (hn : (lg_sl av).length ≤ maxL)
    (body : ∀ (p : Program) (e : Env) (s : State) (m : MethodId) (args : Array Value) (below : List Frame) (meth : Method) (c : Code) (Q : State → Prop), CallFix p m c cc maxL s args ws own → zK D gi gc gr s → va_P D vwCl w s.heap →
      (∀ (v : Int32) (pc : Nat) (ls : Array Slot), post v → decode cc pc = .ok (.ireturn, 1) → W p l e rm s m args below meth c s.heap [] 0 0 Q (F0 m pc ls [.int v])) → ∀ ls : Array Slot, lv_has ls maxL (lv_args 0 av) →
      W p l e rm s m args below meth c s.heap [] 0 0 Q (F0 m 0 ls [])) : Met l y ws rm (zPr D gi gc gr w av) (vp_Si post) 0 0 (fun _ => False) := by
  refine Met.ofW (cc := cc) (maxL := maxL) (ret := some .int) hy hw ?_
  intro p e s m args below meth c s₁ B hml hv
  obtain ⟨rfl, hP, hK⟩ := hv
  have hl := lv_entry av (n := maxL) hn
  rw [lg_entry_eq]
  have hr := B.returns
  have hlk := B.notSynchronized
  have hx := B.exec
  have hb := B.bytes
  exact body p e s m av.toArray below meth c _ ⟨hx, hb, hml, by rw [← hcls]; exact findClass_of_methodNamed B.named, atoms_spec (ws := ws) B.pre⟩ hK hP (fun v pc ls h hdg => W.iret hx hb hr (fun t ht _ => ⟨v, rfl, h, ht⟩) (fun q hq => by cases hq) hdg hlk) _ hl
theorem zt_metRz {l : Launch} {y : MethodName} {ws ws' : List Cond} {rm : Room} {cc : ByteArray} {maxL : Nat} {ty : FieldType} {own : String} {D : va_G} {gi gc gr : ClassId} {w : va_W} {av : List Value} {post : Int32 → Prop}
    (hy : plainName y.cls = true) (hcls : y.cls = own) (hw : ws = Cond.code y cc maxL (some ty) :: ws') (hn : (lg_sl av).length ≤ maxL)
    (body : ∀ (p : Program) (e : Env) (s : State) (m : MethodId) (args : Array Value) (below : List Frame) (meth : Method) (c : Code) (Q : State → Prop), CallFix p m c cc maxL s args ws own → zK D gi gc gr s → va_P D vwCl w s.heap →
      (∀ (v : Int32) (pc : Nat) (ls : Array Slot), narrow ty (.int v) = .int v → post v → decode cc pc = .ok (.ireturn, 1) → W p l e rm s m args below meth c s.heap [] 0 0 Q (F0 m pc ls [.int v])) → ∀ ls : Array Slot, lv_has ls maxL (lv_args 0 av) →
      W p l e rm s m args below meth c s.heap [] 0 0 Q (F0 m 0 ls [])) : Met l y ws rm (zPr D gi gc gr w av) (vp_Si post) 0 0 (fun _ => False) := by
  refine Met.ofW (cc := cc) (maxL := maxL) (ret := some ty) hy hw ?_
  intro p e s m args below meth c s₁ B hml hv
  obtain ⟨rfl, hP, hK⟩ := hv
  have hl := lv_entry av (n := maxL) hn
  rw [lg_entry_eq]
  have hr := B.returns
  have hlk := B.notSynchronized
  have hx := B.exec
  have hb := B.bytes
  exact body p e s m av.toArray below meth c _ ⟨hx, hb, hml, by rw [← hcls]; exact findClass_of_methodNamed B.named, atoms_spec (ws := ws) B.pre⟩ hK hP (fun v pc ls hn h hdg => W.zret hx hb hr hn (fun t ht _ => ⟨v, rfl, h, ht⟩) (fun q hq => by cases hq) hdg hlk) _ hl
theorem zt_metRl {l : Launch} {y : MethodName} {ws ws' : List Cond} {rm : Room} {cc : ByteArray} {maxL : Nat} {own : String} {D : va_G} {gi gc gr : ClassId} {w : va_W} {av : List Value} {post : Int64 → Prop}
    (hy : plainName y.cls = true) (hcls : y.cls = own) (hw : ws = Cond.code y cc maxL (some .long) :: ws') (hn : (lg_sl av).length ≤ maxL)
    (body : ∀ (p : Program) (e : Env) (s : State) (m : MethodId) (args : Array Value) (below : List Frame) (meth : Method) (c : Code) (Q : State → Prop), CallFix p m c cc maxL s args ws own → zK D gi gc gr s → va_P D vwCl w s.heap →
      (∀ (v : Int64) (pc : Nat) (ls : Array Slot), post v → decode cc pc = .ok (.lreturn, 1) → W p l e rm s m args below meth c s.heap [] 0 0 Q (F0 m pc ls [.long v])) → ∀ ls : Array Slot, lv_has ls maxL (lv_args 0 av) →
      W p l e rm s m args below meth c s.heap [] 0 0 Q (F0 m 0 ls [])) : Met l y ws rm (zPr D gi gc gr w av) (vp_Sl post) 0 0 (fun _ => False) := by
  refine Met.ofW (cc := cc) (maxL := maxL) (ret := some .long) hy hw ?_
  intro p e s m args below meth c s₁ B hml hv
  obtain ⟨rfl, hP, hK⟩ := hv
  have hl := lv_entry av (n := maxL) hn
  rw [lg_entry_eq]
  have hr := B.returns
  have hlk := B.notSynchronized
  have hx := B.exec
  have hb := B.bytes
  exact body p e s m av.toArray below meth c _ ⟨hx, hb, hml, by rw [← hcls]; exact findClass_of_methodNamed B.named, atoms_spec (ws := ws) B.pre⟩ hK hP (fun v pc ls h hdg => W.lret hx hb hr (fun t ht _ => ⟨v, rfl, h, ht⟩) (fun q hq => by cases hq) hdg hlk) _ hl
theorem zt_metRv {l : Launch} {y : MethodName} {ws ws' : List Cond} {rm : Room} {cc : ByteArray} {maxL : Nat} {own : String} {D : va_G} {gi gc gr : ClassId} {w : va_W} {av : List Value} {post : Unit → Prop}
    (hy : plainName y.cls = true) (hcls : y.cls = own) (hw : ws = Cond.code y cc maxL none :: ws') (hn : (lg_sl av).length ≤ maxL)
    (body : ∀ (p : Program) (e : Env) (s : State) (m : MethodId) (args : Array Value) (below : List Frame) (meth : Method) (c : Code) (Q : State → Prop), CallFix p m c cc maxL s args ws own → zK D gi gc gr s → va_P D vwCl w s.heap →
      (∀ (pc : Nat) (ls : Array Slot), post () → decode cc pc = .ok (.return_, 1) → W p l e rm s m args below meth c s.heap [] 0 0 Q (F0 m pc ls [])) → ∀ ls : Array Slot, lv_has ls maxL (lv_args 0 av) →
      W p l e rm s m args below meth c s.heap [] 0 0 Q (F0 m 0 ls [])) : Met l y ws rm (zPr D gi gc gr w av) (va_Sv post) 0 0 (fun _ => False) := by
  refine Met.ofW (cc := cc) (maxL := maxL) (ret := none) hy hw ?_
  intro p e s m args below meth c s₁ B hml hv
  obtain ⟨rfl, hP, hK⟩ := hv
  have hl := lv_entry av (n := maxL) hn
  rw [lg_entry_eq]
  have hr := B.returns
  have hlk := B.notSynchronized
  have hx := B.exec
  have hb := B.bytes
  exact body p e s m av.toArray below meth c _ ⟨hx, hb, hml, by rw [← hcls]; exact findClass_of_methodNamed B.named, atoms_spec (ws := ws) B.pre⟩ hK hP (fun pc ls h hdg => W.vret hx hb hr (fun t ht _ => ⟨rfl, h, ht⟩) (fun q hq => by cases hq) hdg hlk) _ hl
/-- what stands behind a method that writes: the answer u of its kind, the cells wf u -/
def zB {S : Type} (D : va_G) (A : Nat → Prop) (wf : S → va_W) : S → State → Prop := fun u t => va_P D vwCl (wf u) t.heap ∧ va_D A (wf u)
theorem zt_metWi {S : Type} {l : Launch} {y : MethodName} {ws ws' : List Cond} {rm : Room} {cc : ByteArray} {maxL mc ms : Nat} {own : String} {D : va_G} {gi gc gr : ClassId} {w : va_W} {sz : Nat} {av : List Value} {post : Int32 → S → Prop} {wf : S → va_W}
    (hy : plainName y.cls = true) (hcls : y.cls = own) (hw : ws = Cond.code y cc maxL (some .int) :: ws') (hn : (lg_sl av).length ≤ maxL)
    (body : ∀ (p : Program) (e : Env) (s : State) (m : MethodId) (args : Array Value) (below : List Frame) (meth : Method) (c : Code) (Q : State → Prop) (A : Nat → Prop), CallFix p m c cc maxL s args ws own → zK D gi gc gr s → va_P D vwCl w s.heap → va_D A w → va_S A s.heap s.heap [] → (∀ q : Nat, s.heap.size ≤ q → A q) → (y.name = "<init>" → meth.name = "<init>") →
      (∀ (u : S) (v : Int32) (pc : Nat) (ls : Array Slot) (H : Heap) (locs : List Loc), post v u → va_P D vwCl (wf u) H → va_D A (wf u) → va_S A s.heap H locs → decode cc pc = .ok (.ireturn, 1) → W p l e rm s m args below meth c H locs mc ms Q (F0 m pc ls [.int v])) → ∀ ls : Array Slot, lv_has ls maxL (lv_args 0 av) →
      W p l e rm s m args below meth c s.heap [] 0 0 Q (F0 m 0 ls [])) : Met l y ws rm (zPw D gi gc gr w sz av) (va_Qi post (zB D (va_A w sz) wf) (va_A w sz)) mc ms (va_A w sz) := by
  refine Met.ofW (cc := cc) (maxL := maxL) (ret := (some .int)) hy hw ?_
  intro p e s m args below meth c s₁ B hml hv
  obtain ⟨rfl, hsz, hP, hK, hD⟩ := hv
  have hl := lv_entry av (n := maxL) hn
  rw [lg_entry_eq]
  have hr := B.returns
  have hlk := B.notSynchronized
  have hx := B.exec
  have hb := B.bytes
  exact body p e s m av.toArray below meth c _ (va_A w sz) ⟨hx, hb, hml, by rw [← hcls]; exact findClass_of_methodNamed B.named, atoms_spec (ws := ws) B.pre⟩ hK hP hD.self va_S.rf (fun q h => Or.inr (hsz ▸ h)) (fun hi => (name_of_methodNamed B.named B.method).1.trans hi) (fun u v pc ls H locs h hP hD hS hdg => W.iret hx hb hr (fun t ht _ => ⟨⟨v, u, rfl, h, by rw [ht]; exact hP, hD⟩, hS.F ht⟩) hS.2.2 hdg hlk) _ hl
theorem zt_metWz {S : Type} {l : Launch} {y : MethodName} {ws ws' : List Cond} {rm : Room} {cc : ByteArray} {maxL mc ms : Nat} {ty : FieldType} {own : String} {D : va_G} {gi gc gr : ClassId} {w : va_W} {sz : Nat} {av : List Value} {post : Int32 → S → Prop} {wf : S → va_W}
    (hy : plainName y.cls = true) (hcls : y.cls = own) (hw : ws = Cond.code y cc maxL (some ty) :: ws') (hn : (lg_sl av).length ≤ maxL)
    (body : ∀ (p : Program) (e : Env) (s : State) (m : MethodId) (args : Array Value) (below : List Frame) (meth : Method) (c : Code) (Q : State → Prop) (A : Nat → Prop), CallFix p m c cc maxL s args ws own → zK D gi gc gr s → va_P D vwCl w s.heap → va_D A w → va_S A s.heap s.heap [] → (∀ q : Nat, s.heap.size ≤ q → A q) → (y.name = "<init>" → meth.name = "<init>") →
      (∀ (u : S) (v : Int32) (pc : Nat) (ls : Array Slot) (H : Heap) (locs : List Loc), narrow ty (.int v) = .int v → post v u → va_P D vwCl (wf u) H → va_D A (wf u) → va_S A s.heap H locs → decode cc pc = .ok (.ireturn, 1) → W p l e rm s m args below meth c H locs mc ms Q (F0 m pc ls [.int v])) → ∀ ls : Array Slot, lv_has ls maxL (lv_args 0 av) →
      W p l e rm s m args below meth c s.heap [] 0 0 Q (F0 m 0 ls [])) : Met l y ws rm (zPw D gi gc gr w sz av) (va_Qi post (zB D (va_A w sz) wf) (va_A w sz)) mc ms (va_A w sz) := by
  refine Met.ofW (cc := cc) (maxL := maxL) (ret := (some ty)) hy hw ?_
  intro p e s m args below meth c s₁ B hml hv
  obtain ⟨rfl, hsz, hP, hK, hD⟩ := hv
  have hl := lv_entry av (n := maxL) hn
  rw [lg_entry_eq]
  have hr := B.returns
  have hlk := B.notSynchronized
  have hx := B.exec
  have hb := B.bytes
  exact body p e s m av.toArray below meth c _ (va_A w sz) ⟨hx, hb, hml, by rw [← hcls]; exact findClass_of_methodNamed B.named, atoms_spec (ws := ws) B.pre⟩ hK hP hD.self va_S.rf (fun q h => Or.inr (hsz ▸ h)) (fun hi => (name_of_methodNamed B.named B.method).1.trans hi) (fun u v pc ls H locs hn h hP hD hS hdg => W.zret hx hb hr hn (fun t ht _ => ⟨⟨v, u, rfl, h, by rw [ht]; exact hP, hD⟩, hS.F ht⟩) hS.2.2 hdg hlk) _ hl
theorem zt_metWl {S : Type} {l : Launch} {y : MethodName} {ws ws' : List Cond} {rm : Room} {cc : ByteArray} {maxL mc ms : Nat} {own : String} {D : va_G} {gi gc gr : ClassId} {w : va_W} {sz : Nat} {av : List Value} {post : Int64 → S → Prop} {wf : S → va_W}
    (hy : plainName y.cls = true) (hcls : y.cls = own) (hw : ws = Cond.code y cc maxL (some .long) :: ws') (hn : (lg_sl av).length ≤ maxL)
    (body : ∀ (p : Program) (e : Env) (s : State) (m : MethodId) (args : Array Value) (below : List Frame) (meth : Method) (c : Code) (Q : State → Prop) (A : Nat → Prop), CallFix p m c cc maxL s args ws own → zK D gi gc gr s → va_P D vwCl w s.heap → va_D A w → va_S A s.heap s.heap [] → (∀ q : Nat, s.heap.size ≤ q → A q) → (y.name = "<init>" → meth.name = "<init>") →
      (∀ (u : S) (v : Int64) (pc : Nat) (ls : Array Slot) (H : Heap) (locs : List Loc), post v u → va_P D vwCl (wf u) H → va_D A (wf u) → va_S A s.heap H locs → decode cc pc = .ok (.lreturn, 1) → W p l e rm s m args below meth c H locs mc ms Q (F0 m pc ls [.long v])) → ∀ ls : Array Slot, lv_has ls maxL (lv_args 0 av) →
      W p l e rm s m args below meth c s.heap [] 0 0 Q (F0 m 0 ls [])) : Met l y ws rm (zPw D gi gc gr w sz av) (va_Ql post (zB D (va_A w sz) wf) (va_A w sz)) mc ms (va_A w sz) := by
  refine Met.ofW (cc := cc) (maxL := maxL) (ret := (some .long)) hy hw ?_
  intro p e s m args below meth c s₁ B hml hv
  obtain ⟨rfl, hsz, hP, hK, hD⟩ := hv
  have hl := lv_entry av (n := maxL) hn
  rw [lg_entry_eq]
  have hr := B.returns
  have hlk := B.notSynchronized
  have hx := B.exec
  have hb := B.bytes
  exact body p e s m av.toArray below meth c _ (va_A w sz) ⟨hx, hb, hml, by rw [← hcls]; exact findClass_of_methodNamed B.named, atoms_spec (ws := ws) B.pre⟩ hK hP hD.self va_S.rf (fun q h => Or.inr (hsz ▸ h)) (fun hi => (name_of_methodNamed B.named B.method).1.trans hi) (fun u v pc ls H locs h hP hD hS hdg => W.lret hx hb hr (fun t ht _ => ⟨⟨v, u, rfl, h, by rw [ht]; exact hP, hD⟩, hS.F ht⟩) hS.2.2 hdg hlk) _ hl
theorem zt_metWv {S : Type} {l : Launch} {y : MethodName} {ws ws' : List Cond} {rm : Room} {cc : ByteArray} {maxL mc ms : Nat} {own : String} {D : va_G} {gi gc gr : ClassId} {w : va_W} {sz : Nat} {av : List Value} {post : S → Prop} {wf : S → va_W}
    (hy : plainName y.cls = true) (hcls : y.cls = own) (hw : ws = Cond.code y cc maxL none :: ws') (hn : (lg_sl av).length ≤ maxL)
    (body : ∀ (p : Program) (e : Env) (s : State) (m : MethodId) (args : Array Value) (below : List Frame) (meth : Method) (c : Code) (Q : State → Prop) (A : Nat → Prop), CallFix p m c cc maxL s args ws own → zK D gi gc gr s → va_P D vwCl w s.heap → va_D A w → va_S A s.heap s.heap [] → (∀ q : Nat, s.heap.size ≤ q → A q) → (y.name = "<init>" → meth.name = "<init>") →
      (∀ (u : S) (pc : Nat) (ls : Array Slot) (H : Heap) (locs : List Loc), post u → va_P D vwCl (wf u) H → va_D A (wf u) → va_S A s.heap H locs → decode cc pc = .ok (.return_, 1) → W p l e rm s m args below meth c H locs mc ms Q (F0 m pc ls [])) → ∀ ls : Array Slot, lv_has ls maxL (lv_args 0 av) →
      W p l e rm s m args below meth c s.heap [] 0 0 Q (F0 m 0 ls [])) : Met l y ws rm (zPw D gi gc gr w sz av) (va_Qv post (zB D (va_A w sz) wf) (va_A w sz)) mc ms (va_A w sz) := by
  refine Met.ofW (cc := cc) (maxL := maxL) (ret := none) hy hw ?_
  intro p e s m args below meth c s₁ B hml hv
  obtain ⟨rfl, hsz, hP, hK, hD⟩ := hv
  have hl := lv_entry av (n := maxL) hn
  rw [lg_entry_eq]
  have hr := B.returns
  have hlk := B.notSynchronized
  have hx := B.exec
  have hb := B.bytes
  exact body p e s m av.toArray below meth c _ (va_A w sz) ⟨hx, hb, hml, by rw [← hcls]; exact findClass_of_methodNamed B.named, atoms_spec (ws := ws) B.pre⟩ hK hP hD.self va_S.rf (fun q h => Or.inr (hsz ▸ h)) (fun hi => (name_of_methodNamed B.named B.method).1.trans hi) (fun u pc ls H locs h hP hD hS hdg => W.vret hx hb hr (fun t ht _ => ⟨⟨u, rfl, h, by rw [ht]; exact hP, hD⟩, hS.F ht⟩) hS.2.2 hdg hlk) _ hl
section ZC
variable {p : Program} {l : Launch} {e : Env} {R : Room} {s : State} {m : MethodId} {args : Array Value} {below : List Frame} {meth : Method} {c : Code} {H : Heap} {locs : List Loc} {cells slots : Nat} {Q : State → Prop}
variable {cc : ByteArray} {pc : Nat} {ls : Array Slot} {nL : Nat} {D : va_G} {gi gc gr : ClassId} {wc : va_W}
variable {y : MethodName} {bytes : ByteArray} {maxL mc ms n index : Nat} {ret : Option FieldType} {ws : List Cond} {rm : Room} {Ts : List Cond} {own C : String} {b : Addr} {st0 : List Value}
theorem zt_preV (hK : zK D gi gc gr s) (hP : va_P D vwCl wc H) (As : List Value) {ci : Nat} {fs : List Value} (q0 : Nat) (he : wc[q0]? = some (b, .inr (ci, fs))) {T : u_T} {N : Nat} (hc : vwCl[ci]? = some (C, T, N)) : PreV s H C b (zPr D gi gc gr wc (.ref b :: As)) As :=
  ⟨zPr.blind, va_recv hK.1 hP hc he, fun U hU hW => ⟨rfl, by rw [hU]; exact hP, hK.warm hW⟩⟩
theorem zt_preS (hK : zK D gi gc gr s) (hP : va_P D vwCl wc H) (As : List Value) : PreS s H (zPr D gi gc gr wc As) As :=
  ⟨zPr.blind, fun U hU hW => ⟨rfl, by rw [hU]; exact hP, hK.warm hW⟩⟩
/-- a call of a method that only reads: an int -/
theorem zt_callV (S : CallFix p m c cc nL s args Ts own) {As rest : List Value} {post : Int32 → Prop} (hM : Met l y ws rm (zPr D gi gc gr wc (.ref b :: As)) (vp_Si post) 0 0 (fun _ => False)) (cw : CallW R s args own C index y bytes maxL ret ws rm 0 0 n) (hp : PreV s H C b (zPr D gi gc gr wc (.ref b :: As)) As)
    (hn : As.length = n) (hsize : ls.size = nL) (hstack : st0 = As.reverse ++ .ref b :: rest) (hW : (rest.map fun v => v.category).sum ≤ 8) (hdg : decode cc pc = .ok (.invokevirtual index, 3)) (hf : cells ≤ R.cells ∧ slots ≤ R.slots)
    (kk : ∀ r : Int32, post r → W p l e R s m args below meth c H locs cells slots Q (F0 m (pc + 3) ls (.int r :: rest))) : W p l e R s m args below meth c H locs cells slots Q (F0 m pc ls st0) :=
  vp_callSi ((va_runV S hM cw hp rfl hn hsize hstack (lv_room hW) hdg hf).run) kk
theorem zt_callS (S : CallFix p m c cc nL s args Ts own) {As rest : List Value} {post : Int32 → Prop} (hM : Met l y ws rm (zPr D gi gc gr wc As) (vp_Si post) 0 0 (fun _ => False)) (cw : CallB R s args own index y bytes maxL ret ws rm 0 0 n ∧ (Cond.static y).before args s = true) (hp : PreS s H (zPr D gi gc gr wc As) As)
    (hn : As.length = n) (hsize : ls.size = nL) (hstack : st0 = As.reverse ++ rest) (hW : (rest.map fun v => v.category).sum ≤ 8) (hdg : decode cc pc = .ok (.invokestatic index, 3)) (hf : cells ≤ R.cells ∧ slots ≤ R.slots)
    (kk : ∀ r : Int32, post r → W p l e R s m args below meth c H locs cells slots Q (F0 m (pc + 3) ls (.int r :: rest))) : W p l e R s m args below meth c H locs cells slots Q (F0 m pc ls st0) :=
  vp_callSi ((va_runS S hM cw hp rfl hn hsize hstack (lv_room hW) hdg hf).run) kk
/-- a call of a method that only reads: a long -/
theorem zt_callVl (S : CallFix p m c cc nL s args Ts own) {As rest : List Value} {post : Int64 → Prop} (hM : Met l y ws rm (zPr D gi gc gr wc (.ref b :: As)) (vp_Sl post) 0 0 (fun _ => False)) (cw : CallW R s args own C index y bytes maxL ret ws rm 0 0 n) (hp : PreV s H C b (zPr D gi gc gr wc (.ref b :: As)) As)
    (hn : As.length = n) (hsize : ls.size = nL) (hstack : st0 = As.reverse ++ .ref b :: rest) (hW : (rest.map fun v => v.category).sum ≤ 8) (hdg : decode cc pc = .ok (.invokevirtual index, 3)) (hf : cells ≤ R.cells ∧ slots ≤ R.slots)
    (kk : ∀ r : Int64, post r → W p l e R s m args below meth c H locs cells slots Q (F0 m (pc + 3) ls (.long r :: rest))) : W p l e R s m args below meth c H locs cells slots Q (F0 m pc ls st0) :=
  vp_callSl ((va_runV S hM cw hp rfl hn hsize hstack (lv_room hW) hdg hf).run) kk
/-- .. nothing -/
theorem zt_callVv (S : CallFix p m c cc nL s args Ts own) {As rest : List Value} {post : Unit → Prop} (hM : Met l y ws rm (zPr D gi gc gr wc (.ref b :: As)) (va_Sv post) 0 0 (fun _ => False)) (cw : CallW R s args own C index y bytes maxL ret ws rm 0 0 n) (hp : PreV s H C b (zPr D gi gc gr wc (.ref b :: As)) As)
    (hn : As.length = n) (hsize : ls.size = nL) (hstack : st0 = As.reverse ++ .ref b :: rest) (hW : (rest.map fun v => v.category).sum ≤ 8) (hdg : decode cc pc = .ok (.invokevirtual index, 3)) (hf : cells ≤ R.cells ∧ slots ≤ R.slots)
    (kk : post () → W p l e R s m args below meth c H locs cells slots Q (F0 m (pc + 3) ls rest)) : W p l e R s m args below meth c H locs cells slots Q (F0 m pc ls st0) :=
  va_csv ((va_runV S hM cw hp rfl hn hsize hstack (lv_room hW) hdg hf).run) kk
/-- the start of a call of a method that writes -/
theorem zt_preVw {A0 : Nat → Prop} (hK : zK D gi gc gr s) (hP : va_P D vwCl wc H) (hD : va_D A0 wc) (As : List Value) {ci : Nat} {fs : List Value} (q0 : Nat) (he : wc[q0]? = some (b, .inr (ci, fs))) {T : u_T} {N : Nat} (hc : vwCl[ci]? = some (C, T, N)) : PreV s H C b (zPw D gi gc gr wc H.size (.ref b :: As)) As :=
  ⟨zPw.blind, va_recv hK.1 hP hc he, fun U hU hW => ⟨rfl, by rw [hU], by rw [hU]; exact hP, hK.warm hW, hD.weaken (fun _ _ _ _ => trivial)⟩⟩
theorem zt_preSw {A0 : Nat → Prop} (hK : zK D gi gc gr s) (hP : va_P D vwCl wc H) (hD : va_D A0 wc) (As : List Value) : PreS s H (zPw D gi gc gr wc H.size As) As :=
  ⟨zPw.blind, fun U hU hW => ⟨rfl, by rw [hU], by rw [hU]; exact hP, hK.warm hW, hD.weaken (fun _ _ _ _ => trivial)⟩⟩
/-- behind a call of a method that writes: the world as it was, its cells (at the places isC) as they have become -/
theorem zt_back {A0 : Nat → Prop} {w wr w1 wn : va_W} {H1 : Heap} (hP : va_P D vwCl w H) (hD : va_D A0 w) (isC isR pm : List Nat) (hC : isC.map (fun i => w[i]?) = wc.map some) (hR : isR.map (fun i => w[i]?) = wr.map some) (hn : va_nd isR = true) (hdis : ∀ i ∈ isR, i ∉ isC) (hk : ∀ q : Nat, q < H.size → ¬ va_A wc H.size q → H1[q]? = H[q]?) (hF : ∀ q, va_A wc H.size q → A0 q) (hP1 : va_P D vwCl w1 H1) (hD1 : va_D (va_A wc H.size) w1)
    (hp1 : pm.map (fun i => (wr ++ w1)[i]?) = wn.map some) (hp2 : va_nd pm = true) : va_P D vwCl wn H1 ∧ va_D A0 wn := by
  obtain ⟨a, b⟩ := va_join hP hD isC isR hC hR hn hdis hk hF hP1 hD1
  refine ⟨a.sub pm ?_, b.sub pm hp2 hp1⟩
  have h : (pm.map (fun i => (wr ++ w1)[i]?)).filterMap id = (wn.map some).filterMap id := by rw [hp1]
  rw [List.filterMap_map, List.filterMap_map] at h
  simpa using h
end ZC
theorem iI_ofN (n : Nat) : Int32.ofNat n = iI (n : Int) := Int32.ofInt_eq_ofNat.symm
theorem iI_min {x y : Int} (h : (-2147483648 ≤ x ∧ x < 2147483648) ∧ (-2147483648 ≤ y ∧ y < 2147483648)) : (if iI y < iI x then iI y else iI x) = iI (if y < x then y else x) := by
  by_cases q : y < x
  · rw [if_pos q, if_pos ((iI_lt h.2 h.1).mpr q)]
  · rw [if_neg q, if_neg (fun z => q ((iI_lt h.2 h.1).mp z))]
theorem iI_max {x y : Int} (h : (-2147483648 ≤ x ∧ x < 2147483648) ∧ (-2147483648 ≤ y ∧ y < 2147483648)) : (if iI x < iI y then iI y else iI x) = iI (if x < y then y else x) := by
  by_cases q : x < y
  · rw [if_pos q, if_pos ((iI_lt h.1 h.2).mpr q)]
  · rw [if_neg q, if_neg (fun z => q ((iI_lt h.1 h.2).mp z))]
theorem iI_abs {x : Int} (h : -2147483648 ≤ x ∧ x < 2147483648) : (if 0 ≤ iI x then iI x else 0 - iI x) = iI (if 0 ≤ x then x else - x) := by
  have e : (0 ≤ iI x) ↔ 0 ≤ x := by rw [← iI_0, iI_le (by omega) h]
  by_cases q : 0 ≤ x
  · rw [if_pos q, if_pos (e.mpr q)]
  · rw [if_neg q, if_neg (fun z => q (e.mp z)), ← iI_0, iI_sub]
    congr 1
    omega
section ZM
variable {p : Program} {l : Launch} {e : Env} {R : Room} {s : State} {m : MethodId} {args : Array Value} {below : List Frame} {meth : Method} {c : Code} {H : Heap} {locs : List Loc} {cells slots : Nat} {Q : State → Prop}
variable {cc : ByteArray} {pc : Nat} {ls : Array Slot} {rest : List Value}
theorem zt_mmax (hx : p.tables.exec = Jvm.exec) (hb : c.code = cc) (hml : c.maxLocals = ls.size) {own : String} {index : Nat} (hown : s.vm.findClass own = some m.cls) (hlink : (Cond.methodLink own index Lib.Math.max.name).before args s = true) (hstat : (Cond.static Lib.Math.max.name).before args s = true) (hini : (Cond.initialized "java/lang/Math").before args s = true) (hcode : (Cond.code Lib.Math.max.name Lib.Math.max.code 2 (some .int)).before args s = true)
    (hframes : 1 ≤ R.frames) (hlocals : (rest.map fun v => v.category).sum + 13 ≤ R.locals) (hc : cells ≤ R.cells) (hs : slots ≤ R.slots) {x y : Int} (h : (-2147483648 ≤ x ∧ x < 2147483648) ∧ (-2147483648 ≤ y ∧ y < 2147483648)) (hdg : decode cc pc = .ok (.invokestatic index, 3))
    (kk : ∀ z : Int, z = (if x < y then y else x) → W p l e R s m args below meth c H locs cells slots Q (F0 m (pc + 3) ls (.int (iI z) :: rest))) : W p l e R s m args below meth c H locs cells slots Q (F0 m pc ls (.int (iI y) :: .int (iI x) :: rest)) :=
  va_mmax hx hb hml hown hlink hstat hini hcode hframes hlocals hc hs hdg (by rw [iI_max h]; exact kk _ rfl)
theorem zt_mmin (hx : p.tables.exec = Jvm.exec) (hb : c.code = cc) (hml : c.maxLocals = ls.size) {own : String} {index : Nat} (hown : s.vm.findClass own = some m.cls) (hlink : (Cond.methodLink own index Lib.Math.min.name).before args s = true) (hstat : (Cond.static Lib.Math.min.name).before args s = true) (hini : (Cond.initialized "java/lang/Math").before args s = true) (hcode : (Cond.code Lib.Math.min.name Lib.Math.min.code 2 (some .int)).before args s = true)
    (hframes : 1 ≤ R.frames) (hlocals : (rest.map fun v => v.category).sum + 13 ≤ R.locals) (hc : cells ≤ R.cells) (hs : slots ≤ R.slots) {x y : Int} (h : (-2147483648 ≤ x ∧ x < 2147483648) ∧ (-2147483648 ≤ y ∧ y < 2147483648)) (hdg : decode cc pc = .ok (.invokestatic index, 3))
    (kk : ∀ z : Int, z = (if y < x then y else x) → W p l e R s m args below meth c H locs cells slots Q (F0 m (pc + 3) ls (.int (iI z) :: rest))) : W p l e R s m args below meth c H locs cells slots Q (F0 m pc ls (.int (iI y) :: .int (iI x) :: rest)) :=
  va_mmin hx hb hml hown hlink hstat hini hcode hframes hlocals hc hs hdg (by rw [iI_min h]; exact kk _ rfl)
theorem zt_mabs (hx : p.tables.exec = Jvm.exec) (hb : c.code = cc) (hml : c.maxLocals = ls.size) {own : String} {index : Nat} (hown : s.vm.findClass own = some m.cls) (hlink : (Cond.methodLink own index Lib.Math.abs.name).before args s = true) (hstat : (Cond.static Lib.Math.abs.name).before args s = true) (hini : (Cond.initialized "java/lang/Math").before args s = true) (hcode : (Cond.code Lib.Math.abs.name Lib.Math.abs.code 1 (some .int)).before args s = true)
    (hframes : 1 ≤ R.frames) (hlocals : (rest.map fun v => v.category).sum + 13 ≤ R.locals) (hc : cells ≤ R.cells) (hs : slots ≤ R.slots) {x : Int} (h : -2147483648 ≤ x ∧ x < 2147483648) (hdg : decode cc pc = .ok (.invokestatic index, 3))
    (kk : ∀ z : Int, z = (if 0 ≤ x then x else - x) → W p l e R s m args below meth c H locs cells slots Q (F0 m (pc + 3) ls (.int (iI z) :: rest))) : W p l e R s m args below meth c H locs cells slots Q (F0 m pc ls (.int (iI x) :: rest)) :=
  va_mabs hx hb hml hown hlink hstat hini hcode hframes hlocals hc hs hdg (by rw [iI_abs h]; exact kk _ rfl)
end ZM
theorem zK.n122 {D : va_G} {gi gc gr : ClassId} {U : State} (h : zK D gi gc gr U) (args : Array Value) : (Cond.fieldLinkNest RX6 122 "Threetwo$Buffer" "rateNow" "I" "Threetwo").before args U = true := va_Nw.use rfl h.2.2.1
theorem zK.n127 {D : va_G} {gi gc gr : ClassId} {U : State} (h : zK D gi gc gr U) (args : Array Value) : (Cond.fieldLinkNest RX6 127 "Threetwo$Buffer" "sizes" "LThreetwo$Row;" "Threetwo").before args U = true := va_Nw.use rfl h.2.2.2.1
theorem zK.n135 {D : va_G} {gi gc gr : ClassId} {U : State} (h : zK D gi gc gr U) (args : Array Value) : (Cond.fieldLinkNest RX6 135 "Threetwo$Rhythm" "places" "[I" "Threetwo").before args U = true := va_Nw.use rfl h.2.2.2.2.1
theorem zK.n139 {D : va_G} {gi gc gr : ClassId} {U : State} (h : zK D gi gc gr U) (args : Array Value) : (Cond.fieldLinkNest RX6 139 "Threetwo$Rhythm" "frameOf" "[I" "Threetwo").before args U = true := va_Nw.use rfl h.2.2.2.2.2.1
theorem zK.n148 {D : va_G} {gi gc gr : ClassId} {U : State} (h : zK D gi gc gr U) (args : Array Value) : (Cond.fieldLinkNest RX6 148 "Threetwo$Rhythm" "frames" "I" "Threetwo").before args U = true := va_Nw.use rfl h.2.2.2.2.2.2.1
theorem zK.n156 {D : va_G} {gi gc gr : ClassId} {U : State} (h : zK D gi gc gr U) (args : Array Value) : (Cond.fieldLinkNest RX6 156 "Threetwo$Rhythm" "frameLooks" "[I" "Threetwo").before args U = true := va_Nw.use rfl h.2.2.2.2.2.2.2.1
theorem zK.n159 {D : va_G} {gi gc gr : ClassId} {U : State} (h : zK D gi gc gr U) (args : Array Value) : (Cond.fieldLinkNest RX6 159 "Threetwo$Rhythm" "firsts" "[I" "Threetwo").before args U = true := va_Nw.use rfl h.2.2.2.2.2.2.2.2.1
theorem zK.n162 {D : va_G} {gi gc gr : ClassId} {U : State} (h : zK D gi gc gr U) (args : Array Value) : (Cond.fieldLinkNest RX6 162 "Threetwo$Rhythm" "lengths" "[I" "Threetwo").before args U = true := va_Nw.use rfl h.2.2.2.2.2.2.2.2.2.1
theorem zK.n184 {D : va_G} {gi gc gr : ClassId} {U : State} (h : zK D gi gc gr U) (args : Array Value) : (Cond.fieldLinkNest RX6 184 "Threetwo$Strip" "notes" "I" "Threetwo").before args U = true := va_Nw.use rfl h.2.2.2.2.2.2.2.2.2.2.1
theorem zK.n187 {D : va_G} {gi gc gr : ClassId} {U : State} (h : zK D gi gc gr U) (args : Array Value) : (Cond.fieldLinkNest RX6 187 "Threetwo$Rhythm" "cost" "I" "Threetwo").before args U = true := va_Nw.use rfl h.2.2.2.2.2.2.2.2.2.2.2.1
theorem zK.n190 {D : va_G} {gi gc gr : ClassId} {U : State} (h : zK D gi gc gr U) (args : Array Value) : (Cond.fieldLinkNest RX6 190 "Threetwo$Prints" "many" "I" "Threetwo").before args U = true := va_Nw.use rfl h.2.2.2.2.2.2.2.2.2.2.2.2.1
theorem zK.n79 {D : va_G} {gi gc gr : ClassId} {U : State} (h : zK D gi gc gr U) (args : Array Value) : (Cond.fieldLinkNest RX6 79 "Threetwo$Strip" "looks" "LThreetwo$Row;" "Threetwo").before args U = true := va_Nw.use rfl h.2.2.2.2.2.2.2.2.2.2.2.2.2
