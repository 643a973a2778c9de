/-! ===== how far two rows are apart: the least cost of laying one beside the other ===== -/
def tog (x y : Int) : Int := min (if x ≤ y then y - x else x - y) 4
theorem tog_b (x y : Int) : 0 ≤ tog x y ∧ tog x y ≤ 4 := by unfold tog; split <;> omega
theorem tog_s (x y : Int) : tog x y = tog y x := by unfold tog; split <;> split <;> omega
theorem tog_0 (x : Int) : tog x x = 0 := by unfold tog; split <;> omega
theorem tog_t (x y z : Int) : tog x z ≤ tog x y + tog y z := by unfold tog; split <;> split <;> split <;> omega
def Ein (x : Int) (f : List Int → Int) (n : Int) : List Int → Int
  | [] => 2 * n
  | y :: ys => min (tog x y + f ys) (2 + min (f (y :: ys)) (Ein x f n ys))
def E : List Int → List Int → Int
  | [], ys => 2 * (ys.length : Int)
  | x :: xs, ys => Ein x (E xs) ((xs.length : Int) + 1) ys
theorem E_nl (ys : List Int) : E [] ys = 2 * (ys.length : Int) := rfl
theorem E_nr (xs : List Int) : E xs [] = 2 * (xs.length : Int) := by
  cases xs with
  | nil => rfl
  | cons x xs => show 2 * ((xs.length : Int) + 1) = _; rw [List.length_cons]; omega
theorem E_cc (x y : Int) (xs ys : List Int) : E (x :: xs) (y :: ys) = min (tog x y + E xs ys) (2 + min (E xs (y :: ys)) (E (x :: xs) ys)) := rfl
theorem E_ge : ∀ (xs ys : List Int), 0 ≤ E xs ys := by
  intro xs
  induction xs with
  | nil => intro ys; rw [E_nl]; omega
  | cons x xs ih =>
    intro ys
    induction ys with
    | nil => rw [E_nr]; omega
    | cons y ys ih2 =>
      rw [E_cc]
      have h1 := ih ys
      have h2 := ih (y :: ys)
      have h3 := tog_b x y
      omega
theorem E_le : ∀ (xs ys : List Int), E xs ys ≤ 2 * ((xs.length : Int) + (ys.length : Int)) := by
  intro xs
  induction xs with
  | nil => intro ys; rw [E_nl, List.length_nil]; omega
  | cons x xs ih =>
    intro ys
    induction ys with
    | nil => rw [E_nr, List.length_nil]; omega
    | cons y ys ih2 =>
      rw [E_cc]
      have h2 := ih (y :: ys)
      rw [List.length_cons] at h2 ⊢
      rw [List.length_cons]
      omega
theorem E_sy : ∀ (xs ys : List Int), E xs ys = E ys xs := by
  intro xs
  induction xs with
  | nil => intro ys; rw [E_nl, E_nr]
  | cons x xs ih =>
    intro ys
    induction ys with
    | nil => rw [E_nl, E_nr]
    | cons y ys ih2 =>
      rw [E_cc, E_cc, ih ys, ih (y :: ys), ih2, tog_s x y]
      omega
theorem E_0 : ∀ (xs : List Int), E xs xs = 0 := by
  intro xs
  induction xs with
  | nil => rfl
  | cons x xs ih =>
    have h := E_ge (x :: xs) (x :: xs)
    rw [E_cc, ih, tog_0] at h ⊢
    have h1 := E_ge xs (x :: xs)
    have h2 := E_ge (x :: xs) xs
    omega
theorem E_dl (x : Int) (xs ys : List Int) : E (x :: xs) ys ≤ 2 + E xs ys := by
  cases ys with
  | nil => rw [E_nr, E_nr, List.length_cons]; omega
  | cons y ys => rw [E_cc]; omega
theorem E_dr (y : Int) (xs ys : List Int) : E xs (y :: ys) ≤ 2 + E xs ys := by
  cases xs with
  | nil => rw [E_nl, E_nl, List.length_cons]; omega
  | cons x xs => rw [E_cc]; omega
theorem E_t (n : Nat) : ∀ (xs ys zs : List Int), xs.length + ys.length + zs.length ≤ n → E xs zs ≤ E xs ys + E ys zs := by
  induction n with
  | zero =>
    intro xs ys zs h
    have h1 : xs = [] := List.length_eq_zero_iff.mp (by omega)
    have h2 : ys = [] := List.length_eq_zero_iff.mp (by omega)
    have h3 : zs = [] := List.length_eq_zero_iff.mp (by omega)
    subst h1 h2 h3
    exact Int.le_refl _
  | succ n ih =>
    intro xs ys zs h
    cases xs with
    | nil =>
      cases zs with
      | nil => rw [E_nl]; have := E_ge [] ys; have := E_ge ys []; rw [List.length_nil]; omega
      | cons z zs =>
        cases ys with
        | nil => rw [E_nl []]; rw [List.length_nil]; omega
        | cons y ys =>
          simp only [List.length_cons, List.length_nil] at h
          have a1 := ih [] ys zs (by simp only [List.length_nil]; omega)
          have a2 := ih [] ys (z :: zs) (by simp only [List.length_cons, List.length_nil]; omega)
          have a3 := ih [] (y :: ys) zs (by simp only [List.length_cons, List.length_nil]; omega)
          have b := tog_b y z
          rw [E_cc]
          simp only [E_nl, List.length_cons] at a1 a2 a3 ⊢
          omega
    | cons x xs =>
      cases ys with
      | nil =>
        rw [E_nr, E_nl]
        have := E_le (x :: xs) zs
        omega
      | cons y ys =>
        cases zs with
        | nil =>
          simp only [List.length_cons, List.length_nil] at h
          have a1 := ih xs ys [] (by simp only [List.length_nil]; omega)
          have a2 := ih xs (y :: ys) [] (by simp only [List.length_cons, List.length_nil]; omega)
          have a3 := ih (x :: xs) ys [] (by simp only [List.length_cons, List.length_nil]; omega)
          have b := tog_b x y
          rw [E_cc]
          simp only [E_nr, List.length_cons] at a1 a2 a3 ⊢
          omega
        | cons z zs =>
          simp only [List.length_cons] at h
          have a1 := ih xs ys zs (by omega)
          have a2 := ih xs (y :: ys) (z :: zs) (by simp only [List.length_cons]; omega)
          have a3 := ih (x :: xs) (y :: ys) zs (by simp only [List.length_cons]; omega)
          have a4 := ih (x :: xs) ys (z :: zs) (by simp only [List.length_cons]; omega)
          have a5 := ih (x :: xs) ys zs (by simp only [List.length_cons]; omega)
          have a6 := ih xs ys (z :: zs) (by simp only [List.length_cons]; omega)
          have d1 := E_dl x xs zs
          have d2 := E_dr z xs zs
          have d3 := E_dl x xs (z :: zs)
          have d4 := E_dr z (x :: xs) zs
          have b1 := tog_t x y z
          have b2 := tog_b x y
          have b3 := tog_b y z
          have e1 := E_cc x y xs ys
          have e2 := E_cc y z ys zs
          have e3 := E_cc x z xs zs
          omega
/-- the numbers of a row from a place on: the last k of n -/
def sfx (g : Nat → Int) (n : Nat) : Nat → List Int
  | 0 => []
  | k + 1 => g (n - (k + 1)) :: sfx g n k
theorem sfx_len (g : Nat → Int) (n : Nat) : ∀ k, (sfx g n k).length = k := by
  intro k
  induction k with
  | zero => rfl
  | succ k ih => show (_ :: _).length = _; rw [List.length_cons, ih]
def EF (g1 : Nat → Int) (t1 : Int) (g2 : Nat → Int) (t2 i j : Int) : Int := E (sfx g1 t1.toNat (t1 - i).toNat) (sfx g2 t2.toNat (t2 - j).toNat)
theorem EF_l {g1 g2 : Nat → Int} {t1 t2 i j : Int} (hi : t1 ≤ i) (hj : j ≤ t2) : EF g1 t1 g2 t2 i j = 2 * (t2 - j) := by
  unfold EF
  rw [show (t1 - i).toNat = 0 by omega]
  show E [] _ = _
  rw [E_nl, sfx_len]
  omega
theorem EF_r {g1 g2 : Nat → Int} {t1 t2 i j : Int} (hi : i ≤ t1) (hj : t2 ≤ j) : EF g1 t1 g2 t2 i j = 2 * (t1 - i) := by
  unfold EF
  rw [show (t2 - j).toNat = 0 by omega]
  show E _ [] = _
  rw [E_nr, sfx_len]
  omega
theorem EF_c {g1 g2 : Nat → Int} {t1 t2 i j : Int} (hi : 0 ≤ i ∧ i < t1) (hj : 0 ≤ j ∧ j < t2) : EF g1 t1 g2 t2 i j = min (tog (g1 i.toNat) (g2 j.toNat) + EF g1 t1 g2 t2 (i + 1) (j + 1)) (2 + min (EF g1 t1 g2 t2 (i + 1) j) (EF g1 t1 g2 t2 i (j + 1))) := by
  have e1 : sfx g1 t1.toNat (t1 - i).toNat = g1 i.toNat :: sfx g1 t1.toNat (t1 - (i + 1)).toNat := by
    rw [show (t1 - i).toNat = (t1 - (i + 1)).toNat + 1 by omega]
    show g1 _ :: _ = _
    rw [show t1.toNat - ((t1 - (i + 1)).toNat + 1) = i.toNat by omega]
  have e2 : sfx g2 t2.toNat (t2 - j).toNat = g2 j.toNat :: sfx g2 t2.toNat (t2 - (j + 1)).toNat := by
    rw [show (t2 - j).toNat = (t2 - (j + 1)).toNat + 1 by omega]
    show g2 _ :: _ = _
    rw [show t2.toNat - ((t2 - (j + 1)).toNat + 1) = j.toNat by omega]
  unfold EF
  rw [e1, e2, E_cc]
theorem EF_b {g1 g2 : Nat → Int} {t1 t2 i j : Int} (h1 : t1 ≤ 10) (h2 : t2 ≤ 10) (hi : 0 ≤ i) (hj : 0 ≤ j) : 0 ≤ EF g1 t1 g2 t2 i j ∧ EF g1 t1 g2 t2 i j ≤ 40 := by
  unfold EF
  have a := E_ge (sfx g1 t1.toNat (t1 - i).toNat) (sfx g2 t2.toNat (t2 - j).toNat)
  have b := E_le (sfx g1 t1.toNat (t1 - i).toNat) (sfx g2 t2.toNat (t2 - j).toNat)
  rw [sfx_len, sfx_len] at b
  omega
theorem EF_sy (g1 g2 : Nat → Int) (t1 t2 : Int) : EF g1 t1 g2 t2 0 0 = EF g2 t2 g1 t1 0 0 := E_sy _ _
theorem EF_00 (g : Nat → Int) (t : Int) : EF g t g t 0 0 = 0 := E_0 _
theorem EF_t (g1 g2 g3 : Nat → Int) (t1 t2 t3 : Int) : EF g1 t1 g3 t3 0 0 ≤ EF g1 t1 g2 t2 0 0 + EF g2 t2 g3 t3 0 0 := E_t _ _ _ _ (Nat.le_refl _)
/-- the table: right from behind, down to a place -/
def TB (b : Nat → Int) (t1 t2 : Int) (f : Int → Int → Int) (i j : Int) : Prop := ∀ x y : Int, 0 ≤ x → x ≤ t1 → 0 ≤ y → y ≤ t2 → (i < x ∨ (x = i ∧ j < y)) → b (x * 11 + y).toNat = f x y
theorem TB_0 {b : Nat → Int} {t1 t2 : Int} {f : Int → Int → Int} : TB b t1 t2 f t1 t2 := fun x y h1 h2 h3 h4 h5 => absurd h5 (by omega)
theorem TB_row {b : Nat → Int} {t1 t2 : Int} {f : Int → Int → Int} {i : Int} (h : TB b t1 t2 f i (-1)) : TB b t1 t2 f (i - 1) t2 := fun x y h1 h2 h3 h4 h5 => h x y h1 h2 h3 h4 (by omega)
theorem TB_in {b : Nat → Int} {t1 t2 : Int} {f : Int → Int → Int} {i : Int} (h : TB b t1 t2 f i t2) : TB b t1 t2 f i t2 := h
theorem TB_put {b : Nat → Int} {t1 t2 v : Int} {f : Int → Int → Int} {i j : Int} (h2 : t2 ≤ 10) (hi : 0 ≤ i) (hj : 0 ≤ j ∧ j ≤ t2) (h : TB b t1 t2 f i j) (hv : v = f i j) : TB (uP b ((i * 11) + j).toNat v) t1 t2 f i (j - 1) := by
  intro x y h3 h4 h5 h6 h7
  by_cases e : (x * 11 + y).toNat = ((i * 11) + j).toNat
  · rw [e, uP_s]
    have e1 : x = i := by omega
    have e2 : y = j := by omega
    rw [hv, e1, e2]
  · rw [uP_n e]
    exact h x y h3 h4 h5 h6 (by omega)
def sgF (f tg : Int → Int → Int) (t1 t2 i j : Int) : Int := if i < t1 ∧ j < t2 ∧ f i j = tg i j + f (i + 1) (j + 1) then 0 else if i < t1 ∧ f i j = 2 + f (i + 1) j then 1 else 2
def layL (sg : Int → Int → Int) (t1 t2 : Int) : Nat → Int → Int → Int → Int
  | 0, _, _, n => n
  | k + 1, i, j, n => if i < t1 ∨ j < t2 then layL sg t1 t2 k (i + (if sg i j = 2 then 0 else 1)) (j + (if sg i j = 1 then 0 else 1)) (n + 1) else n
theorem layL_s (sg : Int → Int → Int) (t1 t2 : Int) (k : Nat) (i j n : Int) : layL sg t1 t2 (k + 1) i j n = if i < t1 ∨ j < t2 then layL sg t1 t2 k (i + (if sg i j = 2 then 0 else 1)) (j + (if sg i j = 1 then 0 else 1)) (n + 1) else n := rfl
def rF (ra : Nat → Nat) : Nat → Option Nat := fun j => some (ra j)
theorem zt_aald {p : Program} {l : Launch} {e : Env} {R : Room} {s : State} {m : MethodId} {args : Array Value} {below : List Frame} {meth : Method} {c : Code} {H : Heap} {locs : List Loc} {cells slots : Nat} {Q : State → Prop} {cc : ByteArray} {pc : Nat} {ls : Array Slot} {rest : List Value} {D : va_G} {cl : List vw_C} {a : Nat} {tys : List (ClassId × FieldType)} {ws : va_W}
    (hx : p.tables.exec = Jvm.exec) (hb : c.code = cc) (hK : va_K D cl tys s) (hP : va_P D cl ws H) (q0 t0 : Nat) {cA : ClassId} {C : String} {n : Nat} {ra : Nat → Nat} (ha : ws[q0]? = some (a, .inl (cA, n, .inr (.inr (.inr (.inr (rF ra))))))) (ht : tys[t0]? = some (cA, .object C)) (hn : n < 2147483648) {i : Int} (h : 0 ≤ i ∧ i < (n : Int)) (hdg : decode cc pc = .ok (.aaload, 1))
    (kk : W p l e R s m args below meth c H locs cells slots Q (F0 m (pc + 1) ls (.ref (ra i.toNat) :: rest))) : W p l e R s m args below meth c H locs cells slots Q (F0 m pc ls (.int (iI i) :: .ref a :: rest)) := by
  refine va_aldq hx hb hK hP q0 t0 ha ht (iI_in h hn) hdg ?_
  rw [iI_nat (by omega)]
  exact kk
theorem zmin_of {x y z : Int} (h : z = (if y < x then y else x)) : z = min x y := by
  rw [h]
  split <;> omega
theorem zabs_of {x z : Int} (h : z = (if 0 ≤ x then x else - x)) : 0 ≤ z ∧ (z = x ∨ z = - x) := by
  rw [h]
  split <;> omega
/-- the cells of the three prints -/
abbrev rowsW (gi : ClassId) (ra ia : Nat → Nat) (tn : Nat → Int) (gs : Nat → Nat → Int) : va_W := [(ra 0, .inr (3, [.ref (ia 0), .int (iI (tn 0))])), (ia 0, aI gi 10 (gs 0)), (ra 1, .inr (3, [.ref (ia 1), .int (iI (tn 1))])), (ia 1, aI gi 10 (gs 1)), (ra 2, .inr (3, [.ref (ia 2), .int (iI (tn 2))])), (ia 2, aI gi 10 (gs 2))]
theorem zrow {D : va_G} {H : Heap} {gi : ClassId} {ra ia : Nat → Nat} {tn : Nat → Int} {gs : Nat → Nat → Int} (hP : va_P D vwCl (rowsW gi ra ia tn gs) H) {x : Nat} (hx : x < 3) : va_P D vwCl [(ra x, .inr (3, [.ref (ia x), .int (iI (tn x))])), (ia x, aI gi 10 (gs x))] H := by
  rcases (show x = 0 ∨ x = 1 ∨ x = 2 by omega) with h | h | h
  · subst h; exact hP.sub [0, 1] rfl
  · subst h; exact hP.sub [2, 3] rfl
  · subst h; exact hP.sub [4, 5] rfl

