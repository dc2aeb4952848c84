/-! Yards as lists of steps (what, n): 3 * letter + sign, 18 not, 19 and, 20 or, 21 lift, 22 duck; what they lift. -/
def ts (e : Nat → Nat) (w n : Nat) : Bool := if w % 3 = 0 then decide (e (w / 3) < n) else if w % 3 = 1 then decide (e (w / 3) = n) else decide (n < e (w / 3))
def ev1 (e : Nat → Nat) (w n : Nat) (st : List Bool) (z : Int32) : List Bool × Int32 :=
  if w < 18 then (ts e w n :: st, z) else match st with
  | [] => ([], z)
  | p :: st => if w = 18 then ((!p) :: st, z) else if w = 21 then (st, if p then z + nI n else z) else if w = 22 then (st, if p then z - nI n else z) else match st with
    | [] => ([p], z)
    | q :: st => ((if w = 19 then q && p else q || p) :: st, z)
def ev (e : Nat → Nat) : List (Nat × Nat) → List Bool → Int32 → Int32
  | [], _, z => z
  | t :: r, st, z => ev e r (ev1 e t.1 t.2 st z).1 (ev1 e t.1 t.2 st z).2
/-- steps that never want more truths than there are, nor leave any behind a clause -/
def tw : List (Nat × Nat) → Nat → Prop
  | [], d => d = 0
  | t :: r, d => t.2 < 100 ∧ (if t.1 < 18 then d < 13 ∧ tw r (d + 1) else if t.1 = 18 then 1 ≤ d ∧ tw r d else if t.1 ≤ 20 then 2 ≤ d ∧ tw r (d - 1) else t.1 ≤ 22 ∧ d = 1 ∧ tw r 0)
/-- a step as the reference writes it -/
def mE (t : Nat × Nat) : Int32 := if t.1 < 18 then nI (t.1 / 3 + 8 * (t.1 % 3) + 32 * t.2) else if t.1 = 18 then -1 else if t.1 = 19 then -2 else if t.1 = 20 then -3 else if t.1 = 21 then -10 - nI t.2 else -200 - nI t.2
theorem mE_18 (n : Nat) : mE (18, n) = - nI 1 := by simp only [mE, Nat.reduceLT, Nat.reduceEqDiff, if_true, if_false, q_lit]
theorem mE_19 (n : Nat) : mE (19, n) = - nI 2 := by simp only [mE, Nat.reduceLT, Nat.reduceEqDiff, if_true, if_false, q_lit]
theorem mE_20 (n : Nat) : mE (20, n) = - nI 3 := by simp only [mE, Nat.reduceLT, Nat.reduceEqDiff, if_true, if_false, q_lit]
theorem mE_21 (n : Nat) : mE (21, n) = - nI 10 - nI n := by simp only [mE, Nat.reduceLT, Nat.reduceEqDiff, if_true, if_false, q_lit]
theorem mE_22 (n : Nat) : mE (22, n) = - nI 200 - nI n := by simp only [mE, Nat.reduceLT, Nat.reduceEqDiff, if_true, if_false, q_lit]
theorem ev_21t (e : Nat → Nat) (n : Nat) (z : Int32) : (ev1 e 21 n [true] z).2 = z + nI n := by
  simp only [ev1, Nat.reduceLT, Nat.reduceEqDiff, if_true, if_false]
theorem ev_21f (e : Nat → Nat) (n : Nat) (z : Int32) : (ev1 e 21 n [false] z).2 = z := by
  simp only [ev1, Nat.reduceLT, Nat.reduceEqDiff, if_true, if_false, Bool.false_eq_true]
theorem ev_22t (e : Nat → Nat) (n : Nat) (z : Int32) : (ev1 e 22 n [true] z).2 = z + - nI n := by
  simp only [ev1, Nat.reduceLT, Nat.reduceEqDiff, if_true, if_false, Int32.sub_eq_add_neg]
theorem ev_22f (e : Nat → Nat) (n : Nat) (z : Int32) : (ev1 e 22 n [false] z).2 = z := by
  simp only [ev1, Nat.reduceLT, Nat.reduceEqDiff, if_true, if_false, Bool.false_eq_true]
theorem ev_2s (e : Nat → Nat) (w n : Nat) (h : w = 21 ∨ w = 22) (p : Bool) (z : Int32) (tk : List (Nat × Nat)) : ev e ((w, n) :: tk) [p] z = ev e tk [] (ev1 e w n [p] z).2 := by
  have h1 : (ev1 e w n [p] z).1 = [] := by
    rcases h with h | h <;> subst h <;> simp only [ev1, Nat.reduceLT, Nat.reduceEqDiff, if_true, if_false]
  rw [ev, h1]
def sg (s : Nat → Int32) : Nat → List (Nat × Nat) → Prop
  | _, [] => True
  | i, t :: r => s i = mE t ∧ sg s (i + 1) r
def bI (b : Bool) : Int32 := if b then nI 1 else nI 0
def tr (y : Nat → Int32) : List Bool → Prop
  | [] => True
  | b :: st => y st.length = bI b ∧ tr y st
theorem tr_up {y : Nat → Int32} {v : Int32} {n : Nat} : ∀ {st : List Bool}, st.length ≤ n → tr y st → tr (upd y n v) st
  | [], _, _ => trivial
  | b :: st, h, ⟨h1, h2⟩ => ⟨by rw [← h1]; exact if_neg (by simp only [List.length_cons] at h; omega), tr_up (by simp only [List.length_cons] at h; omega) h2⟩
theorem bI_0 : bI false = nI 0 := rfl
theorem bI_1 : bI true = nI 1 := rfl
theorem q_b0 (b : Bool) : (bI b = nI 0) = (b = false) := by cases b <;> decide
theorem q_b1 (b : Bool) : (bI b = nI 1) = (b = true) := by cases b <;> decide
theorem q_bft (b : Bool) : (b = false ∨ b = true) = True := by cases b <;> decide
theorem q_b01 (b : Bool) : ((bI b = nI 0) ∨ (bI b = nI 1)) = True := by cases b <;> decide
theorem mE_l (n : Nat) (h : n < 100) : (-nI 10 - nI n < nI 0) = True ∧ (-nI 10 - nI n = -nI 1) = False ∧ (-nI 10 - nI n ≤ -nI 10) = True ∧ (-nI 10 - nI n ≤ -nI 200) = False ∧ -nI 10 - (-nI 10 - nI n) = nI n := by
  have := co_dec (N := 100) (P := fun n => (-nI 10 - nI n < nI 0) ∧ ¬ (-nI 10 - nI n = -nI 1) ∧ (-nI 10 - nI n ≤ -nI 10) ∧ ¬ (-nI 10 - nI n ≤ -nI 200) ∧ -nI 10 - (-nI 10 - nI n) = nI n) (by decide +kernel) h
  exact ⟨eq_true this.1, eq_false this.2.1, eq_true this.2.2.1, eq_false this.2.2.2.1, this.2.2.2.2⟩
theorem mE_d (n : Nat) (h : n < 100) : (-nI 200 - nI n < nI 0) = True ∧ (-nI 200 - nI n = -nI 1) = False ∧ (-nI 200 - nI n ≤ -nI 10) = True ∧ (-nI 200 - nI n ≤ -nI 200) = True ∧ -nI 200 - nI n - -nI 200 = - nI n := by
  have := co_dec (N := 100) (P := fun n => (-nI 200 - nI n < nI 0) ∧ ¬ (-nI 200 - nI n = -nI 1) ∧ (-nI 200 - nI n ≤ -nI 10) ∧ (-nI 200 - nI n ≤ -nI 200) ∧ -nI 200 - nI n - -nI 200 = - nI n) (by decide +kernel) h
  exact ⟨eq_true this.1, eq_false this.2.1, eq_true this.2.2.1, eq_true this.2.2.2.1, this.2.2.2.2⟩
theorem mE_1 : (-nI 1 < nI 0) = True ∧ (-nI 2 < nI 0) = True ∧ (-nI 3 < nI 0) = True ∧ (-nI 2 = -nI 1) = False ∧ (-nI 3 = -nI 1) = False ∧ (-nI 2 ≤ -nI 10) = False ∧ (-nI 3 ≤ -nI 10) = False ∧ (-nI 3 = -nI 2) = False := by
  refine ⟨eq_true ?_, eq_true ?_, eq_true ?_, eq_false ?_, eq_false ?_, eq_false ?_, eq_false ?_, eq_false ?_⟩ <;> decide
