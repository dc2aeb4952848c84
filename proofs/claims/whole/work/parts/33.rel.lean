/-! What class and reference stand for: q holds the numbers by the reference's own places, tk the steps of the yard in force, wl and sp its wall and supper. -/
def en (i kd aim goal net hour : Nat) (j : Nat) : Nat := if j = 0 then i else if j = 1 then kd else if j = 2 then aim else if j = 3 then goal else if j = 4 then net else hour
def rise (kd v aim kept : Nat) : Int32 := if kd = 1 then nI (2 * aim + v) else if kd = 2 then nI ((aim + v) / 2) else if kd = 5 then nI ((aim + v) / 2) else if kd = 3 then nI (aim + v) - nI kept else if kd = 4 then nI (2 * aim + v + (if aim % 2 = 1 then 3 else 0)) else if kd = 6 then nI (aim + v) - nI (2 * kept) else nI (aim + v)
def ht (tk : List (Nat × Nat)) (i kd v aim kept goal net hour : Nat) : Int32 := rise kd v aim kept + ev (en i kd aim goal net hour) tk [] (nI 0)
def bo (kd v aim goal : Nat) : Nat := (aim + 2 * goal + v + (if kd = 5 then 1 else 0)) % 10
def hq (q : Nat → Nat) (tk : List (Nat × Nat)) (i aim : Nat) : Int32 := ht tk i (q (26 + i)) (q (31 + i)) aim (q 5) (q 0) (q 1) (q 4)
def ov (q : Nat → Nat) (tk : List (Nat × Nat)) (wl i aim : Nat) : Bool := decide (nI (wl + q 1) < hq q tk i aim)
def bq (q : Nat → Nat) (i aim : Nat) : Nat := bo (q (26 + i)) (q (31 + i)) aim (q 0)
/-- what becomes of a ball over on that bed, when it is the day's overs-th -/
def bc (q : Nat → Nat) (sp bed overs : Nat) : Nat := if q (16 + bed) = 2 then 3 else if q (16 + bed) = 3 then 4 else if overs ≤ q 2 ∧ q 4 ≠ sp then 1 else 2
def QR (N : Nat) (q : Nat → Nat) : Prop := (q 0 ≤ 3 ∧ q 1 ≤ 20 ∧ q 2 ≤ 9 ∧ q 4 ≤ 23 ∧ q 9 ≤ 999 ∧ q 10 ≤ 5 ∧ q 11 ≤ 5 ∧ q 12 ≤ 12 ∧ q 13 ≤ 100) ∧ (q 3 + q 5 ≤ N ∧ q 6 ≤ N ∧ q 7 ≤ N ∧ q 8 ≤ N ∧ N ≤ 100000) ∧ (∀ i, i < 10 → q (16 + i) ≤ 3) ∧ (∀ i, i < 5 → q (26 + i) ≤ 6 ∧ q (31 + i) ≤ 9 ∧ q (36 + i) ≤ N) ∧ (∀ i, i < q 12 → q (41 + i) < q 10 ∧ q (53 + i) ≤ 9 ∧ q (65 + i) ≤ 4) ∧ (∀ i, i < 100 → q (77 + i) ≤ 127)
def YR (tk : List (Nat × Nat)) (wl sp : Nat) : Prop := tw tk 0 ∧ tk.length ≤ 100 ∧ wl < 100 ∧ sp < 100
def MR (s : Nat → Int32) (q : Nat → Nat) (tk : List (Nat × Nat)) (wl sp : Nat) : Prop := (∀ j, j < 177 → j ≠ 14 → s j = nI (q j)) ∧ ((s 14 = - nI 1 ∧ tk = [] ∧ wl = 5 ∧ sp = 18) ∨ ∃ hd, hd < 5 ∧ hd < q 11 ∧ s 14 = nI hd ∧ s (177 + hd) = nI wl ∧ s (182 + hd) = nI sp ∧ s (187 + hd) = nI tk.length ∧ sg s (192 + 140 * hd) tk)
theorem sg_up {s : Nat → Int32} {j : Nat} {x : Int32} : ∀ {tk : List (Nat × Nat)} {i : Nat}, (j < i ∨ i + tk.length ≤ j) → sg s i tk → sg (upd s j x) i tk
  | [], _, _, _ => trivial
  | t :: r, i, h, ⟨h1, h2⟩ => ⟨by rw [← h1]; exact if_neg (by simp only [List.length_cons] at h; omega), sg_up (by simp only [List.length_cons] at h; omega) h2⟩
theorem MR_up {s : Nat → Int32} {q : Nat → Nat} {tk : List (Nat × Nat)} {wl sp j x : Nat} (h : MR s q tk wl sp) (hj : j < 177) (h14 : j ≠ 14) (h11 : j = 11 → q 11 ≤ x) : MR (upd s j (nI x)) (va_up q j x) tk wl sp := by
  obtain ⟨h1, h2⟩ := h
  refine ⟨fun i hi h4 => ?_, ?_⟩
  · by_cases c : i = j
    · subst c
      simp only [q_u2, q_uu, if_true]
    · simp only [q_u2, q_uu, c, if_false]
      exact h1 i hi h4
  · rcases h2 with ⟨g1, g2⟩ | ⟨hd, g1, g2, g3, g4, g5, g6, g7⟩
    · exact Or.inl ⟨by rw [← g1]; exact if_neg (Ne.symm h14), g2⟩
    · refine Or.inr ⟨hd, g1, ?_, ?_, ?_, ?_, ?_, sg_up (Or.inl (by omega)) g7⟩
      · by_cases c : 11 = j
        · subst c
          simp only [q_uu, if_true]
          have := h11 rfl
          omega
        · simp only [q_uu, c, if_false]
          exact g2
      · rw [← g3]; exact if_neg (Ne.symm h14)
      · rw [← g4]; exact if_neg (by omega)
      · rw [← g5]; exact if_neg (by omega)
      · rw [← g6]; exact if_neg (by omega)
/-- a number between two -/
def inb (v : Int32) (lo hi : Nat) : Bool := decide (nI lo ≤ v ∧ v ≤ nI hi)
theorem inb_nI {j lo hi : Nat} (hj : j < 2147483648) (hl : lo < 2147483648) (hh : hi < 2147483648) : inb (nI j) lo hi = decide (lo ≤ j ∧ j ≤ hi) := by
  unfold inb
  exact decide_eq_decide.mpr (by rw [q_le hl hj, q_le hj hh])
def isb (v : Int32) (n : Nat) : Bool := decide (nI 0 ≤ v ∧ v < nI n)
theorem isb_nI {j n : Nat} (hj : j < 2147483648) (hn : n < 2147483648) : isb (nI j) n = decide (j < n) := by
  unfold isb
  exact decide_eq_decide.mpr (by rw [q_le (by omega) hj, q_lt hj hn]; simp only [Nat.zero_le, true_and])
theorem isb_pred (v : Int32) (n : Nat) (h : n ≤ 5) : (nI 0 ≤ v ∧ v ≤ nI n - nI 1) ↔ (nI 0 ≤ v ∧ v < nI n) := by
  rcases Nat.eq_zero_or_pos n with c | c
  · subst c
    constructor
    · intro ⟨h1, h2⟩
      exact absurd (Int32.le_trans h1 h2) (by decide)
    · intro ⟨h1, h2⟩
      exact absurd (Int32.lt_of_le_of_lt h1 h2) (by decide)
  · rw [q_sub c]
    rcases Int32.lt_or_le v (nI 0) with c1 | c1
    · constructor <;> intro ⟨h1, h2⟩ <;> exact (Int32.lt_irrefl (Int32.lt_of_lt_of_le c1 h1)).elim
    · obtain ⟨j, hj, hv⟩ := nI_of (Int32.not_lt.mpr c1)
      subst hv
      rw [q_le (by omega) hj, q_le hj (by omega), q_lt hj (by omega)]
      omega
theorem inb_c (v : Int32) (lo hi : Nat) (hl : lo < 2147483648) (hh : hi < 2147483648) : inb v lo hi = false ∨ ∃ j, lo ≤ j ∧ j ≤ hi ∧ v = nI j ∧ inb (nI j) lo hi = true := by
  by_cases c : inb v lo hi = true
  · have c' := of_decide_eq_true c
    have h0 : ¬ v < 0 := fun h => Int32.lt_irrefl (Int32.lt_of_lt_of_le h (Int32.le_trans (nI_pos' hl) c'.1))
    obtain ⟨j, hj, e⟩ := nI_of h0
    subst e
    have c2 := c
    rw [inb_nI hj hl hh] at c2
    have c3 := of_decide_eq_true c2
    exact Or.inr ⟨j, c3.1, c3.2, rfl, c⟩
  · exact Or.inl (by cases h : inb v lo hi <;> simp_all)
theorem isb_c (v : Int32) (n : Nat) (hn : n < 2147483648) : isb v n = false ∨ ∃ j, j < n ∧ v = nI j ∧ isb (nI j) n = true := by
  by_cases c : isb v n = true
  · have c' := of_decide_eq_true c
    have h0 : ¬ v < 0 := Int32.not_lt.mpr c'.1
    obtain ⟨j, hj, e⟩ := nI_of h0
    subst e
    have c2 := c
    rw [isb_nI hj hn] at c2
    exact Or.inr ⟨j, of_decide_eq_true c2, rfl, c⟩
  · exact Or.inl (by cases h : isb v n <;> simp_all)
theorem inb_f {v : Int32} {lo hi : Nat} (h : v < nI lo ∨ nI hi < v) : inb v lo hi = false := by
  apply decide_eq_false
  intro ⟨h1, h2⟩
  rcases h with h | h
  · exact (Int32.lt_irrefl (Int32.lt_of_lt_of_le h h1)).elim
  · exact (Int32.lt_irrefl (Int32.lt_of_lt_of_le h h2)).elim
