/-! Yards as texts: the reading, as places, faults and steps. -/
def pH (T : Nat → Nat) (n p c : Nat) : Bool := decide (p < n ∧ T p = c)
def pM (T : Nat → Nat) (n c p : Nat) (e : Bool) : Nat × Bool := if e = false ∧ pH T n p c = true then (p + 1, false) else (p, true)
def pS (T : Nat → Nat) (n : Nat) : List Nat → Nat → Bool → Nat × Bool
  | [], p, e => (p, e)
  | c :: cs, p, e => pS T n cs (pM T n c p e).1 (pM T n c p e).2
def pD (T : Nat → Nat) (n p : Nat) : Bool := decide (p < n ∧ 48 ≤ T p ∧ T p ≤ 57)
def pN (T : Nat → Nat) (n p : Nat) (e : Bool) : Nat × Nat × Bool := if e = false ∧ pD T n p = true then (if 0 < T p - 48 ∧ pD T n (p + 1) = true then (10 * (T p - 48) + (T (p + 1) - 48), p + 2, false) else (T p - 48, p + 1, false)) else (0, p, true)
def fi (cs : List Nat) (c : Nat) : Nat → Nat → Option Nat
  | 0, _ => none
  | m + 1, i => if cs.getD i 0 = c then some i else fi cs c m (i + 1)
def oN : Option Nat → Int32
  | none => - nI 1
  | some j => nI j
theorem ixf_fi (cs : List Nat) (c : Nat) : ∀ m i, ixf cs c m i = oN (fi cs c m i)
  | 0, _ => rfl
  | m + 1, i => by
    rw [ixf, fi]
    split
    · rfl
    · exact ixf_fi cs c m (i + 1)
theorem fi_lt (cs : List Nat) (c : Nat) : ∀ m i j, fi cs c m i = some j → j < i + m
  | 0, _, _, h => by simp only [fi, reduceCtorEq] at h
  | m + 1, i, j, h => by
    rw [fi] at h
    split at h
    · cases h; omega
    · have := fi_lt cs c m (i + 1) j h; omega
def pL (T : Nat → Nat) (n : Nat) (cs : List Nat) (p : Nat) : Option Nat := if p < n then fi cs (T p) cs.length 0 else none
theorem pL_lt {T : Nat → Nat} {n : Nat} {cs : List Nat} {p j : Nat} (h : pL T n cs p = some j) : j < cs.length ∧ p < n := by
  unfold pL at h
  split at h
  · have := fi_lt _ _ _ _ _ h
    exact ⟨by omega, by assumption⟩
  · cases h
def pE (t : Nat × Nat) (s : Nat × Bool × List (Nat × Nat)) : Nat × Bool × List (Nat × Nat) := if s.2.1 = true then s else (s.1, false, s.2.2 ++ [t])
def pMs (T : Nat → Nat) (n c : Nat) (s : Nat × Bool × List (Nat × Nat)) : Nat × Bool × List (Nat × Nat) := ((pM T n c s.1 s.2.1).1, (pM T n c s.1 s.2.1).2, s.2.2)
def cL : List Nat := [98, 107, 97, 103, 110, 104]
def cG : List Nat := [60, 61, 62]
def pT (T : Nat → Nat) (n p : Nat) (ts : List (Nat × Nat)) : Nat × Bool × List (Nat × Nat) := match pL T n cL p with
  | none => (p, true, ts)
  | some i => match pL T n cG (p + 1) with
    | none => (p + 1, true, ts)
    | some j => if (pN T n (p + 2) false).2.2 = true then ((pN T n (p + 2) false).2.1, true, ts) else ((pN T n (p + 2) false).2.1, false, ts ++ [(3 * i + j, (pN T n (p + 2) false).1)])
def evl (T : Nat → Nat) (n : Nat) (f : Nat × Bool × List (Nat × Nat) → Nat × Bool × List (Nat × Nat)) : Nat → Nat × Bool × List (Nat × Nat) → Nat × Bool × List (Nat × Nat)
  | 0, s => s
  | m + 1, s => if s.2.1 = false ∧ pH T n s.1 38 = true then evl T n f m (pE (19, 0) (f (s.1 + 1, false, s.2.2))) else s
def ev_ (T : Nat → Nat) (n : Nat) (f : Nat × Bool × List (Nat × Nat) → Nat × Bool × List (Nat × Nat)) (s : Nat × Bool × List (Nat × Nat)) : Nat × Bool × List (Nat × Nat) := evl T n f n (f s)
def sol (T : Nat → Nat) (n : Nat) (f : Nat × Bool × List (Nat × Nat) → Nat × Bool × List (Nat × Nat)) : Nat → Nat × Bool × List (Nat × Nat) → Nat × Bool × List (Nat × Nat)
  | 0, s => s
  | m + 1, s => if s.2.1 = false ∧ pH T n s.1 124 = true then sol T n f m (pE (20, 0) (ev_ T n f (s.1 + 1, false, s.2.2))) else s
def so_ (T : Nat → Nat) (n : Nat) (f : Nat × Bool × List (Nat × Nat) → Nat × Bool × List (Nat × Nat)) (s : Nat × Bool × List (Nat × Nat)) : Nat × Bool × List (Nat × Nat) := sol T n f n (ev_ T n f s)
/-- a factor, so many openings being left -/
def fac (T : Nat → Nat) (n : Nat) : Nat → Nat × Bool × List (Nat × Nat) → Nat × Bool × List (Nat × Nat)
  | 0 => fun s => if s.2.1 = true then s else if pH T n s.1 33 = true ∨ pH T n s.1 40 = true then (s.1, true, s.2.2) else pT T n s.1 s.2.2
  | g + 1 => fun s => if s.2.1 = true then s else if pH T n s.1 33 = true then pE (18, 0) (fac T n g (s.1 + 1, false, s.2.2)) else if pH T n s.1 40 = true then pMs T n 41 (so_ T n (fac T n g) (s.1 + 1, false, s.2.2)) else pT T n s.1 s.2.2
/-- steps that lead from so many truths to so many -/
def TW : List (Nat × Nat) → Nat → Nat → Prop
  | [], d, d' => d = d'
  | t :: r, d, d' => t.2 < 100 ∧ (if t.1 < 18 then d < 13 ∧ TW r (d + 1) d' else if t.1 = 18 then 1 ≤ d ∧ TW r d d' else if t.1 ≤ 20 then 2 ≤ d ∧ TW r (d - 1) d' else t.1 ≤ 22 ∧ d = 1 ∧ TW r 0 d')
theorem TW_app : ∀ {a b : List (Nat × Nat)} {d d' d'' : Nat}, TW a d d' → TW b d' d'' → TW (a ++ b) d d''
  | [], b, d, d', d'', h, h' => by simp only [TW] at h; subst h; exact h'
  | t :: r, b, d, d', d'', h, h' => by
    simp only [TW, List.cons_append] at h ⊢
    refine ⟨h.1, ?_⟩
    have h2 := h.2
    by_cases c1 : t.1 < 18
    · rw [if_pos c1] at h2 ⊢
      exact ⟨h2.1, TW_app h2.2 h'⟩
    · rw [if_neg c1] at h2 ⊢
      by_cases c2 : t.1 = 18
      · rw [if_pos c2] at h2 ⊢
        exact ⟨h2.1, TW_app h2.2 h'⟩
      · rw [if_neg c2] at h2 ⊢
        by_cases c3 : t.1 ≤ 20
        · rw [if_pos c3] at h2 ⊢
          exact ⟨h2.1, TW_app h2.2 h'⟩
        · rw [if_neg c3] at h2 ⊢
          exact ⟨h2.1, h2.2.1, TW_app h2.2.2 h'⟩
theorem TW_tw : ∀ {a : List (Nat × Nat)} {d : Nat}, TW a d 0 → tw a d
  | [], d, h => h
  | t :: r, d, h => by
    simp only [TW] at h
    simp only [tw]
    refine ⟨h.1, ?_⟩
    have h2 := h.2
    by_cases c1 : t.1 < 18
    · rw [if_pos c1] at h2 ⊢
      exact ⟨h2.1, TW_tw h2.2⟩
    · rw [if_neg c1] at h2 ⊢
      by_cases c2 : t.1 = 18
      · rw [if_pos c2] at h2 ⊢
        exact ⟨h2.1, TW_tw h2.2⟩
      · rw [if_neg c2] at h2 ⊢
        by_cases c3 : t.1 ≤ 20
        · rw [if_pos c3] at h2 ⊢
          exact ⟨h2.1, TW_tw h2.2⟩
        · rw [if_neg c3] at h2 ⊢
          exact ⟨h2.1, h2.2.1, TW_tw h2.2.2⟩
/-- what a reading keeps: it never goes back, no sign makes more than one step, a fault stays, and without one it leads from d truths to d + 1 -/
def SP (n : Nat) (f : Nat × Bool × List (Nat × Nat) → Nat × Bool × List (Nat × Nat)) (w : Nat) : Prop := ∀ s : Nat × Bool × List (Nat × Nat), s.1 ≤ n → s.1 ≤ (f s).1 ∧ (f s).1 ≤ n ∧ (f s).2.2.length + s.1 ≤ s.2.2.length + (f s).1 ∧ (s.2.1 = true → f s = s) ∧ ((f s).2.1 = false → ∃ a, (f s).2.2 = s.2.2 ++ a ∧ ∀ d, d + w ≤ 13 → TW a d (d + 1))
theorem b_tf {q : Prop} (h : true = false) : q := absurd h (by decide)
theorem pM_spec {T : Nat → Nat} {n c p : Nat} {e : Bool} (hp : p ≤ n) : p ≤ (pM T n c p e).1 ∧ (pM T n c p e).1 ≤ n ∧ (e = true → pM T n c p e = (p, true)) ∧ ((pM T n c p e).2 = false → e = false ∧ p < (pM T n c p e).1) := by
  unfold pM
  split
  · rename_i h
    have h2 := of_decide_eq_true h.2
    refine ⟨by simp only []; omega, by simp only []; omega, fun h3 => ?_, fun _ => ⟨h.1, by simp only []; omega⟩⟩
    rw [h.1] at h3
    exact absurd h3 (by decide)
  · exact ⟨Nat.le_refl _, hp, fun _ => rfl, fun h => b_tf h⟩
theorem pN_spec {T : Nat → Nat} {n p : Nat} {e : Bool} (hp : p ≤ n) : p ≤ (pN T n p e).2.1 ∧ (pN T n p e).2.1 ≤ n ∧ (pN T n p e).1 ≤ 99 ∧ (e = true → pN T n p e = (0, p, true)) ∧ ((pN T n p e).2.2 = false → e = false ∧ p < (pN T n p e).2.1) := by
  unfold pN
  split
  · rename_i h
    have h2 := of_decide_eq_true h.2
    have he := h.1
    split
    · rename_i h4
      have h3 := of_decide_eq_true h4.2
      refine ⟨by simp only []; omega, by simp only []; omega, by simp only []; omega, fun h3 => ?_, fun _ => ⟨he, by simp only []; omega⟩⟩
      rw [he] at h3
      exact absurd h3 (by decide)
    · refine ⟨by simp only []; omega, by simp only []; omega, by simp only []; omega, fun h3 => ?_, fun _ => ⟨he, by simp only []; omega⟩⟩
      rw [he] at h3
      exact absurd h3 (by decide)
  · exact ⟨Nat.le_refl _, hp, Nat.zero_le _, fun _ => rfl, fun h => b_tf h⟩
theorem pT_spec {T : Nat → Nat} {n p : Nat} {ts : List (Nat × Nat)} (hp : p ≤ n) : p ≤ (pT T n p ts).1 ∧ (pT T n p ts).1 ≤ n ∧ (pT T n p ts).2.2.length + p ≤ ts.length + (pT T n p ts).1 ∧ ((pT T n p ts).2.1 = false → ∃ a, (pT T n p ts).2.2 = ts ++ a ∧ ∀ d, d + 1 ≤ 13 → TW a d (d + 1)) := by
  unfold pT
  rcases h1 : pL T n cL p with _ | i
  · exact ⟨Nat.le_refl _, hp, Nat.le_refl _, fun h => b_tf h⟩
  · have g1 := pL_lt h1
    simp only []
    rcases h2 : pL T n cG (p + 1) with _ | j
    · exact ⟨by simp only []; omega, by simp only []; omega, by simp only []; omega, fun h => b_tf h⟩
    · have g2 := pL_lt h2
      have g3 := pN_spec (T := T) (n := n) (p := p + 2) (e := false) (by omega)
      simp only []
      split
      · exact ⟨by simp only []; omega, by simp only []; omega, by simp only []; omega, fun h => b_tf h⟩
      · refine ⟨by simp only []; omega, by simp only []; omega, by simp only [List.length_append, List.length_cons, List.length_nil]; omega, fun _ => ⟨_, rfl, fun d hd => ?_⟩⟩
        have hi : i < 6 := g1.1
        have hj : j < 3 := g2.1
        simp only [TW]
        refine ⟨by omega, ?_⟩
        rw [if_pos (by omega)]
        first | exact ⟨by omega, trivial⟩ | exact ⟨by omega, rfl⟩
theorem evl_spec {T : Nat → Nat} {n w : Nat} {f : Nat × Bool × List (Nat × Nat) → Nat × Bool × List (Nat × Nat)} (hf : SP n f w) : ∀ (m : Nat) (s : Nat × Bool × List (Nat × Nat)), s.1 ≤ n → s.1 ≤ (evl T n f m s).1 ∧ (evl T n f m s).1 ≤ n ∧ (evl T n f m s).2.2.length + s.1 ≤ s.2.2.length + (evl T n f m s).1 ∧ (s.2.1 = true → evl T n f m s = s) ∧ ((evl T n f m s).2.1 = false → ∃ a, (evl T n f m s).2.2 = s.2.2 ++ a ∧ ∀ d, d + (w + 1) ≤ 13 → TW a (d + 1) (d + 1))
  | 0, s, h => ⟨Nat.le_refl _, h, Nat.le_refl _, fun _ => rfl, fun _ => ⟨[], (List.append_nil _).symm, fun d _ => rfl⟩⟩
  | m + 1, s, h => by
    rw [evl]
    split
    · rename_i c
      have c2 := of_decide_eq_true c.2
      obtain ⟨f1, f2, f3, f4, f5⟩ := hf (s.1 + 1, false, s.2.2) (by simp only []; omega)
      simp only [] at f1 f2 f3 f5
      have hb : s.2.1 = true → False := fun h => by rw [c.1] at h; exact absurd h (by decide)
      by_cases ce : (f (s.1 + 1, false, s.2.2)).2.1 = true
      · have e1 : pE (19, 0) (f (s.1 + 1, false, s.2.2)) = f (s.1 + 1, false, s.2.2) := if_pos ce
        rw [e1]
        obtain ⟨i1, i2, i3, i4, i5⟩ := evl_spec (T := T) hf m (f (s.1 + 1, false, s.2.2)) f2
        have e2 := i4 ce
        refine ⟨by omega, by omega, by omega, fun h => (hb h).elim, fun h => ?_⟩
        rw [e2, ce] at h
        exact absurd h (by decide)
      · have e1 : pE (19, 0) (f (s.1 + 1, false, s.2.2)) = ((f (s.1 + 1, false, s.2.2)).1, false, (f (s.1 + 1, false, s.2.2)).2.2 ++ [(19, 0)]) := if_neg ce
        rw [e1]
        obtain ⟨i1, i2, i3, i4, i5⟩ := evl_spec (T := T) hf m ((f (s.1 + 1, false, s.2.2)).1, false, (f (s.1 + 1, false, s.2.2)).2.2 ++ [(19, 0)]) f2
        simp only [List.length_append, List.length_cons, List.length_nil] at i1 i2 i3
        refine ⟨by omega, by omega, by omega, fun h => (hb h).elim, fun h => ?_⟩
        obtain ⟨a, ea, ha⟩ := f5 (by revert ce; cases (f (s.1 + 1, false, s.2.2)).2.1 <;> simp)
        obtain ⟨b, eb, hb2⟩ := i5 h
        simp only [] at eb
        refine ⟨a ++ [(19, 0)] ++ b, by rw [eb, ea]; simp only [List.append_assoc], fun d hd => ?_⟩
        refine TW_app (TW_app (ha (d + 1) (by omega)) (d' := d + 1 + 1) (d'' := d + 1) ?_) (hb2 d hd)
        simp only [TW]
        refine ⟨by omega, ?_⟩
        rw [if_neg (by omega), if_neg (by omega), if_pos (by omega)]
        first | exact ⟨by omega, by omega⟩ | exact ⟨by omega, trivial⟩
    · exact ⟨Nat.le_refl _, h, Nat.le_refl _, fun _ => rfl, fun _ => ⟨[], (List.append_nil _).symm, fun d _ => rfl⟩⟩
theorem sol_spec {T : Nat → Nat} {n w : Nat} {f : Nat × Bool × List (Nat × Nat) → Nat × Bool × List (Nat × Nat)} (hf : SP n (ev_ T n f) w) : ∀ (m : Nat) (s : Nat × Bool × List (Nat × Nat)), s.1 ≤ n → s.1 ≤ (sol T n f m s).1 ∧ (sol T n f m s).1 ≤ n ∧ (sol T n f m s).2.2.length + s.1 ≤ s.2.2.length + (sol T n f m s).1 ∧ (s.2.1 = true → sol T n f m s = s) ∧ ((sol T n f m s).2.1 = false → ∃ a, (sol T n f m s).2.2 = s.2.2 ++ a ∧ ∀ d, d + (w + 1) ≤ 13 → TW a (d + 1) (d + 1))
  | 0, s, h => ⟨Nat.le_refl _, h, Nat.le_refl _, fun _ => rfl, fun _ => ⟨[], (List.append_nil _).symm, fun d _ => rfl⟩⟩
  | m + 1, s, h => by
    rw [sol]
    split
    · rename_i c
      have c2 := of_decide_eq_true c.2
      obtain ⟨f1, f2, f3, f4, f5⟩ := hf (s.1 + 1, false, s.2.2) (by simp only []; omega)
      simp only [] at f1 f2 f3 f5
      have hb : s.2.1 = true → False := fun h => by rw [c.1] at h; exact absurd h (by decide)
      by_cases ce : (ev_ T n f (s.1 + 1, false, s.2.2)).2.1 = true
      · have e1 : pE (20, 0) (ev_ T n f (s.1 + 1, false, s.2.2)) = ev_ T n f (s.1 + 1, false, s.2.2) := if_pos ce
        rw [e1]
        obtain ⟨i1, i2, i3, i4, i5⟩ := sol_spec (T := T) hf m (ev_ T n f (s.1 + 1, false, s.2.2)) f2
        have e2 := i4 ce
        refine ⟨by omega, by omega, by omega, fun h => (hb h).elim, fun h => ?_⟩
        rw [e2, ce] at h
        exact absurd h (by decide)
      · have e1 : pE (20, 0) (ev_ T n f (s.1 + 1, false, s.2.2)) = ((ev_ T n f (s.1 + 1, false, s.2.2)).1, false, (ev_ T n f (s.1 + 1, false, s.2.2)).2.2 ++ [(20, 0)]) := if_neg ce
        rw [e1]
        obtain ⟨i1, i2, i3, i4, i5⟩ := sol_spec (T := T) hf m ((ev_ T n f (s.1 + 1, false, s.2.2)).1, false, (ev_ T n f (s.1 + 1, false, s.2.2)).2.2 ++ [(20, 0)]) f2
        simp only [List.length_append, List.length_cons, List.length_nil] at i1 i2 i3
        refine ⟨by omega, by omega, by omega, fun h => (hb h).elim, fun h => ?_⟩
        obtain ⟨a, ea, ha⟩ := f5 (by revert ce; cases (ev_ T n f (s.1 + 1, false, s.2.2)).2.1 <;> simp)
        obtain ⟨b, eb, hb2⟩ := i5 h
        simp only [] at eb
        refine ⟨a ++ [(20, 0)] ++ b, by rw [eb, ea]; simp only [List.append_assoc], fun d hd => ?_⟩
        refine TW_app (TW_app (ha (d + 1) (by omega)) (d' := d + 1 + 1) (d'' := d + 1) ?_) (hb2 d hd)
        simp only [TW]
        refine ⟨by omega, ?_⟩
        rw [if_neg (by omega), if_neg (by omega), if_pos (by omega)]
        first | exact ⟨by omega, by omega⟩ | exact ⟨by omega, trivial⟩
    · exact ⟨Nat.le_refl _, h, Nat.le_refl _, fun _ => rfl, fun _ => ⟨[], (List.append_nil _).symm, fun d _ => rfl⟩⟩
theorem ev_SP {T : Nat → Nat} {n w : Nat} {f : Nat × Bool × List (Nat × Nat) → Nat × Bool × List (Nat × Nat)} (hf : SP n f w) : SP n (ev_ T n f) (w + 1) := by
  intro s hs
  obtain ⟨f1, f2, f3, f4, f5⟩ := hf s hs
  obtain ⟨i1, i2, i3, i4, i5⟩ := evl_spec (T := T) hf n (f s) f2
  unfold ev_
  refine ⟨by omega, i2, by omega, fun h => ?_, fun h => ?_⟩
  · have e1 := f4 h
    rw [i4 (by rw [e1]; exact h), e1]
  · obtain ⟨b, eb, hb⟩ := i5 h
    have hne : (f s).2.1 = false := by
      cases c : (f s).2.1
      · rfl
      · rw [i4 c, c] at h; exact absurd h (by decide)
    obtain ⟨a, ea, ha⟩ := f5 hne
    refine ⟨a ++ b, by rw [eb, ea, List.append_assoc], fun d hd => TW_app (ha d (by omega)) (hb d (by omega))⟩
theorem so_SP {T : Nat → Nat} {n w : Nat} {f : Nat × Bool × List (Nat × Nat) → Nat × Bool × List (Nat × Nat)} (hf : SP n f w) : SP n (so_ T n f) (w + 1 + 1) := by
  intro s hs
  have hf' := ev_SP (T := T) hf
  obtain ⟨f1, f2, f3, f4, f5⟩ := hf' s hs
  obtain ⟨i1, i2, i3, i4, i5⟩ := sol_spec (T := T) hf' n (ev_ T n f s) f2
  unfold so_
  refine ⟨by omega, i2, by omega, fun h => ?_, fun h => ?_⟩
  · have e1 := f4 h
    rw [i4 (by rw [e1]; exact h), e1]
  · obtain ⟨b, eb, hb⟩ := i5 h
    have hne : (ev_ T n f s).2.1 = false := by
      cases c : (ev_ T n f s).2.1
      · rfl
      · rw [i4 c, c] at h; exact absurd h (by decide)
    obtain ⟨a, ea, ha⟩ := f5 hne
    refine ⟨a ++ b, by rw [eb, ea, List.append_assoc], fun d hd => TW_app (ha d (by omega)) (hb d (by omega))⟩
theorem fac_SP (T : Nat → Nat) (n : Nat) : ∀ g, SP n (fac T n g) (2 * g + 1)
  | 0 => by
    intro s hs
    simp only [fac]
    split
    · rename_i h
      exact ⟨Nat.le_refl _, hs, Nat.le_refl _, fun _ => rfl, fun h' => by rw [h] at h'; exact absurd h' (by decide)⟩
    · rename_i h
      split
      · exact ⟨Nat.le_refl _, hs, Nat.le_refl _, fun h' => absurd h' h, fun h' => b_tf h'⟩
      · obtain ⟨t1, t2, t3, t4⟩ := pT_spec (T := T) (ts := s.2.2) hs
        exact ⟨t1, t2, t3, fun h' => absurd h' h, t4⟩
  | g + 1 => by
    intro s hs
    have ih := fac_SP T n g
    simp only [fac]
    split
    · rename_i h
      exact ⟨Nat.le_refl _, hs, Nat.le_refl _, fun _ => rfl, fun h' => by rw [h] at h'; exact absurd h' (by decide)⟩
    · rename_i h
      split
      · rename_i c
        have c2 := of_decide_eq_true c
        obtain ⟨f1, f2, f3, f4, f5⟩ := ih (s.1 + 1, false, s.2.2) (by simp only []; omega)
        simp only [] at f1 f2 f3 f5
        by_cases ce : (fac T n g (s.1 + 1, false, s.2.2)).2.1 = true
        · have e1 : pE (18, 0) (fac T n g (s.1 + 1, false, s.2.2)) = fac T n g (s.1 + 1, false, s.2.2) := if_pos ce
          rw [e1]
          refine ⟨by omega, by omega, by omega, fun h' => absurd h' h, fun h' => ?_⟩
          rw [ce] at h'
          exact absurd h' (by decide)
        · have e1 : pE (18, 0) (fac T n g (s.1 + 1, false, s.2.2)) = ((fac T n g (s.1 + 1, false, s.2.2)).1, false, (fac T n g (s.1 + 1, false, s.2.2)).2.2 ++ [(18, 0)]) := if_neg ce
          rw [e1]
          obtain ⟨a, ea, ha⟩ := f5 (by revert ce; cases (fac T n g (s.1 + 1, false, s.2.2)).2.1 <;> simp)
          refine ⟨by simp only []; omega, by simp only []; omega, by simp only [List.length_append, List.length_cons, List.length_nil]; omega, fun h' => absurd h' h, fun _ => ⟨a ++ [(18, 0)], by rw [ea]; simp only [List.append_assoc], fun d hd => ?_⟩⟩
          refine TW_app (ha d (by omega)) ?_
          simp only [TW]
          refine ⟨by omega, ?_⟩
          rw [if_neg (by omega), if_pos (by first | trivial | omega)]
          first | exact ⟨by omega, rfl⟩ | exact ⟨by omega, trivial⟩
      · split
        · rename_i c
          have c2 := of_decide_eq_true c
          obtain ⟨f1, f2, f3, f4, f5⟩ := so_SP (T := T) ih (s.1 + 1, false, s.2.2) (by simp only []; omega)
          simp only [] at f1 f2 f3 f5
          obtain ⟨m1, m2, m3, m4⟩ := pM_spec (T := T) (c := 41) (e := (so_ T n (fac T n g) (s.1 + 1, false, s.2.2)).2.1) f2
          simp only [pMs]
          refine ⟨by omega, by omega, by omega, fun h' => absurd h' h, fun h' => ?_⟩
          obtain ⟨a, ea, ha⟩ := f5 (m4 h').1
          exact ⟨a, ea, fun d hd => ha d (by omega)⟩
        · obtain ⟨t1, t2, t3, t4⟩ := pT_spec (T := T) (ts := s.2.2) hs
          refine ⟨t1, t2, t3, fun h' => absurd h' h, fun h' => ?_⟩
          obtain ⟨a, ea, ha⟩ := t4 h'
          exact ⟨a, ea, fun d hd => ha d (by omega)⟩
