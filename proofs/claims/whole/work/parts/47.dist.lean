/-! Kicks by chances: in how many ways so many are kept, lodged and over (place: kept + 13 lodged + 169 over). -/
theorem sm_congr {f g : Nat → Nat} : ∀ {n : Nat}, (∀ i, i < n → f i = g i) → sm f n = sm g n
  | 0, _ => rfl
  | n + 1, h => by
    have h1 := sm_congr (n := n) (fun i hi => h i (by omega))
    have h2 := h n (by omega)
    simp only [sm, h1, h2]
theorem sm_zero : ∀ n, sm (fun _ => 0) n = 0
  | 0 => rfl
  | n + 1 => by simp only [sm, sm_zero n]
theorem sm_add (f g : Nat → Nat) : ∀ n, sm (fun i => f i + g i) n = sm f n + sm g n
  | 0 => rfl
  | n + 1 => by have := sm_add f g n; simp only [sm]; omega
theorem sm_mono {f g : Nat → Nat} : ∀ {n : Nat}, (∀ i, i < n → f i ≤ g i) → sm f n ≤ sm g n
  | 0, _ => Nat.le_refl _
  | n + 1, h => by
    have h1 := sm_mono (n := n) (fun i hi => h i (by omega))
    have h2 := h n (by omega)
    simp only [sm]
    omega
theorem sm_cmul (c : Nat) (f : Nat → Nat) : ∀ n, sm (fun i => c * f i) n = c * sm f n
  | 0 => rfl
  | n + 1 => by simp only [sm, sm_cmul c f n, Nat.mul_add]
theorem sm_mulc (c : Nat) (f : Nat → Nat) (n : Nat) : sm (fun i => f i * c) n = sm f n * c := by
  rw [Nat.mul_comm, ← sm_cmul]
  exact sm_congr (fun i _ => Nat.mul_comm _ _)
theorem sm_comm (f : Nat → Nat → Nat) (m : Nat) : ∀ n, sm (fun i => sm (fun j => f i j) m) n = sm (fun j => sm (fun i => f i j) n) m
  | 0 => by simp only [sm, sm_zero]
  | n + 1 => by simp only [sm, sm_comm f m n, sm_add]
/-- one more -/
theorem sm_one {f g : Nat → Nat} {j0 d : Nat} : ∀ {n : Nat}, j0 < n → (∀ i, i < n → i ≠ j0 → g i = f i) → g j0 = f j0 + d → sm g n = sm f n + d
  | 0, h, _, _ => absurd h (Nat.not_lt_zero _)
  | n + 1, h, h1, h2 => by
    by_cases c : j0 = n
    · subst c
      have := sm_congr (n := j0) (f := g) (g := f) (fun i hi => h1 i (by omega) (by omega))
      simp only [sm]
      omega
    · have := sm_one (n := n) (by omega) (fun i hi => h1 i (by omega)) h2
      have := h1 n (by omega) (by omega)
      simp only [sm]
      omega
theorem sm_pos {f : Nat → Nat} : ∀ {n : Nat}, 0 < sm f n → ∃ j, j < n ∧ 0 < f j
  | 0, h => absurd h (Nat.lt_irrefl _)
  | n + 1, h => by
    by_cases c : 0 < f n
    · exact ⟨n, by omega, c⟩
    · simp only [sm] at h
      obtain ⟨j, h1, h2⟩ := sm_pos (f := f) (n := n) (by omega)
      exact ⟨j, by omega, h2⟩
theorem sm_ge {f : Nat → Nat} {j : Nat} : ∀ {n : Nat}, j < n → f j ≤ sm f n
  | 0, h => absurd h (Nat.not_lt_zero _)
  | n + 1, h => by
    simp only [sm]
    by_cases c : j = n
    · subst c; omega
    · have := sm_ge (f := f) (j := j) (n := n) (by omega)
      omega
theorem cn_pos {f : Nat → Bool} {n : Nat} (h : 0 < cn f n) : ∃ j, j < n ∧ f j = true := by
  obtain ⟨j, h1, h2⟩ := sm_pos h
  refine ⟨j, h1, ?_⟩
  cases c : f j
  · simp only [c, Bool.false_eq_true, if_false] at h2
    omega
  · rfl
theorem sm_ind (t : Nat) : ∀ n, sm (fun i => if decide (t = i) = true then 1 else 0) n = if t < n then 1 else 0
  | 0 => rfl
  | n + 1 => by
    have := sm_ind t n
    simp only [sm]
    rw [this]
    simp only [decide_eq_true_eq]
    (repeat' split) <;> omega
def e5 (q : Nat → Nat) (tk : List (Nat × Nat)) (wl sp b ke om aim : Nat) : Nat := if ov (va_up q 5 (q 5 + ke)) tk wl b aim = true then bc q sp (bq q b aim) (q 8 + om + 1) else 0
def st5 (e : Nat) : Nat := if e = 0 then 0 else if e = 1 then 169 else if e = 4 then 182 else 170
def to5 (q : Nat → Nat) (tk : List (Nat × Nat)) (wl sp b j aim : Nat) : Nat := if j % 13 + j / 13 % 13 = q 3 then j else j + st5 (e5 q tk wl sp b (j % 13) (j / 169) aim)
def c5 (q : Nat → Nat) (tk : List (Nat × Nat)) (wl sp b j i : Nat) : Nat := cn (fun aim => decide (to5 q tk wl sp b j aim = i)) 10
def G5 (q : Nat → Nat) (tk : List (Nat × Nat)) (wl sp b : Nat) (D : Nat → Nat) (p : Nat → Bool) (i : Nat) : Nat := sm (fun j => if p j = true then c5 q tk wl sp b j i * D j else 0) 2197
def D5 (q : Nat → Nat) (tk : List (Nat × Nat)) (wl sp : Nat) : Nat → Nat → Nat
  | 0, i => if i = 0 then 1 else 0
  | k + 1, i => G5 q tk wl sp (k % q 10) (D5 q tk wl sp k) (fun _ => true) i
theorem e5_le (q : Nat → Nat) (tk : List (Nat × Nat)) (wl sp b ke om aim : Nat) : e5 q tk wl sp b ke om aim ≤ 4 := by
  unfold e5
  split
  · exact (bc_le _ _ _ _).2
  · omega
theorem c5_sum (q : Nat → Nat) (tk : List (Nat × Nat)) (wl sp b j n : Nat) : sm (fun i => c5 q tk wl sp b j i) n ≤ 10 := by
  unfold c5 cn
  rw [sm_comm]
  refine Nat.le_trans (sm_le (c := 1) (fun aim => ?_) 10) (Nat.le_refl _)
  rw [sm_ind]
  split <;> omega
theorem D5_mass (q : Nat → Nat) (tk : List (Nat × Nat)) (wl sp : Nat) : ∀ k, sm (D5 q tk wl sp k) 2197 ≤ 10 ^ k
  | 0 => by
    have h := sm_ind 0 2197
    have e : sm (D5 q tk wl sp 0) 2197 = sm (fun i => if decide (0 = i) = true then 1 else 0) 2197 := sm_congr (fun i _ => by
      simp only [D5, decide_eq_true_eq]
      by_cases c : i = 0
      · subst c; rfl
      · rw [if_neg c, if_neg (fun h => c h.symm)])
    rw [e, h]
    exact Nat.le_refl _
  | k + 1 => by
    have ih := D5_mass q tk wl sp k
    have e : sm (D5 q tk wl sp (k + 1)) 2197 = sm (fun j => sm (fun i => c5 q tk wl sp (k % q 10) j i) 2197 * D5 q tk wl sp k j) 2197 := by
      have e1 : sm (D5 q tk wl sp (k + 1)) 2197 = sm (fun i => sm (fun j => c5 q tk wl sp (k % q 10) j i * D5 q tk wl sp k j) 2197) 2197 := sm_congr (fun i _ => by
        simp only [D5, G5, if_true])
      rw [e1, sm_comm]
      exact sm_congr (fun j _ => sm_mulc _ _ _)
    rw [e, Nat.pow_succ]
    refine Nat.le_trans (sm_mono (g := fun j => 10 * D5 q tk wl sp k j) (fun j _ => Nat.mul_le_mul_right _ (c5_sum q tk wl sp _ j 2197))) ?_
    rw [sm_cmul]
    omega
/-- where there may be a way after k kicks -/
def S5 (q : Nat → Nat) (k j : Nat) : Prop := j % 13 + j / 13 % 13 ≤ j / 169 ∧ j / 169 ≤ k ∧ j % 13 + j / 13 % 13 ≤ q 3
theorem dc_k {ke la om : Nat} (h1 : ke < 13) : (ke + 13 * la + 169 * om) % 13 = ke := by omega
theorem dc_l {ke la om : Nat} (h1 : ke < 13) (h2 : la < 13) : (ke + 13 * la + 169 * om) / 13 % 13 = la := by omega
theorem dc_o {ke la om : Nat} (h1 : ke < 13) (h2 : la < 13) : (ke + 13 * la + 169 * om) / 169 = om := by omega
theorem dc_e (j : Nat) : ∃ ke la om, ke < 13 ∧ la < 13 ∧ j = ke + 13 * la + 169 * om ∧ j % 13 = ke ∧ j / 13 % 13 = la ∧ j / 169 = om := ⟨j % 13, j / 13 % 13, j / 169, by omega, by omega, by omega, rfl, rfl, rfl⟩
theorem S5_iff {q : Nat → Nat} {k ke la om : Nat} (h1 : ke < 13) (h2 : la < 13) : S5 q k (ke + 13 * la + 169 * om) ↔ (ke + la ≤ om ∧ om ≤ k ∧ ke + la ≤ q 3) := by
  unfold S5
  rw [dc_k h1, dc_l h1 h2, dc_o h1 h2]
theorem to_S5 {q : Nat → Nat} {tk : List (Nat × Nat)} {wl sp b k j aim : Nat} (hk : k < 12) (h : S5 q k j) : S5 q (k + 1) (to5 q tk wl sp b j aim) ∧ to5 q tk wl sp b j aim < 2197 := by
  obtain ⟨ke, la, om, g1, g2, g3, g4, g5, g6⟩ := dc_e j
  unfold S5 at h
  rw [g4, g5, g6] at h
  obtain ⟨h1, h2, h3⟩ := h
  unfold to5
  rw [g4, g5, g6]
  split
  · rw [g3]
    exact ⟨(S5_iff g1 g2).mpr ⟨by omega, by omega, by omega⟩, by omega⟩
  · have he := e5_le q tk wl sp b ke om aim
    rw [g3]
    unfold st5
    repeat' split
    · exact ⟨(S5_iff g1 g2).mpr ⟨by omega, by omega, by omega⟩, by omega⟩
    · rw [show ke + 13 * la + 169 * om + 169 = ke + 13 * la + 169 * (om + 1) by omega]
      exact ⟨(S5_iff g1 g2).mpr ⟨by omega, by omega, by omega⟩, by omega⟩
    · rw [show ke + 13 * la + 169 * om + 182 = ke + 13 * (la + 1) + 169 * (om + 1) by omega]
      exact ⟨(S5_iff g1 (by omega)).mpr ⟨by omega, by omega, by omega⟩, by omega⟩
    · rw [show ke + 13 * la + 169 * om + 170 = (ke + 1) + 13 * la + 169 * (om + 1) by omega]
      exact ⟨(S5_iff (by omega) g2).mpr ⟨by omega, by omega, by omega⟩, by omega⟩
theorem D5_S5 (q : Nat → Nat) (tk : List (Nat × Nat)) (wl sp : Nat) : ∀ k, k ≤ 12 → ∀ j, 0 < D5 q tk wl sp k j → S5 q k j
  | 0, _, j, h => by
    by_cases c : j = 0
    · subst c
      refine ⟨?_, ?_, ?_⟩ <;> omega
    · simp only [D5, c, if_false] at h
      omega
  | k + 1, hk, i, h => by
    simp only [D5, G5, if_true] at h
    obtain ⟨j, h1, h2⟩ := sm_pos h
    have hD : 0 < D5 q tk wl sp k j := Nat.pos_of_ne_zero (fun e => by rw [e, Nat.mul_zero] at h2; omega)
    have hc : 0 < c5 q tk wl sp (k % q 10) j i := Nat.pos_of_ne_zero (fun e => by rw [e, Nat.zero_mul] at h2; omega)
    obtain ⟨aim, _, ha⟩ := cn_pos hc
    have hs := D5_S5 q tk wl sp k (by omega) j hD
    have := (to_S5 (tk := tk) (wl := wl) (sp := sp) (b := k % q 10) (aim := aim) (by omega) hs).1
    rw [of_decide_eq_true ha] at this
    exact this
theorem D5_le (q : Nat → Nat) (tk : List (Nat × Nat)) (wl sp : Nat) {k j : Nat} (hk : k ≤ 12) (hj : j < 2197) : D5 q tk wl sp k j ≤ 1000000000000 := by
  refine Nat.le_trans (sm_ge hj) (Nat.le_trans (D5_mass q tk wl sp k) ?_)
  exact Nat.le_trans (Nat.pow_le_pow_right (by omega) hk) (Nat.le_refl _)
def vl (q : Nat → Nat) (w j : Nat) : Nat := if w = 0 then q 3 - j % 13 - j / 13 % 13 else if w = 1 then q 5 + j % 13 else if w = 2 then q 6 + j / 13 % 13 else q 8 + j / 169
def RS (q : Nat → Nat) (w : Nat) (D : Nat → Nat) : Nat := sm (fun j => vl q w j * D j) 2197
theorem vl_le {N : Nat} {q : Nat → Nat} (h : QR N q) (w j : Nat) (hj : j < 2197) : vl q w j ≤ N + 13 := by
  obtain ⟨_, ⟨h3, h6, h7, h8, hN⟩, _⟩ := h
  unfold vl
  (repeat' split) <;> omega
theorem sm_upto {f : Nat → Nat} {n : Nat} : ∀ {m : Nat}, n ≤ m → sm f n ≤ sm f m
  | 0, h => by have : n = 0 := by omega
               subst this; exact Nat.le_refl _
  | m + 1, h => by
    by_cases c : n = m + 1
    · subst c; exact Nat.le_refl _
    · have := sm_upto (f := f) (n := n) (m := m) (by omega)
      simp only [sm]
      omega
theorem RS_le {N : Nat} {q q' : Nat → Nat} (h : QR N q) (w : Nat) {tk : List (Nat × Nat)} {wl sp k : Nat} (hk : k ≤ 12) (n : Nat) (hn : n ≤ 2197) : sm (fun j => vl q w j * D5 q' tk wl sp k j) n ≤ 100013000000000000 := by
  have h1 : sm (fun j => vl q w j * D5 q' tk wl sp k j) n ≤ sm (fun j => 100013 * D5 q' tk wl sp k j) n := sm_mono (fun j hj => Nat.mul_le_mul_right _ (Nat.le_trans (vl_le h w j (by omega)) (by have := h.2.1; omega)))
  rw [sm_cmul] at h1
  have h2 : sm (D5 q' tk wl sp k) n ≤ sm (D5 q' tk wl sp k) 2197 := sm_upto hn
  have h3 := D5_mass q' tk wl sp k
  have h4 : 10 ^ k ≤ 10 ^ 12 := Nat.pow_le_pow_right (by omega) hk
  omega
