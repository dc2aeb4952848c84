/-! The class: truths as bits, what a yard lifts. -/
def bts : List Bool → Nat
  | [] => 0
  | b :: st => 2 * bts st + (if b = true then 1 else 0)
theorem bts_lt : ∀ {st : List Bool} {d : Nat}, st.length ≤ d → bts st < 2 ^ d
  | [], d, _ => Nat.pow_pos (by omega)
  | b :: st, d, h => by
    simp only [List.length_cons] at h
    obtain ⟨d', e⟩ : ∃ d', d = d' + 1 := ⟨d - 1, by omega⟩
    subst e
    have := bts_lt (st := st) (d := d') (by omega)
    rw [bts, Nat.pow_succ]
    split <;> omega
theorem nat_all {N : Nat} {P : Nat → Prop} [DecidablePred P] (h : ∀ i, i < N → P i) {n : Nat} (hn : n < N) : P n := h n hn
theorem w_and (a b : Nat) : nI a &&& nI b = nI (a &&& b) := by
  apply Int32.toBitVec.inj
  exact (BitVec.ofNat_and (w := 32)).symm
theorem w_or (a b : Nat) : nI a ||| nI b = nI (a ||| b) := by
  apply Int32.toBitVec.inj
  exact (BitVec.ofNat_or (w := 32)).symm
theorem w_xor (a b : Nat) : nI a ^^^ nI b = nI (a ^^^ b) := by
  apply Int32.toBitVec.inj
  exact (BitVec.ofNat_xor (w := 32)).symm
theorem w_m2 : - nI 2 = nI 4294967294 := by decide
theorem w_not {n : Nat} (h : n < 8192) : nI n ^^^ nI 1 = nI (if n % 2 = 0 then n + 1 else n - 1) := by
  rw [w_xor]
  exact congrArg nI (co_dec (N := 8192) (P := fun n => n ^^^ 1 = if n % 2 = 0 then n + 1 else n - 1) (by decide +kernel) h)
theorem w_a1 {n : Nat} (h : n < 8192) : nI n &&& nI 1 = nI (n % 2) := by
  rw [w_and]
  exact congrArg nI (co_dec (N := 8192) (P := fun n => n &&& 1 = n % 2) (by decide +kernel) h)
theorem w_s1 {n : Nat} (h : n < 2147483648) : nI n >>> (nI 1 &&& nI 31) = nI (n / 2) := pk_shrN h _ 1 (by decide)
theorem w_s8 {n : Nat} (h : n < 2147483648) : nI n >>> (nI 8 &&& nI 31) = nI (n / 256) := pk_shrN h _ 8 (by decide)
theorem w_a255 {n : Nat} (h : n < 2147483648) : nI n &&& nI 255 = nI (n % 256) := pk_andN (by omega) 8 (by decide)
theorem w_l1 {n : Nat} (h : n < 8192) : nI n <<< (nI 1 &&& nI 31) = nI (n * 2) := pk_shlN _ 1 (by decide) (by omega)
theorem w_lo {n b : Nat} (h : n < 4096) (hb : b < 2) : nI (n * 2) ||| nI b = nI (n * 2 + b) := by
  rw [w_or]
  have : b = 0 ∨ b = 1 := by omega
  rcases this with e | e <;> subst e
  · exact congrArg nI (co_dec (N := 4096) (P := fun n => n * 2 ||| 0 = n * 2 + 0) (by decide +kernel) h)
  · exact congrArg nI (co_dec (N := 4096) (P := fun n => n * 2 ||| 1 = n * 2 + 1) (by decide +kernel) h)
theorem w_AND {n : Nat} (h : n < 8192) : nI (n / 2) &&& (nI n ||| - nI 2) = nI (if n % 2 = 0 then n / 2 - n / 2 % 2 else n / 2) := by
  rw [w_m2, w_or, w_and]
  exact congrArg nI (co_dec (N := 8192) (P := fun n => n / 2 &&& (n ||| 4294967294) = if n % 2 = 0 then n / 2 - n / 2 % 2 else n / 2) (by decide +kernel) h)
theorem w_OR {n : Nat} (h : n < 8192) : nI (n / 2) ||| nI (n % 2) = nI (if n % 2 = 0 then n / 2 else n / 2 + (1 - n / 2 % 2)) := by
  rw [w_or]
  exact congrArg nI (co_dec (N := 8192) (P := fun n => n / 2 ||| n % 2 = if n % 2 = 0 then n / 2 else n / 2 + (1 - n / 2 % 2)) (by decide +kernel) h)
def cE (t : Nat × Nat) : Nat := t.1 + 256 * t.2
