/-! Numbers as naturals: every number that is met is nI of a natural, conditions become those of naturals. -/
theorem q_lit (n : Nat) : (@OfNat.ofNat Int32 n _) = nI n := rfl
theorem q_cl {n : Nat} (h : n < 2147483648) : (nI n).toNatClampNeg = n := nI_clamp h
theorem q_in {n N : Nat} (h : n < 2147483648) : vp_in (nI n) N = (n < N) := by
  apply propext
  unfold vp_in
  rw [nI_clamp h]
  have h0 : ¬ nI n < 0 := nI_pos h
  constructor
  · intro h1; omega
  · intro h1 h2
    rcases h2 with h2 | h2
    · exact h0 h2
    · omega
theorem q_add (a b : Nat) : nI a + nI b = nI (a + b) := nI_add a b
theorem q_mul (a b : Nat) : nI a * nI b = nI (a * b) := pk_mul a b
theorem q_sub {a b : Nat} (h : b ≤ a) : nI a - nI b = nI (a - b) := pk_sub h
theorem q_div {a d : Nat} (ha : a < 2147483648) (h0 : 0 < d) (hd : d < 2147483648) : nI a / nI d = nI (a / d) := pk_div ha h0 hd
theorem q_rem {a d : Nat} (ha : a < 2147483648) (h0 : 0 < d) (hd : d < 2147483648) : nI a - nI (a / d * d) = nI (a % d) := by
  rw [← pk_rem ha h0 hd, pk_div ha h0 hd, pk_mul]
theorem q_rem' {a d : Nat} (ha : a < 2147483648) (h0 : 0 < d) (hd : d < 2147483648) : nI a - nI a / nI d * nI d = nI (a % d) := pk_rem ha h0 hd
theorem q_mod {a d : Nat} : a - a / d * d = a % d := by
  have := Nat.div_add_mod a d
  rw [Nat.mul_comm] at this
  omega
theorem q_eq {a b : Nat} (ha : a < 2147483648) (hb : b < 2147483648) : (nI a = nI b) = (a = b) := propext (nI_eq ha hb)
theorem q_le {a b : Nat} (ha : a < 2147483648) (hb : b < 2147483648) : (nI a ≤ nI b) = (a ≤ b) := propext (nI_leI ha hb)
theorem q_lt {a b : Nat} (ha : a < 2147483648) (hb : b < 2147483648) : (nI a < nI b) = (a < b) := propext (nI_ltI ha hb)
theorem q_ng {n k : Nat} (hn : n < 2147483648) (h0 : 0 < k) (hk : k < 2147483648) : (nI n = - nI k) = False := by
  apply eq_false
  intro h
  have h1 := congrArg Int32.toInt h
  rw [nI_toInt hn, Int32.toInt_neg, nI_toInt hk] at h1
  rw [Int.bmod_eq_of_le (by omega) (by omega)] at h1
  omega
theorem q_nl {n k : Nat} (hn : n < 2147483648) (h0 : 0 < k) (hk : k < 2147483648) : (nI n < - nI k) = False := by
  apply eq_false
  intro h
  rw [Int32.lt_iff_toInt_lt, nI_toInt hn, Int32.toInt_neg, nI_toInt hk] at h
  rw [Int.bmod_eq_of_le (by omega) (by omega)] at h
  omega
theorem q_ln {n k : Nat} (hn : n < 2147483648) (h0 : 0 < k) (hk : k < 2147483648) : (- nI k < nI n) = True := by
  apply eq_true
  rw [Int32.lt_iff_toInt_lt, nI_toInt hn, Int32.toInt_neg, nI_toInt hk]
  rw [Int.bmod_eq_of_le (by omega) (by omega)]
  omega
theorem q_gn {n k : Nat} (hn : n < 2147483648) (h0 : 0 < k) (hk : k < 2147483648) : (- nI k = nI n) = False := by
  exact eq_false (fun h => (q_ng hn h0 hk).mp h.symm)
theorem q_lne {n k : Nat} (hn : n < 2147483648) (h0 : 0 < k) (hk : k < 2147483648) : (nI n ≤ - nI k) = False := by
  apply eq_false
  intro h
  rw [Int32.le_iff_toInt_le, nI_toInt hn, Int32.toInt_neg, nI_toInt hk] at h
  rw [Int.bmod_eq_of_le (by omega) (by omega)] at h
  omega
theorem q_nle {n k : Nat} (hn : n < 2147483648) (h0 : 0 < k) (hk : k < 2147483648) : (- nI k ≤ nI n) = True := by
  apply eq_true
  rw [Int32.le_iff_toInt_le, nI_toInt hn, Int32.toInt_neg, nI_toInt hk]
  rw [Int.bmod_eq_of_le (by omega) (by omega)]
  omega
theorem q_nb0 : vp_nar .boolean (nI 0) = nI 0 := by decide
theorem q_nb1 : vp_nar .boolean (nI 1) = nI 1 := by decide
theorem q_an {a b : Nat} (h : b ≤ a) : nI a + - nI b = nI (a - b) := by
  rw [← pk_sub h, Int32.sub_eq_add_neg]
theorem q_z0 (z : Int32) : z + nI 0 = z := Int32.add_zero z
theorem q_uu {α : Type} {f : Nat → α} {k j : Nat} {v : α} : va_up f k v j = if j = k then v else f j := rfl
theorem q_u2 {f : Nat → Int32} {k j : Nat} {v : Int32} : upd f k v j = if j = k then v else f j := rfl
theorem q_sw {α : Type} {f : Nat → α} {j k : Nat} {v w : α} (h : j < k) : va_up (va_up f k v) j w = va_up (va_up f j w) k v := by
  funext i
  unfold va_up
  by_cases h1 : i = j
  · subst h1
    rw [if_pos rfl, if_neg (Nat.ne_of_lt h), if_pos rfl]
  · rw [if_neg h1]
    by_cases h2 : i = k
    · rw [if_pos h2, if_pos h2]
    · rw [if_neg h2, if_neg h2, if_neg h1]
