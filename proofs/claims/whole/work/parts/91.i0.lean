/-! What stands at the law's start, as the abstract machine has it. -/
def sO (k : Nat) : List Nat := match k with
  | 0 => k0
  | 1 => k1
  | 2 => k2
  | 3 => k3
  | 4 => cL
  | 5 => cG
  | 6 => c6
  | 7 => cL
  | 8 => cG
  | 9 => c9
  | 10 => c10
  | 11 => c11
  | _ => []
/-- the old cells: the script, the two tables of the class, the texts -/
def O1 (L : Nat) (xs : Nat → Int32) : am_O := fun k => if k = 43 then (L, xs) else if k = 40 then (10, fun j => nI (q0 j)) else if k = 41 then (5, fun j => nI (mo j)) else ((sO (k - 16)).length, fun j => nI ((sO (k - 16)).getD j 0))
theorem sO_len : ∀ k, (sO k).length ≤ 16
  | 0 | 1 | 2 | 3 | 4 | 5 | 6 | 7 | 8 | 9 | 10 | 11 => by decide
  | k + 12 => Nat.zero_le _
theorem O1_lt {L : Nat} {xs : Nat → Int32} (hL : L ≤ 256) (q : Nat) : (O1 L xs q).1 < 2 ^ 31 := by
  unfold O1
  split
  · show L < _; omega
  · split
    · show 10 < _; omega
    · split
      · show 5 < _; omega
      · show (sO (q - 16)).length < _
        have := sO_len (q - 16)
        omega
theorem sO_128 : ∀ k, k < 12 → ∀ i, i < (sO k).length → (sO k).getD i 0 < 128 := by decide +kernel
theorem O1_at {L : Nat} {xs : Nat → Int32} {k : Nat} (hk : k < 12) : O1 L xs (k + 16) = ((sO k).length, fun j => nI ((sO k).getD j 0)) := by
  unfold O1
  rw [if_neg (by omega), if_neg (by omega), if_neg (by omega), show k + 16 - 16 = k from by omega]
theorem O1_SC {L : Nat} {xs : Nat → Int32} {k : Nat} (hk : k < 12) : SC (O1 L xs) k (sO k) := by
  refine ⟨hk, ?_, sO_len k, fun i hi => ⟨?_, sO_128 k hk i hi⟩⟩
  · rw [O1_at hk]
  · rw [O1_at hk]
theorem O1_ok (L : Nat) (xs : Nat → Int32) : OK (O1 L xs) := ⟨⟨O1_SC (k := 7) (by decide), O1_SC (k := 8) (by decide), O1_SC (k := 6) (by decide), O1_SC (k := 9) (by decide), O1_SC (k := 10) (by decide), O1_SC (k := 11) (by decide)⟩, ⟨O1_SC (k := 4) (by decide), O1_SC (k := 5) (by decide), O1_SC (k := 0) (by decide), O1_SC (k := 1) (by decide), O1_SC (k := 2) (by decide), O1_SC (k := 3) (by decide)⟩, rfl, fun _ _ => rfl⟩
/-- a text's term -/
def tS (k : Nat) : Term := match am_st[k]? with
  | some q => .string q.1 q.2.1
  | none => .arg 0
def tV (k : Nat) : Term := .field (tS k) "java/lang/String" "value" "[B"
set_option maxRecDepth 20000 in
theorem fl_ex : ∀ k, k < 12 → Cond.exactly (tS k) "java/lang/String" ∈ flatC (Jvm.Cond.and given_1 narrow_1) := by decide +kernel
set_option maxRecDepth 20000 in
theorem fl_co : ∀ k, k < 12 → Cond.eq (.field (tS k) "java/lang/String" "coder" "B") (.int 0) ∈ flatC (Jvm.Cond.and given_1 narrow_1) := by decide +kernel
set_option maxRecDepth 20000 in
theorem fl_ar : ∀ k, k < 12 → Cond.arrayOf (tV k) .byte ∈ flatC (Jvm.Cond.and given_1 narrow_1) := by decide +kernel
set_option maxRecDepth 20000 in
theorem fl_le : ∀ k, k < 12 → Cond.eq (.length (tV k)) (.int (Int32.ofNat (sO k).length)) ∈ flatC (Jvm.Cond.and given_1 narrow_1) := by decide +kernel
set_option maxRecDepth 20000 in
theorem fl_el : ∀ k, k < 12 → ∀ j, j < (sO k).length → Cond.eq (.elem (tV k) (.int (Int32.ofNat j))) (.int (nI ((sO k).getD j 0))) ∈ flatC (Jvm.Cond.and given_1 narrow_1) := by decide +kernel
theorem st_S {args : Array Value} {s : State} {A : Nat → Prop} (hs : ∀ w ∈ flatC (Jvm.Cond.and given_1 narrow_1), w.before args s = true) (hA : ∀ a : Nat, a < s.heap.size → ¬ A a) (k : Nat) : ∃ q : Nat × Nat, k < 12 → (tS k).eval args s none [] s = some (.ref q.1) ∧ va_O "java/lang/String" q.1 A s s.heap ∧ va_OF "java/lang/String" "coder" "B" (.int 0) q.1 A s s.heap ∧ va_OF "java/lang/String" "value" "[B" (.ref q.2) q.1 A s s.heap ∧ va_T .byte q.2 (sO k).length (fun j => .int (nI ((sO k).getD j 0))) A s s.heap := by
  by_cases hk : k < 12
  · obtain ⟨a, c, cA, kA, q1, q2, q3, q4, q5, q6, -⟩ := Cond.exactly_spec (args := args) (first := s) (o := none) (s := s) (idx := []) (t := tS k) (cls := "java/lang/String") (hs _ (fl_ex k hk))
    obtain ⟨t, ht, hT⟩ := va_Tof (f := fun j => .int (nI ((sO k).getD j 0))) (A := A) (show (sO k).length < 2 ^ 31 by have := sO_len k; omega) (hs _ (fl_ar k hk)) (va_eqt (hs _ (fl_le k hk))) (fun j hj => va_eqt (hs _ (fl_el k hk j hj))) hA
    exact ⟨(a, t), fun _ => ⟨q1, ⟨cA, q3, q5, by rw [q6]; exact q2, hA a (Array.getElem?_eq_some_iff.mp q3).1⟩, vk_OFof q1 (va_eqt (hs _ (fl_co k hk))) hA, vk_OFof q1 ht hA, hT⟩⟩
  · exact ⟨(0, 0), fun h => absurd h hk⟩
theorem len_small {args : Array Value} {s : State} {t : Term} {v : Value} (hv : (Term.length t).eval args s none [] s = some v) : ∃ b cell, t.eval args s none [] s = some (.ref b) ∧ s.arrayAt? b = some cell ∧ cell.slots.size < 2 ^ 31 := by
  obtain ⟨b, cell, ht, harr, -⟩ := Term.length_spec hv
  refine ⟨b, cell, ht, harr, ?_⟩
  simp only [Term.eval, ht, harr, Option.bind_eq_bind, Option.bind_some] at hv
  by_cases hlt : cell.slots.size < 2147483648
  · exact hlt
  · simp [hlt] at hv
/-- a static array, whole -/
theorem st_X {args : Array Value} {s : State} {g : am_G} {n : String} {N : Nat} {f : Nat → Int32} (hN : N < 2 ^ 31) (hl : (Cond.laysStatic "OverFence" n "[I").before args s = true) (hini : (Cond.initialized "OverFence").before args s = true) (hex : (Cond.exactly (.static "OverFence" n "[I") "[I").before args s = true) (har : (Cond.arrayOf (.static "OverFence" n "[I") .int).before args s = true) (hle : (Cond.eq (.length (.static "OverFence" n "[I")) (.int (Int32.ofNat N))).before args s = true) (hel : ∀ j, j < N → (Cond.eq (.elem (.static "OverFence" n "[I") (.int (Int32.ofNat j))) (.int (f j))).before args s = true) (hA : ∀ a : Nat, a < s.heap.size → ¬ am_A0 g a) : ∃ a : Nat, va_Z "OverFence" n "[I" (.ref a) (am_A0 g) s s.heap ∧ am_X g a (N, f) s s.heap := by
  obtain ⟨a, c, cell, k, q1, q2, q3, q4, q5, q6, -⟩ := Cond.exactly_spec (args := args) (first := s) (o := none) (s := s) (idx := []) hex
  have hlen := va_eqt hle
  obtain ⟨t, ht, cell2, T1, T2, T3, T4, T5, T6, T7⟩ := va_Tof (f := fun j => .int (f j)) (A := am_A0 g) hN har hlen (fun j hj => va_eqt (hel j hj)) hA
  cases q1.symm.trans ht
  cases q3.symm.trans T1
  obtain ⟨b, cell3, e1, e2, hsz⟩ := len_small hlen
  cases q1.symm.trans e1
  obtain ⟨e3, -, -, -⟩ := State.arrayAt?_spec e2
  cases q3.symm.trans e3
  have hN2 : cell.slots.size = N := by
    have h := congrArg Int32.toInt (show Int32.ofNat cell.slots.size = Int32.ofNat N from T5)
    rw [Int32.toInt_ofNat_small hsz, Int32.toInt_ofNat_small hN] at h
    exact Int.ofNat_inj.mp h
  exact ⟨a, va_Zof hl hini q1 hA, cell, q3, T2, T3, by rw [q6]; exact q2, hN2, T6, T7⟩
