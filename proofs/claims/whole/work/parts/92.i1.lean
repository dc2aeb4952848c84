/-! The world at the law's start. -/
theorem cl_inst {c : Nat} {q : vw_C} (h : am_cl[c]? = some q) : Cond.instantiable q.1 q.2.2 ∈ lw_tbl := by
  match c, h with
  | 0, h => cases h; decide +kernel
  | 1, h => cases h; decide +kernel
  | 2, h => cases h; decide +kernel
  | 3, h => cases h; decide +kernel
  | 4, h => cases h; decide +kernel
  | 5, h => cases h; decide +kernel
  | 6, h => cases h; decide +kernel
  | 7, h => cases h; decide +kernel
  | 8, h => cases h; decide +kernel
  | 9, h => cases h; decide +kernel
  | 10, h => cases h; decide +kernel
  | 11, h => cases h; decide +kernel
  | 12, h => cases h; decide +kernel
  | c + 13, h => simp [am_cl] at h
theorem st_D {args : Array Value} {s : State} (hts : ∀ w ∈ lw_tbl, w.before args s = true) (c : Nat) : ∃ d : ClassId × (Nat → Nat), ∀ q : vw_C, am_cl[c]? = some q → u_Kn s q.1 q.2.1 q.2.2 d.1 d.2 := by
  cases hc : am_cl[c]? with
  | none => exact ⟨(0, fun _ => 0), fun q h => by cases h⟩
  | some r =>
    obtain ⟨cC, iS, h⟩ := u_known hts (am_cok_all hc).1 (hts _ (cl_inst hc))
    exact ⟨(cC, iS), fun q hq => by cases hq; exact h⟩
theorem st_A {s : State} {ty : FieldType} {args : Array Value} (h : (Cond.arrayClass ty).before args s = true) : ∃ c : ClassId, ArrOfT s c ty ∧ s.vm.findClass ("[" ++ ty.toString) = some c := by
  obtain ⟨c, k, comp, h1, h2, h3⟩ := Cond.arrayClass_spec (args := args) (first := s) (o := none) (s := s) (idx := []) h
  exact ⟨c, fun n z => ⟨fun k h => (by cases h), k, h2, comp, h3⟩, h1⟩
theorem st_AO {s : State} {C : String} {args : Array Value} (h : (Cond.arrayOver (.object C)).before args s = true) : ∃ c : ClassId, ArrOfT s c (.object C) ∧ va_RA s c (.object C) := by
  obtain ⟨comp, c, k, h1, -, h2, h3, h4⟩ := Cond.arrayOver_spec (args := args) (first := s) (o := none) (s := s) (idx := []) h
  exact ⟨c, fun n z => ⟨fun k h => (by cases h), k, h2, comp, h3⟩, k, comp, h2, h3, h1, h4⟩
/-- the classes and the arrays' classes -/
theorem st_K {s : State} {args : Array Value} (hts : ∀ w ∈ lw_tbl, w.before args s = true) (n : Nat) (ov : Nat → Value) : ∃ (cA : Nat → ClassId) (D : va_G), va_K D am_cl (am_ty (n, ov, cA, D)) s := by
  obtain ⟨d, hd⟩ := Classical.axiomOfChoice (st_D hts)
  obtain ⟨c0, a0, b0⟩ := st_A (hts (.arrayClass .int) (by decide +kernel))
  obtain ⟨c1, a1, b1⟩ := st_A (hts (.arrayClass .byte) (by decide +kernel))
  obtain ⟨c2, a2, b2⟩ := st_A (hts (.arrayClass .boolean) (by decide +kernel))
  obtain ⟨c3, a3, b3⟩ := st_A (hts (.arrayClass .long) (by decide +kernel))
  obtain ⟨c4, a4, b4⟩ := st_AO (hts (.arrayOver (.object "OverFence$Kick")) (by decide +kernel))
  refine ⟨fun k => match k with | 0 => c0 | 1 => c1 | 2 => c2 | 3 => c3 | _ => c4, (fun c => (d c).1, fun c => (d c).2), fun c q hq => hd c q hq, fun k q hq => ?_⟩
  match k, hq with
  | 0, hq => cases hq; exact ⟨a0, b0⟩
  | 1, hq => cases hq; exact ⟨a1, b1⟩
  | 2, hq => cases hq; exact ⟨a2, b2⟩
  | 3, hq => cases hq; exact ⟨a3, b3⟩
  | 4, hq => cases hq; exact ⟨a4, b4⟩
  | k + 5, hq => simp [am_ty] at hq
theorem tb_nm : ∀ w ∈ am_nm, w ∈ lw_tbl := by decide +kernel
theorem tb_nf : ∀ w ∈ am_nf, w ∈ lw_tbl := by decide +kernel
theorem tb_ca : ∀ w ∈ am_ca, w ∈ lw_tbl := by decide +kernel
set_option maxRecDepth 20000 in
theorem fl_nc : ∀ q ∈ am_nc, Cond.not (.castable q.1 q.2) ∈ flatC (Jvm.Cond.and given_1 narrow_1) := by decide +kernel
theorem tb_st : ∀ q ∈ am_st, Cond.stringRef q.1 q.2.1 q.2.2 ∈ lw_tbl := by decide +kernel
set_option maxRecDepth 20000 in
theorem fl_af : ∀ j, j < 10 → Cond.eq (.elem (.static "OverFence" "AT_FIRST" "[I") (.int (Int32.ofNat j))) (.int (nI (q0 j))) ∈ flatC (Jvm.Cond.and given_1 narrow_1) := by decide +kernel
set_option maxRecDepth 20000 in
theorem fl_bh : ∀ j, j < 5 → Cond.eq (.elem (.static "OverFence" "BY_HAND_MOST" "[I") (.int (Int32.ofNat j))) (.int (nI (mo j))) ∈ flatC (Jvm.Cond.and given_1 narrow_1) := by decide +kernel
def st_ov (ad : Nat → Nat × Nat) (a40 a41 : Nat) (v42 v44 : Value) (b : Nat) : Nat → Value := fun k => if k < 12 then .ref (ad k).1 else if 16 ≤ k ∧ k < 28 then .ref (ad (k - 16)).2 else if k = 40 then .ref a40 else if k = 41 then .ref a41 else if k = 42 then v42 else if k = 43 then .ref b else if k = 44 then v44 else .null
theorem st_ov_s1 {ad : Nat → Nat × Nat} {a40 a41 b : Nat} {v42 v44 : Value} {k : Nat} (hk : k < 12) : st_ov ad a40 a41 v42 v44 b k = .ref (ad k).1 := by
  unfold st_ov
  rw [if_pos hk]
theorem st_ov_s2 {ad : Nat → Nat × Nat} {a40 a41 b : Nat} {v42 v44 : Value} {k : Nat} (hk : k < 12) : st_ov ad a40 a41 v42 v44 b (k + 16) = .ref (ad k).2 := by
  unfold st_ov
  rw [if_neg (by omega), if_pos (by omega), show k + 16 - 16 = k from by omega]
theorem st_ov_v {ad : Nat → Nat × Nat} {a40 a41 b : Nat} {v42 v44 : Value} (h : v42 = .null ∨ ∃ t, v42 = .ref t) (h' : v44 = .null ∨ ∃ t, v44 = .ref t) (k : Nat) : st_ov ad a40 a41 v42 v44 b k = .null ∨ ∃ a, st_ov ad a40 a41 v42 v44 b k = .ref a := by
  unfold st_ov
  split
  · exact Or.inr ⟨_, rfl⟩
  · split
    · exact Or.inr ⟨_, rfl⟩
    · split
      · exact Or.inr ⟨_, rfl⟩
      · split
        · exact Or.inr ⟨_, rfl⟩
        · split
          · exact h
          · split
            · exact Or.inr ⟨_, rfl⟩
            · split
              · exact h'
              · exact Or.inl rfl
theorem st_all {s : State} {b L : Nat} {xs : Nat → Int32} (hts : ∀ w ∈ lw_tbl, w.before #[Value.ref b] s = true) (hgv : (Jvm.Cond.and given_1 narrow_1).before #[Value.ref b] s = true) (hX : va_X b L xs s s.heap) : ∃ g : am_G, g.1 = s.heap.size ∧ g.2.1 43 = .ref b ∧ am_ov g ∧ am_F1 g (O1 L xs) s s.heap ∧ am_F2 g s := by
  have hs := flat_of_before _ hgv
  let g0 : am_G := (s.heap.size, fun _ => .null, fun _ => 0, (fun _ => 0, fun _ _ => 0))
  have hA : ∀ a : Nat, a < s.heap.size → ¬ am_A0 g0 a := fun a h1 h2 => Nat.not_le.mpr h1 h2
  obtain ⟨ad, had⟩ := Classical.axiomOfChoice (st_S (A := am_A0 g0) hs hA)
  obtain ⟨a40, z40, x40⟩ := st_X (g := g0) (n := "AT_FIRST") (N := 10) (f := fun j => nI (q0 j)) (by decide) (hts _ (by decide +kernel)) (hts _ (by decide +kernel)) (hs _ (by decide +kernel)) (hs _ (by decide +kernel)) (hs _ (by decide +kernel)) (fun j hj => hs _ (fl_af j hj)) hA
  obtain ⟨a41, z41, x41⟩ := st_X (g := g0) (n := "BY_HAND_MOST") (N := 5) (f := fun j => nI (mo j)) (by decide) (hts _ (by decide +kernel)) (hts _ (by decide +kernel)) (hs _ (by decide +kernel)) (hs _ (by decide +kernel)) (hs _ (by decide +kernel)) (fun j hj => hs _ (fl_bh j hj)) hA
  have zc : va_Z "java/lang/String" "COMPACT_STRINGS" "Z" (.int 1) (am_A0 g0) s s.heap := va_Zof (args := #[Value.ref b]) (hts _ (by decide +kernel)) (hts _ (by decide +kernel)) (va_eqt (hs _ (by decide +kernel))) hA
  obtain ⟨v42, hv42, z42⟩ : ∃ v, (v = .null ∨ ∃ t, v = .ref t) ∧ va_Z "jdk/internal/util/Preconditions" "SIOOBE_FORMATTER" "Ljava/util/function/BiFunction;" v (am_A0 g0) s s.heap := by
    rcases va_Zqof (args := #[Value.ref b]) (C := "jdk/internal/util/Preconditions") (n := "SIOOBE_FORMATTER") (d := "Ljava/util/function/BiFunction;") (hts _ (by decide +kernel)) (hts _ (by decide +kernel)) (hs _ (by decide +kernel)) hA with h | ⟨t, h⟩
    · exact ⟨_, Or.inl rfl, h⟩
    · exact ⟨_, Or.inr ⟨t, rfl⟩, h⟩
  obtain ⟨v44, hv44, z44⟩ : ∃ v, (v = .null ∨ ∃ t, v = .ref t) ∧ va_Z "OverFence$Yard" "NO_TEXT" "[B" v (am_A0 g0) s s.heap := by
    rcases va_Zqof (args := #[Value.ref b]) (C := "OverFence$Yard") (n := "NO_TEXT") (d := "[B") (hts _ (by decide +kernel)) (hts _ (by decide +kernel)) (hs _ (by decide +kernel)) hA with h | ⟨t, h⟩
    · exact ⟨_, Or.inl rfl, h⟩
    · exact ⟨_, Or.inr ⟨t, rfl⟩, h⟩
  obtain ⟨cA, D, hK⟩ := st_K hts s.heap.size (st_ov ad a40 a41 v42 v44 b)
  obtain ⟨scr, y1, y2, y3, y4, y5⟩ := hX
  refine ⟨(s.heap.size, st_ov ad a40 a41 v42 v44 b, cA, D), rfl, rfl, st_ov_v hv42 hv44, ⟨fun k hk => ?_, ⟨a40, rfl, z40, x40⟩, ⟨a41, rfl, z41, x41⟩, zc, z42, z44, b, rfl, scr, y1, y2, y3, Nat.le_of_eq y4.symm, by rw [y4]; rfl, y5, hA b (Array.getElem?_eq_some_iff.mp y1).1⟩, hK, fun k q hq => ?_, fun w hw => ?_, fun w hw => ?_, fun w hw => ?_, va_AO.of (hts _ (by decide +kernel)), fun q hq => va_Nc.of (hs _ (fl_nc q hq))⟩
  · obtain ⟨h1, h2, h3, h4, h5⟩ := had k hk
    refine ⟨(ad k).1, (ad k).2, st_ov_s1 hk, st_ov_s2 hk, h2, h3, h4, ?_⟩
    rw [O1_at hk]
    exact h5
  · have hk : k < 12 := (List.getElem?_eq_some_iff.mp hq).1
    have ht : tS k = .string q.1 q.2.1 := by unfold tS; rw [hq]
    refine ⟨(ad k).1, st_ov_s1 hk, vk_R.of (A := #[Value.ref b]) (hts _ (tb_st q (List.mem_of_getElem? hq))) ?_⟩
    have := (had k hk).1
    rw [ht] at this
    exact this
  · exact va_Nw.of (am_nw_on w (List.mem_append_left _ (List.mem_append_left _ hw))) (hts _ (tb_nm w hw))
  · exact va_Nw.of (am_nw_on w (List.mem_append_left _ (List.mem_append_right _ hw))) (hts _ (tb_nf w hw))
  · exact va_Nw.of (am_nw_on w (List.mem_append_right _ hw)) (hts _ (tb_ca w hw))
