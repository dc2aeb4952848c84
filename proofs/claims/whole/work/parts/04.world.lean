/-! What the abstract heap says of the real one. -/
/-- where the made cells begin; what the old names are; the array classes; the classes' numbers -/
abbrev am_G : Type := Nat × (Nat → Value) × (Nat → ClassId) × va_G
def am_v (g : am_G) (v : Value) : Value := match v with
  | .ref i => .ref (g.1 + i)
  | .retAddr k => g.2.1 k
  | v => v
def am_e (g : am_G) (e : va_E) : va_E := match e with
  | .inl (t, n, .inl f) => .inl (g.2.2.1 t, n, .inl f)
  | .inl (t, n, .inr (.inl f)) => .inl (g.2.2.1 t, n, .inr (.inl f))
  | .inl (t, n, .inr (.inr (.inl f))) => .inl (g.2.2.1 t, n, .inr (.inr (.inl f)))
  | .inl (t, n, .inr (.inr (.inr (.inl f)))) => .inl (g.2.2.1 t, n, .inr (.inr (.inr (.inl f))))
  | .inl (t, n, .inr (.inr (.inr (.inr f)))) => .inl (g.2.2.1 t, n, .inr (.inr (.inr (.inr fun j => (f j).map (g.1 + ·)))))
  | .inr (c, fs) => .inr (c, fs.map (am_v g))
def am_w (g : am_G) : Nat → am_H → va_W
  | _, [] => []
  | k, c :: r => (k, am_e g c) :: am_w g (k + 1) r
theorem am_w_get (g : am_G) : ∀ (h : am_H) (k i : Nat), (am_w g k h)[i]? = (h[i]?).map (fun c => (k + i, am_e g c))
  | [], _, _ => rfl
  | c :: r, k, 0 => rfl
  | c :: r, k, i + 1 => by
    show (am_w g (k + 1) r)[i]? = _
    rw [am_w_get g r (k + 1) i]
    show (r[i]?).map _ = (r[i]?).map _
    rw [Nat.add_right_comm, Nat.add_assoc]
theorem am_w_set (g : am_G) (c : va_E) : ∀ (h : am_H) (k i : Nat), am_w g k (h.set i c) = (am_w g k h).set i (k + i, am_e g c)
  | [], _, _ => rfl
  | d :: r, k, 0 => rfl
  | d :: r, k, i + 1 => by
    show (k, am_e g d) :: am_w g (k + 1) (r.set i c) = (k, am_e g d) :: (am_w g (k + 1) r).set i _
    rw [am_w_set g c r (k + 1) i, Nat.add_right_comm, Nat.add_assoc]
theorem am_w_app (g : am_G) (c : va_E) : ∀ (h : am_H) (k : Nat), am_w g k (h ++ [c]) = am_w g k h ++ [(k + h.length, am_e g c)]
  | [], _ => rfl
  | d :: r, k => by
    show (k, am_e g d) :: am_w g (k + 1) (r ++ [c]) = (k, am_e g d) :: (am_w g (k + 1) r ++ _)
    rw [am_w_app g c r (k + 1), List.length_cons, Nat.add_right_comm, Nat.add_assoc]
def am_A0 (g : am_G) : Nat → Prop := fun q => g.1 ≤ q
theorem am_w_D (g : am_G) (h : am_H) : va_D (am_A0 g) (am_w g g.1 h) := by
  refine ⟨fun i j p q hp hq e => ?_, fun k q hq => ?_⟩
  · rw [am_w_get] at hp hq
    cases h1 : h[i]? with
    | none => rw [h1] at hp; cases hp
    | some a =>
      cases h2 : h[j]? with
      | none => rw [h2] at hq; cases hq
      | some b =>
        rw [h1] at hp; rw [h2] at hq
        cases hp; cases hq
        exact Nat.add_left_cancel e
  · rw [am_w_get] at hq
    cases h1 : h[k]? with
    | none => rw [h1] at hq; cases hq
    | some a => rw [h1] at hq; cases hq; exact Nat.le_add_right _ _
def am_R (g : am_G) (h : am_H) (H : Heap) : Prop := H.size = g.1 + h.length ∧ va_P g.2.2.2 am_cl (am_w g g.1 h) H
theorem am_at {g : am_G} {h : am_H} {a : Nat} {c : va_E} (hc : am_hg h a = some c) : (am_w g g.1 h)[a]? = some (g.1 + a, am_e g c) := by
  rw [am_w_get, show h[a]? = some c from hc]; rfl
def am_ty (g : am_G) : List (ClassId × FieldType) := [(g.2.2.1 0, .int), (g.2.2.1 1, .byte), (g.2.2.1 2, .boolean), (g.2.2.1 3, .long), (g.2.2.1 4, .object "OverFence$Kick")]
/-- the old names are references, or null -/
def am_ov (g : am_G) : Prop := ∀ k, g.2.1 k = .null ∨ ∃ a, g.2.1 k = .ref a
theorem am_v_cat {g : am_G} (ho : am_ov g) (v : Value) : (am_v g v).category = v.category := by
  cases v with
  | retAddr k =>
    show (g.2.1 k).category = 1
    rcases ho k with h | ⟨a, h⟩ <;> rw [h] <;> rfl
  | _ => rfl
/-- locals -/
def am_lr (g : am_G) (ls : Array Slot) (nL : Nat) (L : am_L) : Prop := ls.size = nL ∧ lv_wf ls ∧ ∀ (j : Nat) (v : Value), am_lg L j = some v → ls[j]? = some (.val (am_v g v))
def am_ll (g : am_G) (L : am_L) : List (Nat × Value) := (List.range L.length).filterMap fun j => (am_lg L j).map fun v => (j, am_v g v)
theorem am_lg_lt : ∀ {L : am_L} {j : Nat} {v : Value}, am_lg L j = some v → j < L.length
  | [], _, _, h => by cases h
  | _ :: _, 0, _, _ => Nat.succ_pos _
  | _ :: l, j + 1, _, h => Nat.succ_lt_succ (am_lg_lt (L := l) h)
theorem am_ll_has {g : am_G} {ls : Array Slot} {nL : Nat} {L : am_L} (h : am_lr g ls nL L) : lv_has ls nL (am_ll g L) := by
  refine ⟨h.1, h.2.1, fun q hq => ?_⟩
  obtain ⟨j, -, hj⟩ := List.mem_filterMap.mp hq
  cases hv : am_lg L j with
  | none => rw [hv] at hj; cases hj
  | some v => rw [hv] at hj; cases hj; exact h.2.2 j v hv
theorem am_ll_mem {g : am_G} {L : am_L} {j : Nat} {v : Value} (h : am_lg L j = some v) : (j, am_v g v) ∈ am_ll g L :=
  List.mem_filterMap.mpr ⟨j, List.mem_range.mpr (am_lg_lt h), by rw [h]; rfl⟩
theorem am_c1_some {a : Option Value} {v : Value} (h : am_c1 a = some v) : a = some v ∧ ¬ v.category = 2 := by
  cases a with
  | none => cases h
  | some w => cases w <;> first | (cases h; done) | (cases h; exact ⟨rfl, fun q => by cases q⟩)
theorem am_l1_get (v : Value) : ∀ {L : am_L} {i j : Nat} {w : Value}, am_lg (am_l1 L i v) j = some w → (j = i ∧ w = v) ∨ (j ≠ i ∧ am_lg L j = some w ∧ ¬ (j + 1 = i ∧ w.category = 2))
  | [], _, _, _, h => by cases h
  | _ :: l, 0, 0, w, h => Or.inl ⟨rfl, (Option.some.inj h).symm⟩
  | _ :: l, 0, j + 1, w, h => Or.inr ⟨by omega, h, by omega⟩
  | a :: l, 1, 0, w, h => by
    obtain ⟨h1, h2⟩ := am_c1_some (show am_c1 a = some w from h)
    exact Or.inr ⟨by omega, h1, fun q => h2 q.2⟩
  | a :: l, i + 2, 0, w, h => Or.inr ⟨by omega, h, by omega⟩
  | a :: l, i + 1, j + 1, w, h => by
    rcases am_l1_get v (L := l) (i := i) (j := j) (w := w) h with ⟨q1, q2⟩ | ⟨q1, q2, q3⟩
    · exact Or.inl ⟨by omega, q2⟩
    · exact Or.inr ⟨by omega, q2, fun q => q3 ⟨by omega, q.2⟩⟩
theorem am_l2_get (v : Value) : ∀ {L : am_L} {i j : Nat} {w : Value}, am_lg (am_l2 L i v) j = some w → (j = i ∧ w = v) ∨ (j ≠ i ∧ j ≠ i + 1 ∧ am_lg L j = some w ∧ ¬ (j + 1 = i ∧ w.category = 2))
  | [], _, _, _, h => by cases h
  | _ :: l, 0, 0, w, h => Or.inl ⟨rfl, (Option.some.inj h).symm⟩
  | _ :: [], 0, j + 1, w, h => by cases h
  | _ :: b :: l, 0, 1, w, h => by cases h
  | _ :: b :: l, 0, j + 2, w, h => Or.inr ⟨by omega, by omega, h, by omega⟩
  | a :: l, 1, 0, w, h => by
    obtain ⟨h1, h2⟩ := am_c1_some (show am_c1 a = some w from h)
    exact Or.inr ⟨by omega, by omega, h1, fun q => h2 q.2⟩
  | a :: l, i + 2, 0, w, h => Or.inr ⟨by omega, by omega, h, by omega⟩
  | a :: l, i + 1, j + 1, w, h => by
    rcases am_l2_get v (L := l) (i := i) (j := j) (w := w) h with ⟨q1, q2⟩ | ⟨q1, q0, q2, q3⟩
    · exact Or.inl ⟨by omega, q2⟩
    · exact Or.inr ⟨by omega, by omega, q2, fun q => q3 ⟨by omega, q.2⟩⟩
theorem am_lr1 {g : am_G} (ho : am_ov g) {ls' : Array Slot} {nL i : Nat} {L : am_L} {v : Value} (h : lv_has ls' nL ((i, am_v g v) :: (am_ll g L).filter (fun q => !(q.1 == i) && !(q.1 + 1 == i && q.2.category == 2)))) : am_lr g ls' nL (am_l1 L i v) := by
  refine ⟨h.1, h.2.1, fun j w hj => ?_⟩
  rcases am_l1_get v hj with ⟨q1, q2⟩ | ⟨q1, q2, q3⟩
  · subst q1; subst q2
    exact h.2.2 _ List.mem_cons_self
  · refine h.2.2 (j, am_v g w) (List.mem_cons_of_mem _ (List.mem_filter.mpr ⟨am_ll_mem q2, ?_⟩))
    simp only [am_v_cat ho, Bool.and_eq_true, Bool.not_eq_true', beq_eq_false_iff_ne, Bool.and_eq_false_iff]
    refine ⟨q1, ?_⟩
    by_cases hc : j + 1 = i
    · exact Or.inr fun hw => q3 ⟨hc, hw⟩
    · exact Or.inl hc
theorem am_lr2 {g : am_G} (ho : am_ov g) {ls' : Array Slot} {nL i : Nat} {L : am_L} {v : Value} (h : lv_has ls' nL ((i, am_v g v) :: (am_ll g L).filter (fun q => !(q.1 == i) && (!(q.1 == i + 1) && !(q.1 + 1 == i && q.2.category == 2))))) : am_lr g ls' nL (am_l2 L i v) := by
  refine ⟨h.1, h.2.1, fun j w hj => ?_⟩
  rcases am_l2_get v hj with ⟨q1, q2⟩ | ⟨q1, q0, q2, q3⟩
  · subst q1; subst q2
    exact h.2.2 _ List.mem_cons_self
  · refine h.2.2 (j, am_v g w) (List.mem_cons_of_mem _ (List.mem_filter.mpr ⟨am_ll_mem q2, ?_⟩))
    simp only [am_v_cat ho, Bool.and_eq_true, Bool.not_eq_true', beq_eq_false_iff_ne, Bool.and_eq_false_iff]
    refine ⟨q1, q0, ?_⟩
    by_cases hc : j + 1 = i
    · exact Or.inr fun hw => q3 ⟨hc, hw⟩
    · exact Or.inl hc
theorem am_lg_rep (n : Nat) : ∀ (j : Nat), am_lg (List.replicate n none) j = none := by
  induction n with
  | zero => intro j; rfl
  | succ n ih =>
    intro j
    cases j with
    | zero => rfl
    | succ j => exact ih j
theorem am_l0_get {g : am_G} (ho : am_ov g) : ∀ (as : List Value) (n k j : Nat) (v : Value), am_lg (am_l0 n as) j = some v → (k + j, am_v g v) ∈ lv_args k (as.map (am_v g))
  | [], n, k, j, v, h => by rw [show am_l0 n [] = List.replicate n none from rfl, am_lg_rep] at h; cases h
  | w :: r, n, k, j, v, h => by
    by_cases hc : w.category = 2
    · have e : am_l0 n (w :: r) = some w :: none :: am_l0 (n - 2) r := by cases w <;> first | rfl | cases hc
      rw [e] at h
      match j, h with
      | 0, h => cases h; exact List.mem_cons_self
      | 1, h => cases h
      | j + 2, h =>
        have h1 := am_l0_get ho r (n - 2) (k + 2) j v h
        rw [show k + (j + 2) = k + 2 + j by omega, List.map_cons, lv_args, am_v_cat ho, if_pos hc]
        exact List.mem_cons_of_mem _ h1
    · have e : am_l0 n (w :: r) = some w :: am_l0 (n - 1) r := by cases w <;> first | rfl | exact absurd rfl hc
      rw [e] at h
      match j, h with
      | 0, h => cases h; exact List.mem_cons_self
      | j + 1, h =>
        have h1 := am_l0_get ho r (n - 1) (k + 1) j v h
        rw [show k + (j + 1) = k + 1 + j by omega, List.map_cons, lv_args, am_v_cat ho, if_neg hc]
        exact List.mem_cons_of_mem _ h1
theorem am_sz_sl {g : am_G} (ho : am_ov g) : ∀ as : List Value, (lg_sl (as.map (am_v g))).length = am_sz as
  | [] => rfl
  | v :: r => by
    have ih := am_sz_sl ho r
    have e : lg_sl ((v :: r).map (am_v g)) = (if (am_v g v).category = 2 then [.val (am_v g v), .second] else [.val (am_v g v)]) ++ lg_sl (r.map (am_v g)) := rfl
    rw [e, List.length_append, ih, am_v_cat ho]
    show _ = v.category + am_sz r
    rcases lv_cat v with hc | hc <;> rw [hc] <;> rfl
/-- the entry of a method: its locals hold its arguments -/
theorem am_l0_lr {g : am_G} (ho : am_ov g) {as : List Value} {nL : Nat} (hn : am_sz as ≤ nL) : am_lr g ((lg_sl (as.map (am_v g)) ++ List.replicate (nL - (lg_sl (as.map (am_v g))).length) Slot.unset).toArray) nL (am_l0 nL as) := by
  have h := lv_entry (as.map (am_v g)) (n := nL) (by rw [am_sz_sl ho]; exact hn)
  refine ⟨h.1, h.2.1, fun j v hj => ?_⟩
  have h1 := am_l0_get ho as nL 0 j v hj
  rw [Nat.zero_add] at h1
  exact h.2.2 _ h1
