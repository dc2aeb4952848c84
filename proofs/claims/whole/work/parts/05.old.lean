/-! What was there before the law began: texts, static arrays, the script; words that are no table words of the kit. -/
def am_st : List (String × Nat × String) := [("OverFence$Yard", 97, "lift"), ("OverFence$Yard", 103, "duck"), ("OverFence$Yard", 105, "wall"), ("OverFence$Yard", 106, "supper"), ("OverFence$Yard", 129, "bkagnh"), ("OverFence$Yard", 135, "<=>"), ("OverFenceModel", 109, "lift "), ("OverFenceModel", 91, "bkagnh"), ("OverFenceModel", 97, "<=>"), ("OverFenceModel", 115, "duck "), ("OverFenceModel", 117, "wall "), ("OverFenceModel", 122, "supper ")]
def am_nm : List Cond := [.methodLinkNest "OverFence" 11 ⟨"OverFence$Scene", "<init>", "()V"⟩ "OverFence", .methodLinkNest "OverFence$Scene" 41 ⟨"OverFence$Yard", "<init>", "()V"⟩ "OverFence", .methodLinkNest "OverFence" 26 ⟨"OverFence$Yard", "<init>", "()V"⟩ "OverFence", .methodLinkNest "OverFence" 33 ⟨"OverFence$Chances", "<init>", "()V"⟩ "OverFence", .methodLinkNest "OverFence" 40 ⟨"OverFence$Trace", "<init>", "()V"⟩ "OverFence"]
def am_nf : List Cond := [.fieldLinkNest "OverFence$Scene" 9 "OverFence" "AT_FIRST" "[I" "OverFence"]
def am_ca : List Cond := [.castable "[I" "java/lang/Cloneable", .castable "OverFence$Wild" "OverFence$Hard", .castable "OverFence$Bent" "OverFence$Low", .castable "OverFence$Paying" "OverFence$Shy", .castable "OverFence$Hard" "OverFence$Kick", .castable "OverFence$Low" "OverFence$Kick", .castable "OverFence$Shy" "OverFence$Kick", .castable "OverFence$Wild" "OverFence$Kick", .castable "OverFence$Bent" "OverFence$Kick", .castable "OverFence$Paying" "OverFence$Kick"]
def am_nc : List (String × String) := [("OverFence$Low", "OverFence$Hard"), ("OverFence$Shy", "OverFence$Hard"), ("OverFence$Bent", "OverFence$Hard"), ("OverFence$Paying", "OverFence$Hard"), ("OverFence$Kick", "OverFence$Hard"), ("OverFence$Hard", "OverFence$Low"), ("OverFence$Shy", "OverFence$Low"), ("OverFence$Wild", "OverFence$Low"), ("OverFence$Paying", "OverFence$Low"), ("OverFence$Kick", "OverFence$Low"), ("OverFence$Hard", "OverFence$Shy"), ("OverFence$Low", "OverFence$Shy"), ("OverFence$Wild", "OverFence$Shy"), ("OverFence$Bent", "OverFence$Shy"), ("OverFence$Kick", "OverFence$Shy"), ("OverFence$Hard", "OverFence$Wild"), ("OverFence$Low", "OverFence$Wild"), ("OverFence$Shy", "OverFence$Wild"), ("OverFence$Bent", "OverFence$Wild"), ("OverFence$Paying", "OverFence$Wild"), ("OverFence$Kick", "OverFence$Wild"), ("OverFence$Hard", "OverFence$Bent"), ("OverFence$Low", "OverFence$Bent"), ("OverFence$Shy", "OverFence$Bent"), ("OverFence$Wild", "OverFence$Bent"), ("OverFence$Paying", "OverFence$Bent"), ("OverFence$Kick", "OverFence$Bent"), ("OverFence$Hard", "OverFence$Paying"), ("OverFence$Low", "OverFence$Paying"), ("OverFence$Shy", "OverFence$Paying"), ("OverFence$Wild", "OverFence$Paying"), ("OverFence$Bent", "OverFence$Paying"), ("OverFence$Kick", "OverFence$Paying")]
/-- an int array that isn't written, cell by cell -/
def am_X (g : am_G) (a : Nat) (o : Nat × (Nat → Int32)) (U : State) (H : Heap) : Prop := ∃ cell : Cell, H[a]? = some cell ∧ U.isArrayOf cell .int ∧ cell.vm ≠ .unknown ∧ U.vm.findClass "[I" = some cell.cls ∧ cell.slots.size = o.1 ∧ (∀ j : Nat, j < o.1 → cell.slots[j]? = some (.int (o.2 j))) ∧ ¬ am_A0 g a
theorem am_X.moved {g : am_G} {a : Nat} {o : Nat × (Nat → Int32)} {u U : State} {H : Heap} (hvm : u.vm.Alike U.vm) (h : am_X g a o u H) : am_X g a o U H := by
  obtain ⟨cell, h1, h2, h3, h4, h5⟩ := h
  exact ⟨cell, h1, State.isArrayOf_alike hvm h2, h3, by rw [hvm.findClass]; exact h4, h5⟩
theorem am_X.kept {g : am_G} {a : Nat} {o : Nat × (Nat → Int32)} {U : State} {H H1 : Heap} (h : am_X g a o U H) (hq : ∀ a : Nat, a < H.size → ¬ am_A0 g a → H1[a]? = H[a]?) : am_X g a o U H1 := by
  obtain ⟨cell, h1, h2, h3, h4, h5, h6, h7⟩ := h
  exact ⟨cell, by rw [hq a (Array.getElem?_eq_some_iff.mp h1).1 h7]; exact h1, h2, h3, h4, h5, h6, h7⟩
/-- a text: the object and its bytes -/
def am_S (g : am_G) (O : am_O) (k : Nat) (U : State) (H : Heap) : Prop := ∃ a b : Nat, g.2.1 k = .ref a ∧ g.2.1 (k + 16) = .ref b ∧ va_O "java/lang/String" a (am_A0 g) U H ∧ va_OF "java/lang/String" "coder" "B" (.int 0) a (am_A0 g) U H ∧ va_OF "java/lang/String" "value" "[B" (.ref b) a (am_A0 g) U H ∧ va_T .byte b (O (k + 16)).1 (fun j => .int ((O (k + 16)).2 j)) (am_A0 g) U H
/-- a static array of ints, by its name -/
def am_Y (g : am_G) (O : am_O) (k : Nat) (n : String) (U : State) (H : Heap) : Prop := ∃ a : Nat, g.2.1 k = .ref a ∧ va_Z "OverFence" n "[I" (.ref a) (am_A0 g) U H ∧ am_X g a (O k) U H
/-- what speaks of cells -/
def am_F1 (g : am_G) (O : am_O) (U : State) (H : Heap) : Prop :=
  (∀ k, k < 12 → am_S g O k U H) ∧ am_Y g O 40 "AT_FIRST" U H ∧ am_Y g O 41 "BY_HAND_MOST" U H ∧ va_Z "java/lang/String" "COMPACT_STRINGS" "Z" (.int 1) (am_A0 g) U H ∧
  va_Z "jdk/internal/util/Preconditions" "SIOOBE_FORMATTER" "Ljava/util/function/BiFunction;" (g.2.1 42) (am_A0 g) U H ∧ va_Z "OverFence$Yard" "NO_TEXT" "[B" (g.2.1 44) (am_A0 g) U H ∧ (∃ a : Nat, g.2.1 43 = .ref a ∧ va_T .int a (O 43).1 (fun j => .int ((O 43).2 j)) (am_A0 g) U H)
/-- what speaks of tables -/
def am_F2 (g : am_G) (U : State) : Prop :=
  va_K g.2.2.2 am_cl (am_ty g) U ∧ (∀ (k : Nat) (q : String × Nat × String), am_st[k]? = some q → ∃ a : Nat, g.2.1 k = .ref a ∧ vk_R q.1 q.2.1 q.2.2 a U) ∧ (∀ w ∈ am_nm, va_Nw w U) ∧ (∀ w ∈ am_nf, va_Nw w U) ∧ (∀ w ∈ am_ca, va_Nw w U) ∧ va_AO "OverFence$Kick" U ∧ ∀ q ∈ am_nc, va_Nc q.1 q.2 U
theorem am_F1.moved {g : am_G} {O : am_O} {u U : State} {H : Heap} (hvm : u.vm.Alike U.vm) (h : am_F1 g O u H) : am_F1 g O U H := by
  obtain ⟨h1, ⟨a, a1, a2, a3⟩, ⟨b, b1, b2, b3⟩, h4, h5, h5t, c, c1, c2⟩ := h
  refine ⟨fun k hk => ?_, ⟨a, a1, a2.moved hvm, a3.moved hvm⟩, ⟨b, b1, b2.moved hvm, b3.moved hvm⟩, h4.moved hvm, h5.moved hvm, h5t.moved hvm, c, c1, c2.moved hvm⟩
  obtain ⟨q, r, q1, q2, q3, q4, q5, q6⟩ := h1 k hk
  exact ⟨q, r, q1, q2, q3.moved hvm, q4.moved hvm, q5.moved hvm, q6.moved hvm⟩
theorem am_F1.kept {g : am_G} {O : am_O} {U : State} {H H1 : Heap} (h : am_F1 g O U H) (hq : ∀ a : Nat, a < H.size → ¬ am_A0 g a → H1[a]? = H[a]?) : am_F1 g O U H1 := by
  obtain ⟨h1, ⟨a, a1, a2, a3⟩, ⟨b, b1, b2, b3⟩, h4, h5, h5t, c, c1, c2⟩ := h
  refine ⟨fun k hk => ?_, ⟨a, a1, a2.kept hq, a3.kept hq⟩, ⟨b, b1, b2.kept hq, b3.kept hq⟩, h4.kept hq, h5.kept hq, h5t.kept hq, c, c1, c2.kept hq⟩
  obtain ⟨q, r, q1, q2, q3, q4, q5, q6⟩ := h1 k hk
  exact ⟨q, r, q1, q2, q3.kept hq, q4.kept hq, q5.kept hq, q6.kept hq⟩
theorem am_nm_warm {s U : State} (hW : s.WarmedH U.vm) : ∀ w ∈ am_nm, va_Nw w s → va_Nw w U := by
  intro w hw h
  simp only [am_nm, List.mem_cons, List.not_mem_nil, or_false] at hw
  rcases hw with rfl | rfl | rfl | rfl | rfl <;> exact va_Nw.warmM hW h
theorem am_nf_warm {s U : State} (hW : s.WarmedH U.vm) : ∀ w ∈ am_nf, va_Nw w s → va_Nw w U := by
  intro w hw h
  simp only [am_nf, List.mem_cons, List.not_mem_nil, or_false] at hw
  subst hw
  exact va_Nw.warmF hW h
theorem am_castable_warm {a b : String} {s U : State} (hW : s.WarmedH U.vm) (h : va_Nw (.castable a b) s) : va_Nw (.castable a b) U := va_tabs rfl (rfl : (s.setVm U.vm).vm = U.vm) (by rw [Cond.castable_setVm hW.alike]; exact h)
theorem am_ca_warm {s U : State} (hW : s.WarmedH U.vm) : ∀ w ∈ am_ca, va_Nw w s → va_Nw w U := by
  intro w hw h
  simp only [am_ca, List.mem_cons, List.not_mem_nil, or_false] at hw
  rcases hw with rfl | rfl | rfl | rfl | rfl | rfl | rfl | rfl | rfl | rfl <;> exact am_castable_warm hW h
theorem am_F2.warm {g : am_G} {s U : State} (hW : s.WarmedH U.vm) (h : am_F2 g s) : am_F2 g U := by
  obtain ⟨h1, h2, h3, h4, h5, h6, h7⟩ := h
  refine ⟨va_K.moved hW.alike h1, fun k q hq => ?_, fun w hw => am_nm_warm hW w hw (h3 w hw), fun w hw => am_nf_warm hW w hw (h4 w hw), fun w hw => am_ca_warm hW w hw (h5 w hw), va_AO.moved hW.alike h6, fun q hq => (h7 q hq).moved hW.alike⟩
  obtain ⟨a, a1, a2⟩ := h2 k q hq
  exact ⟨a, a1, a2.warm hW⟩
theorem am_nw_on : ∀ w ∈ am_nm ++ am_nf ++ am_ca, w.onTables = true := by decide +kernel
theorem am_F2.same {g : am_G} {u U : State} (hv : u.vm = U.vm) (h : am_F2 g u) : am_F2 g U := by
  obtain ⟨h1, h2, h3, h4, h5, h6, h7⟩ := h
  have hA : u.vm.Alike U.vm := by rw [hv]; exact Vm.Alike.refl _
  refine ⟨va_K.moved hA h1, fun k q hq => ?_, fun w hw => va_Nw.same (am_nw_on w (List.mem_append_left _ (List.mem_append_left _ hw))) hv (h3 w hw), fun w hw => va_Nw.same (am_nw_on w (List.mem_append_left _ (List.mem_append_right _ hw))) hv (h4 w hw), fun w hw => va_Nw.same (am_nw_on w (List.mem_append_right _ hw)) hv (h5 w hw), va_AO.moved hA h6, fun q hq => (h7 q hq).moved hA⟩
  obtain ⟨a, a1, a2⟩ := h2 k q hq
  exact ⟨a, a1, a2.same hv.symm⟩
/-- a method's start: the heap is the abstract one's; what is old stands -/
def am_pre (g : am_G) (O : am_O) (h : am_H) (U : State) : Prop := am_R g h U.heap ∧ am_F1 g O U U.heap ∧ am_F2 g U
def am_Pc (g : am_G) (O : am_O) (as : List Value) (h : am_H) : Array Value → State → Prop := va_Pc (as.map (am_v g)) (am_pre g O h)
/-- a method's end -/
def am_Q (g : am_G) (P : am_P) : Array Value → State → Outcome → State → Prop := fun _ st o t => ∃ (r : Option Value) (h : am_H), o = .returned (r.map (am_v g)) ∧ P r h ∧ am_R g h t.heap ∧ va_F (am_A0 g) st t
theorem am_blind (g : am_G) (O : am_O) (as : List Value) (h : am_H) : FrameBlind (am_Pc g O as h) := by
  intro a U fr mk q
  obtain ⟨q0, q1, q2, q3⟩ := q
  exact ⟨q0, q1, am_F1.moved (u := U) (U := U.calling fr mk a) (Vm.Alike.refl U.vm) q2, am_F2.same (u := U) (U := U.calling fr mk a) rfl q3⟩
theorem am_Pc_at {g : am_G} {O : am_O} {as : List Value} {h : am_H} {s U : State} {H : Heap} {locs : List Loc} (hR : am_R g h H) (hS : va_S (am_A0 g) s.heap H locs) (h1 : am_F1 g O s s.heap) (h2 : am_F2 g s) (hU : U.heap = H) (hW : s.WarmedH U.vm) : am_Pc g O as h (as.map (am_v g)).toArray U := by
  refine ⟨rfl, by rw [hU]; exact hR, ?_, h2.warm hW⟩
  rw [hU]
  exact (h1.kept hS.2.1).moved hW.alike
