/-! Old cells, casts, copies, switches, returns. -/
section AMU
variable {p : Program} {l : Launch} {e : Env} {R : Room} {s : State} {m : MethodId} {args : Array Value} {below : List Frame} {meth : Method} {c : Code} {Q : State → Prop} {g : am_G} {O : am_O} {cc : ByteArray} {nL bud pc : Nat} {C : am_C} {P : am_P} {v : Value} {n : Nat} {t : List (Nat × Nat)} {u : Nat} {L : am_L} {st : List Value} {h : am_H} {own : String}

/-- a text's bytes, its coder -/
theorem am_x_sval {idx : Nat} (hx : p.tables.exec = Jvm.exec) (hb : c.code = cc) (hown : s.vm.findClass own = some m.cls) (hF1 : am_F1 g O s s.heap) (hw : (Cond.fieldLink own idx "java/lang/String" "value" "[B").before args s = true) (hd : decode cc pc = .ok (.getfield idx, 3)) {k0 : am_K} (hkk : ∀ (u : Nat) (L : am_L) (st : List Value) (h : am_H), k0 u L st h → (am_Jm p l e R s m args below meth c Q g nL bud) (pc + 3) u L st h) (hs : am_s O C (am_Jm p l e R s m args below meth c Q g nL bud) P bud k0 .caload v n t u L st h) : (am_Jm p l e R s m args below meth c Q g nL bud) pc u L st h := by
  intro H locs ls hR hS hl hu
  simp only [am_s] at hs
  split at hs
  · rename_i q r
    obtain ⟨a, b, a1, a2, a3, a4, a5, a6⟩ := hF1.1 q hs.1
    have hk := hkk _ _ _ _ hs.2 H locs ls hR hS hl hu
    rw [List.map_cons, show am_v g (.retAddr (q + 16)) = .ref b from a2] at hk
    rw [List.map_cons, show am_v g (.retAddr q) = .ref a from a1]
    exact vk_getf hx hb a5 hS hown hw (fun _ h => h) hd hk
  · exact hs.elim
theorem am_x_scod {idx : Nat} (hx : p.tables.exec = Jvm.exec) (hb : c.code = cc) (hown : s.vm.findClass own = some m.cls) (hF1 : am_F1 g O s s.heap) (hw : (Cond.fieldLink own idx "java/lang/String" "coder" "B").before args s = true) (hd : decode cc pc = .ok (.getfield idx, 3)) {k0 : am_K} (hkk : ∀ (u : Nat) (L : am_L) (st : List Value) (h : am_H), k0 u L st h → (am_Jm p l e R s m args below meth c Q g nL bud) (pc + 3) u L st h) (hs : am_s O C (am_Jm p l e R s m args below meth c Q g nL bud) P bud k0 .saload v n t u L st h) : (am_Jm p l e R s m args below meth c Q g nL bud) pc u L st h := by
  intro H locs ls hR hS hl hu
  simp only [am_s] at hs
  split at hs
  · rename_i q r
    obtain ⟨a, b, a1, a2, a3, a4, a5, a6⟩ := hF1.1 q hs.1
    have hk := hkk _ _ _ _ hs.2 H locs ls hR hS hl hu
    rw [List.map_cons, show am_v g (.retAddr q) = .ref a from a1]
    exact vk_getf hx hb a4 hS hown hw (fun _ h => h) hd hk
  · exact hs.elim
theorem am_X.T {a : Nat} {o : Nat × (Nat → Int32)} {U : State} {H : Heap} (h : am_X g a o U H) (hlt : o.1 < 2 ^ 31) : va_T .int a o.1 (fun j => .int (o.2 j)) (am_A0 g) U H := by
  obtain ⟨cell, h1, h2, h3, h4, h5, h6, h7⟩ := h
  exact ⟨cell, h1, h2, h3, by rw [h5]; exact Nat.le_refl _, by rw [h5] <;> rfl, h6, h7⟩
theorem am_oa_at (hF1 : am_F1 g O s s.heap) (hO : ∀ q, (O q).1 < 2 ^ 31) {q : Nat} (hq : am_oa q = true) : ∃ a : Nat, g.2.1 q = .ref a ∧ (va_T .int a (O q).1 (fun j => .int ((O q).2 j)) (am_A0 g) s s.heap ∧ 28 ≤ q ∨ va_T .byte a (O q).1 (fun j => .int ((O q).2 j)) (am_A0 g) s s.heap ∧ q < 28) := by
  obtain ⟨h1, ⟨a, a1, -, a3⟩, ⟨b, b1, -, b3⟩, -, -, -, c0, c1, c2⟩ := hF1
  simp only [am_oa, Bool.or_eq_true, Bool.and_eq_true, decide_eq_true_eq, beq_iff_eq] at hq
  rcases hq with ((⟨q1, q2⟩ | rfl) | rfl) | rfl
  · obtain ⟨x, y, -, y2, -, -, -, y6⟩ := h1 (q - 16) (by omega)
    rw [show q - 16 + 16 = q by omega] at y2 y6
    exact ⟨y, y2, Or.inr ⟨y6, q2⟩⟩
  · exact ⟨a, a1, Or.inl ⟨a3.T (hO _), by omega⟩⟩
  · exact ⟨b, b1, Or.inl ⟨b3.T (hO _), by omega⟩⟩
  · exact ⟨c0, c1, Or.inl ⟨c2, by omega⟩⟩
theorem am_x_olen (hx : p.tables.exec = Jvm.exec) (hb : c.code = cc) (hF1 : am_F1 g O s s.heap) (hO : ∀ q, (O q).1 < 2 ^ 31) (hd : decode cc pc = .ok (.arraylength, 1)) {k0 : am_K} (hkk : ∀ (u : Nat) (L : am_L) (st : List Value) (h : am_H), k0 u L st h → (am_Jm p l e R s m args below meth c Q g nL bud) (pc + 1) u L st h) (hs : am_s O C (am_Jm p l e R s m args below meth c Q g nL bud) P bud k0 .castore v n t u L st h) : (am_Jm p l e R s m args below meth c Q g nL bud) pc u L st h := by
  intro H locs ls hR hS hl hu
  simp only [am_s] at hs
  split at hs
  · rename_i q r
    obtain ⟨a, a1, a2⟩ := am_oa_at hF1 hO hs.1
    have hk := hkk _ _ _ _ hs.2 H locs ls hR hS hl hu
    rw [List.map_cons, show am_v g (.retAddr q) = .ref a from a1]
    rcases a2 with ⟨a2, -⟩ | ⟨a2, -⟩
    · exact va_tlen hx hb a2 hS rfl hd hk
    · exact va_tlen hx hb a2 hS rfl hd hk
  · exact hs.elim
theorem am_x_old (hx : p.tables.exec = Jvm.exec) (hb : c.code = cc) (hF1 : am_F1 g O s s.heap) (hO : ∀ q, (O q).1 < 2 ^ 31) (hd : decode cc pc = .ok (.iaload, 1) ∧ n = 0 ∨ decode cc pc = .ok (.baload, 1) ∧ n = 1) {k0 : am_K} (hkk : ∀ (u : Nat) (L : am_L) (st : List Value) (h : am_H), k0 u L st h → (am_Jm p l e R s m args below meth c Q g nL bud) (pc + 1) u L st h) (hs : am_s O C (am_Jm p l e R s m args below meth c Q g nL bud) P bud k0 .faload v n t u L st h) : (am_Jm p l e R s m args below meth c Q g nL bud) pc u L st h := by
  intro H locs ls hR hS hl hu
  simp only [am_s] at hs
  split at hs
  · rename_i j q r
    obtain ⟨h1, h2, h3, h4⟩ := hs
    obtain ⟨a, a1, a2⟩ := am_oa_at hF1 hO h1
    have hk := hkk _ _ _ _ h4 H locs ls hR hS hl hu
    rw [List.map_cons, List.map_cons, show am_v g (.retAddr q) = .ref a from a1]
    rcases hd with ⟨hd, rfl⟩ | ⟨hd, rfl⟩
    · rcases a2 with ⟨a2, -⟩ | ⟨a2, a3⟩
      · exact va_ti hx hb a2 hS h3 rfl hd hk
      · exact absurd a3 (by have := h2.1 rfl; omega)
    · rcases a2 with ⟨a2, a3⟩ | ⟨a2, a3⟩
      · exact absurd a3 (by have := h2.2 rfl; omega)
      · exact va_tb hx hb a2 hS h3 rfl hd hk
  · exact hs.elim
/-- the clone of a static array -/
theorem am_x_clone {idx : Nat} (hx : p.tables.exec = Jvm.exec) (hb : c.code = cc) (hml : c.maxLocals = nL) (hown : s.vm.findClass own = some m.cls) (hF1 : am_F1 g O s s.heap) (hF2 : am_F2 g s) (hO : (O 40).1 ≤ 2200)
    (hlink : (Cond.methodLink own idx ⟨"[I", "clone", "()Ljava/lang/Object;"⟩).before args s = true) (hsame : (Cond.sameMethod "[I" "java/lang/Object" "clone" "()Ljava/lang/Object;").before args s = true)
    (hnat : (Cond.native ⟨"java/lang/Object", "clone", "()Ljava/lang/Object;"⟩).before args s = true) (hinst : (Cond.instanceMethod ⟨"java/lang/Object", "clone", "()Ljava/lang/Object;"⟩).before args s = true)
    (hsel : (Cond.selects "[I" ⟨"[I", "clone", "()Ljava/lang/Object;"⟩ ⟨"java/lang/Object", "clone", "()Ljava/lang/Object;"⟩).before args s = true) (hcl : Cond.castable "[I" "java/lang/Cloneable" ∈ am_ca)
    (hRf : 1 ≤ R.frames) (hRl : 80 ≤ R.locals) (hRc : bud ≤ R.cells) (hRs : 2200 * bud ≤ R.slots) (ho : am_ov g) (hd : decode cc pc = .ok (.invokevirtual idx, 3)) {k0 : am_K} (hkk : ∀ (u : Nat) (L : am_L) (st : List Value) (h : am_H), k0 u L st h → (am_Jm p l e R s m args below meth c Q g nL bud) (pc + 3) u L st h) (hs : am_s O C (am_Jm p l e R s m args below meth c Q g nL bud) P bud k0 .fastore v n t u L st h) : (am_Jm p l e R s m args below meth c Q g nL bud) pc u L st h := by
  intro H locs ls hR hS hl hu
  simp only [am_s] at hs
  split at hs
  · rename_i q r
    obtain ⟨rfl, hr4, h1, h2⟩ := hs
    obtain ⟨-, ⟨a, a1, -, a3⟩, -⟩ := hF1
    rw [List.map_cons, show am_v g (.retAddr 40) = .ref a from a1]
    obtain ⟨cell, c1, c2, c3, c4, c5, c6, c7⟩ := a3.kept hS.2.1
    obtain ⟨c0, t0', f1, f2, f3⟩ := Cond.castable_spec (va_Nw.use (A := args) rfl (hF2.2.2.2.2.1 _ hcl))
    cases c4.symm.trans f1
    have hcls : cell.cls = g.2.2.1 0 := Option.some.inj (c4.symm.trans (hF2.1.2 0 _ rfl).2)
    have hcat : ((r.map (am_v g)).map fun v => v.category).sum ≤ 8 := by
      have : ∀ l : List Value, ((l.map (am_v g)).map fun v => v.category).sum ≤ 2 * l.length := by
        intro l
        induction l with
        | nil => simp
        | cons x l ih =>
          simp only [List.map_cons, List.sum_cons, List.length_cons]
          rcases lv_cat (am_v g x) with h | h <;> omega
      have := this r
      omega
    intro T hT X
    obtain ⟨hns, kA, hkA, comp, hkind⟩ := c2
    obtain ⟨kT, hkT, heT⟩ := X.warmed.alike.2.2 _ _ hkA
    obtain ⟨vm', X', step⟩ := X.cloneArray hx hown hlink hsame hnat hinst hsel (a := a) (cell := cell) (by rw [hT]; exact c1) hns c3 c4 f2 f3
      (fun i w hw => by
        have hi : i < (O 40).1 := by rw [← c5]; exact (Array.getElem?_eq_some_iff.mp hw).1
        have e1 := c6 i hi
        rw [hw] at e1
        cases e1
        have hkind' : kT.kind = .array comp .int := by rw [heT]; exact hkind
        simp [State.fitsSlot, State.slotType?, hkT, hkind', fits])
      (g := F0 m pc ls (.ref a :: r.map (am_v g))) rfl (by rw [hml]; exact hl.1) rfl (by rw [hb]; exact hd) hRf (by show 2 * 0 + _ + 14 ≤ _; omega) (by omega) (by rw [c5]; omega) (hloader := Vm.clonesLoader_of_array hkA hkind)
    have hcell : ({ cls := cell.cls, slots := cell.slots } : Cell) = vp_cell (g.2.2.1 0) ((O 40).1, .inl (O 40).2) := by
      rw [hcls, vp_cell_i]
      unfold arrV
      congr 1
      apply Array.ext
      · simp [c5]
      · intro i h1' h2'
        have hi : i < (O 40).1 := by rw [← c5]; exact h1'
        have e1 := c6 i hi
        rw [Array.getElem?_eq_getElem h1'] at e1
        simpa using Option.some.inj e1
    rw [hcell, c5] at X'
    rw [hcell] at step
    generalize hH1 : H.push (vp_cell (g.2.2.1 0) ((O 40).1, .inl (O 40).2)) = H1
    have z1 : H1.size = H.size + 1 := by rw [← hH1, Array.size_push]
    have e1 : H1[H.size]? = some (vp_cell (g.2.2.1 0) ((O 40).1, .inl (O 40).2)) := by rw [← hH1, Array.getElem?_push_size]
    have o1 : ∀ q : Nat, q < H.size → H1[q]? = H[q]? := fun q hq => by rw [← hH1, Array.getElem?_push, if_neg (Nat.ne_of_lt hq)]
    have hat : va_at g.2.2.2 am_cl (g.1 + am_hl h, am_e g (.inl (0, (O 40).1, .inl (O 40).2))) H1 := by
      rw [hR.1] at e1
      exact e1
    obtain ⟨q1, q2⟩ := am_R.push hR hS hat z1 o1
    have hk : W p l e R s m args below meth c H1 locs (u + 1) (2200 * u + (O 40).1) Q (F0 m (pc + 3) ls (.ref H.size :: r.map (am_v g))) := by
      refine W.widen (k := u + 1) (n := 2200 * (u + 1)) (Nat.le_refl _) (by omega) ?_
      have hk := hkk _ _ _ _ h2 H1 locs ls q1 q2 hl h1
      rw [List.map_cons, show am_v g (.ref (am_hl h)) = .ref H.size by rw [hR.1]; rfl] at hk
      exact hk
    obtain ⟨tt, b1, b2⟩ := hk ((T.setVm vm').pushCell (vp_cell (g.2.2.1 0) ((O 40).1, .inl (O 40).2))) (by rw [← hH1, ← hT]; rfl) X'
    refine ⟨tt, step tt ?_, b2⟩
    rw [hT]
    exact b1
  · exact hs.elim
theorem am_x_checkcast {i0 idx : Nat} (hx : p.tables.exec = Jvm.exec) (hb : c.code = cc) (hown : s.vm.findClass own = some m.cls) (hF2 : am_F2 g s) (hw : (Cond.classLink own idx "[I").before args s = true) (hd : decode cc pc = .ok (.checkcast idx, 3)) {k0 : am_K} (hkk : ∀ (u : Nat) (L : am_L) (st : List Value) (h : am_H), k0 u L st h → (am_Jm p l e R s m args below meth c Q g nL bud) (pc + 3) u L st h) (hs : am_s O C (am_Jm p l e R s m args below meth c Q g nL bud) P bud k0 (.checkcast i0) v n t u L st h) : (am_Jm p l e R s m args below meth c Q g nL bud) pc u L st h := by
  intro H locs ls hR hS hl hu
  simp only [am_s] at hs
  split at hs
  · split at hs
    · rename_i a r x hc
      have hk := hkk _ _ _ _ hs H locs ls hR hS hl hu
      obtain ⟨k, x⟩ := x
      rcases x with x | x | x | x | x <;> exact va_castA hx hb hown hw hR.2 _ (am_at hc) (hF2.1.2 0 _ rfl).2 hd hk
    · exact hs.elim
  · exact hs.elim
/-- what an instanceof asks of the tables -/
def am_io (ci b : Nat) (nm : String) : Prop := ∃ q : vw_C, am_cl[ci]? = some q ∧ (b = 1 ∧ (q.1 = nm ∨ Cond.castable q.1 nm ∈ am_ca) ∨ b = 0 ∧ (q.1, nm) ∈ am_nc)
theorem am_look_mem : ∀ {t : List (Nat × Nat)} {i r : Nat}, am_look t i = some r → (i, r) ∈ t
  | [], _, _, h => by cases h
  | (a, b) :: t, i, r, h => by
    unfold am_look at h
    split at h
    · rename_i e
      cases h
      rw [← e]
      exact List.mem_cons_self
    · exact List.mem_cons_of_mem _ (am_look_mem h)
theorem am_x_instanceof {i0 idx : Nat} {nm : String} (hx : p.tables.exec = Jvm.exec) (hb : c.code = cc) (hown : s.vm.findClass own = some m.cls) (hF2 : am_F2 g s) (hw : (Cond.classLink own idx nm).before args s = true) (ht : ∀ q ∈ t, am_io q.1 q.2 nm) (hd : decode cc pc = .ok (.instanceof idx, 3)) {k0 : am_K} (hkk : ∀ (u : Nat) (L : am_L) (st : List Value) (h : am_H), k0 u L st h → (am_Jm p l e R s m args below meth c Q g nL bud) (pc + 3) u L st h) (hs : am_s O C (am_Jm p l e R s m args below meth c Q g nL bud) P bud k0 (.instanceof i0) v n t u L st h) : (am_Jm p l e R s m args below meth c Q g nL bud) pc u L st h := by
  intro H locs ls hR hS hl hu
  simp only [am_s] at hs
  split at hs
  · rename_i a r
    split at hs
    · rename_i ci fs hc
      split at hs
      · rename_i hq
        obtain ⟨cq, g1, g2⟩ := ht _ (am_look_mem hq)
        have hrv := va_recv hF2.1 hR.2 g1 (am_at hc)
        have hk := hkk _ _ _ _ hs H locs ls hR hS hl hu
        rcases g2 with ⟨e, -⟩ | ⟨-, g2⟩
        · cases e
        · exact va_instNo hx hb hown hw (hF2.2.2.2.2.2.2 _ g2) hrv hd hk
      · rename_i b hb0 hq
        obtain ⟨cq, g1, g2⟩ := ht _ (am_look_mem hq)
        have hrv := va_recv hF2.1 hR.2 g1 (am_at hc)
        have hk := hkk _ _ _ _ hs H locs ls hR hS hl hu
        rcases g2 with ⟨-, g2 | g2⟩ | ⟨e, -⟩
        · rw [g2] at hrv
          exact va_instS hx hb hown hw (g2 ▸ (hF2.1.1 ci _ g1).2) hrv hd hk
        · exact va_instY hx hb hown hw (hF2.2.2.2.2.1 _ g2) hrv hd hk
        · exact absurd e hb0
      · exact hs.elim
    · exact hs.elim
  · exact hs.elim

end AMU
