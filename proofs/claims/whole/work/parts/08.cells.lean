/-! Stores into arrays, new cells, copies, switches, returns. -/
section AMZ
variable {p : Program} {l : Launch} {e : Env} {R : Room} {s : State} {m : MethodId} {args : Array Value} {below : List Frame} {meth : Method} {c : Code} {Q : State → Prop} {g : am_G} {O : am_O} {cc : ByteArray} {nL bud pc : Nat} {C : am_C} {P : am_P} {v : Value} {n : Nat} {t : List (Nat × Nat)} {u : Nat} {L : am_L} {st : List Value} {h : am_H} {own : String}

theorem am_st_i {ls : Array Slot} {rest : List Value} {H : Heap} {locs : List Loc} {a k : Nat} {f : Nat → Int32} {i x : Int32} (hx : p.tables.exec = Jvm.exec) (hb : c.code = cc) (hF2 : am_F2 g s) (hR : am_R g h H) (hS : va_S (am_A0 g) s.heap H locs) (hc : am_hg h a = some (.inl (0, k, .inl f))) (h1 : vp_in i k) (hd : decode cc pc = .ok (.iastore, 1))
    (kk : ∀ (H1 : Heap) (locs1 : List Loc), am_R g (am_hs h a (.inl (0, k, .inl (upd f i.toNatClampNeg x)))) H1 → va_S (am_A0 g) s.heap H1 locs1 → W p l e R s m args below meth c H1 locs1 u (2200 * u) Q (F0 m (pc + 1) ls rest)) : W p l e R s m args below meth c H locs u (2200 * u) Q (F0 m pc ls (.int x :: .int i :: .ref (g.1 + a) :: rest)) := by
  refine W.iast hx hb (hR.2 a _ (am_at hc)) ((hF2.1.2 0 _ rfl).1 k (fun j => .int (f j))) (fun q => by cases q) (by show ¬ (i < 0 ∨ (arrV _ _ _).slots.size ≤ _); rw [arrV_size]; exact h1) rfl rfl hd fun H1 e z oq => ?_
  have hat : va_at g.2.2.2 am_cl (g.1 + a, am_e g (.inl (0, k, .inl (upd f i.toNatClampNeg x)))) H1 := by
    show H1[g.1 + a]? = some (vp_cell _ _)
    rw [e]
    show some ((vp_cell (g.2.2.1 0) (k, .inl f)).setSlot _ _) = some (vp_cell (g.2.2.1 0) (k, .inl (upd f i.toNatClampNeg x)))
    rw [vp_cell_i, vp_cell_i, arrV_store]
    congr 2
    funext q
    by_cases hq : q = i.toNatClampNeg
    · subst hq
      simp [updV, upd]
      try rfl
    · simp [updV, upd, hq]
  obtain ⟨f1, f2⟩ := am_R.set (k := i.toNatClampNeg) hR hS hc hat z oq
  exact kk H1 _ f1 f2
theorem am_st_b {ls : Array Slot} {rest : List Value} {H : Heap} {locs : List Loc} {a k : Nat} {f : Nat → Int32} {i x : Int32} (hx : p.tables.exec = Jvm.exec) (hb : c.code = cc) (hF2 : am_F2 g s) (hR : am_R g h H) (hS : va_S (am_A0 g) s.heap H locs) (hc : am_hg h a = some (.inl (1, k, .inl f))) (h1 : vp_in i k) (hd : decode cc pc = .ok (.bastore, 1))
    (kk : ∀ (H1 : Heap) (locs1 : List Loc), am_R g (am_hs h a (.inl (1, k, .inl (upd f i.toNatClampNeg (vp_nar .byte x))))) H1 → va_S (am_A0 g) s.heap H1 locs1 → W p l e R s m args below meth c H1 locs1 u (2200 * u) Q (F0 m (pc + 1) ls rest)) : W p l e R s m args below meth c H locs u (2200 * u) Q (F0 m pc ls (.int x :: .int i :: .ref (g.1 + a) :: rest)) := by
  refine W.bast hx hb (hR.2 a _ (am_at hc)) ((hF2.1.2 1 _ rfl).1 k (fun j => .int (f j))) (fun q => by cases q) (by show ¬ (i < 0 ∨ (arrV _ _ _).slots.size ≤ _); rw [arrV_size]; exact h1) rfl rfl hd fun H1 e z oq => ?_
  have hat : va_at g.2.2.2 am_cl (g.1 + a, am_e g (.inl (1, k, .inl (upd f i.toNatClampNeg (vp_nar .byte x))))) H1 := by
    show H1[g.1 + a]? = some (vp_cell _ _)
    rw [e]
    show some ((vp_cell (g.2.2.1 1) (k, .inl f)).setSlot _ _) = some (vp_cell (g.2.2.1 1) (k, .inl (upd f i.toNatClampNeg (vp_nar .byte x))))
    rw [vp_cell_i, vp_cell_i, arrV_store]
    congr 2
    funext q
    by_cases hq : q = i.toNatClampNeg
    · subst hq
      simp [updV, upd, vp_nar]
      try rfl
    · simp [updV, upd, hq]
  obtain ⟨f1, f2⟩ := am_R.set (k := i.toNatClampNeg) hR hS hc hat z oq
  exact kk H1 _ f1 f2
theorem am_st_z {ls : Array Slot} {rest : List Value} {H : Heap} {locs : List Loc} {a k : Nat} {f : Nat → Int32} {i x : Int32} (hx : p.tables.exec = Jvm.exec) (hb : c.code = cc) (hF2 : am_F2 g s) (hR : am_R g h H) (hS : va_S (am_A0 g) s.heap H locs) (hc : am_hg h a = some (.inl (2, k, .inl f))) (h1 : vp_in i k) (hd : decode cc pc = .ok (.bastore, 1))
    (kk : ∀ (H1 : Heap) (locs1 : List Loc), am_R g (am_hs h a (.inl (2, k, .inl (upd f i.toNatClampNeg (vp_nar .boolean x))))) H1 → va_S (am_A0 g) s.heap H1 locs1 → W p l e R s m args below meth c H1 locs1 u (2200 * u) Q (F0 m (pc + 1) ls rest)) : W p l e R s m args below meth c H locs u (2200 * u) Q (F0 m pc ls (.int x :: .int i :: .ref (g.1 + a) :: rest)) := by
  refine W.zast hx hb (hR.2 a _ (am_at hc)) ((hF2.1.2 2 _ rfl).1 k (fun j => .int (f j))) (fun q => by cases q) (by show ¬ (i < 0 ∨ (arrV _ _ _).slots.size ≤ _); rw [arrV_size]; exact h1) rfl rfl hd fun H1 e z oq => ?_
  have hat : va_at g.2.2.2 am_cl (g.1 + a, am_e g (.inl (2, k, .inl (upd f i.toNatClampNeg (vp_nar .boolean x))))) H1 := by
    show H1[g.1 + a]? = some (vp_cell _ _)
    rw [e]
    show some ((vp_cell (g.2.2.1 2) (k, .inl f)).setSlot _ _) = some (vp_cell (g.2.2.1 2) (k, .inl (upd f i.toNatClampNeg (vp_nar .boolean x))))
    rw [vp_cell_i, vp_cell_i, arrV_store]
    congr 2
    funext q
    by_cases hq : q = i.toNatClampNeg
    · subst hq
      simp [updV, upd, vp_nar]
      try rfl
    · simp [updV, upd, hq]
  obtain ⟨f1, f2⟩ := am_R.set (k := i.toNatClampNeg) hR hS hc hat z oq
  exact kk H1 _ f1 f2
theorem am_x_iastore (hx : p.tables.exec = Jvm.exec) (hb : c.code = cc) (hF2 : am_F2 g s) (hd : decode cc pc = .ok (.iastore, 1)) {k0 : am_K} (hkk : ∀ (u : Nat) (L : am_L) (st : List Value) (h : am_H), k0 u L st h → (am_Jm p l e R s m args below meth c Q g nL bud) (pc + 1) u L st h) (hs : am_s O C (am_Jm p l e R s m args below meth c Q g nL bud) P bud k0 .iastore v n t u L st h) : (am_Jm p l e R s m args below meth c Q g nL bud) pc u L st h := by
  intro H locs ls hR hS hl hu
  simp only [am_s] at hs
  split at hs
  · unfold am_is at hs
    split at hs
    · rename_i hc
      obtain ⟨rfl, h1, h2⟩ := hs
      exact am_st_i hx hb hF2 hR hS hc h1 hd (fun H1 locs1 a1 a2 => hkk _ _ _ _ h2 H1 locs1 ls a1 a2 hl hu)
    · exact hs.elim
  · exact hs.elim
theorem am_x_bastore (hn : n = 1 ∨ n = 2) (hx : p.tables.exec = Jvm.exec) (hb : c.code = cc) (hF2 : am_F2 g s) (hd : decode cc pc = .ok (.bastore, 1)) {k0 : am_K} (hkk : ∀ (u : Nat) (L : am_L) (st : List Value) (h : am_H), k0 u L st h → (am_Jm p l e R s m args below meth c Q g nL bud) (pc + 1) u L st h) (hs : am_s O C (am_Jm p l e R s m args below meth c Q g nL bud) P bud k0 .bastore v n t u L st h) : (am_Jm p l e R s m args below meth c Q g nL bud) pc u L st h := by
  intro H locs ls hR hS hl hu
  simp only [am_s] at hs
  split at hs
  · unfold am_is at hs
    split at hs
    · rename_i hc
      obtain ⟨rfl, h1, h2⟩ := hs
      rcases hn with rfl | rfl
      · exact am_st_b hx hb hF2 hR hS hc h1 hd (fun H1 locs1 a1 a2 => hkk _ _ _ _ h2 H1 locs1 ls a1 a2 hl hu)
      · exact am_st_z hx hb hF2 hR hS hc h1 hd (fun H1 locs1 a1 a2 => hkk _ _ _ _ h2 H1 locs1 ls a1 a2 hl hu)
    · exact hs.elim
  · exact hs.elim
theorem am_x_lastore (hx : p.tables.exec = Jvm.exec) (hb : c.code = cc) (hF2 : am_F2 g s) (hd : decode cc pc = .ok (.lastore, 1)) {k0 : am_K} (hkk : ∀ (u : Nat) (L : am_L) (st : List Value) (h : am_H), k0 u L st h → (am_Jm p l e R s m args below meth c Q g nL bud) (pc + 1) u L st h) (hs : am_s O C (am_Jm p l e R s m args below meth c Q g nL bud) P bud k0 .lastore v n t u L st h) : (am_Jm p l e R s m args below meth c Q g nL bud) pc u L st h := by
  intro H locs ls hR hS hl hu
  simp only [am_s] at hs
  split at hs
  · rename_i x i a r
    unfold am_lS at hs
    split at hs
    · rename_i tc k f hc
      obtain ⟨rfl, h1, h2⟩ := hs
      refine W.last hx hb (hR.2 a _ (am_at hc)) ((hF2.1.2 3 _ rfl).1 k (fun j => .long (f j))) (fun q => by cases q) (by show ¬ (i < 0 ∨ (arrV _ _ _).slots.size ≤ _); rw [arrV_size]; exact h1) rfl rfl hd fun H1 e z oq => ?_
      have hat : va_at g.2.2.2 am_cl (g.1 + a, am_e g (.inl (3, k, .inr (.inl (vp_updL f i.toNatClampNeg x))))) H1 := by
        show H1[g.1 + a]? = some (vp_cell _ _)
        rw [e]
        show some ((vp_cell (g.2.2.1 3) (k, .inr (.inl f))).setSlot _ _) = some (vp_cell (g.2.2.1 3) (k, .inr (.inl (vp_updL f i.toNatClampNeg x))))
        rw [vp_cell_l, vp_cell_l, arrV_store]
        congr 2
        funext q
        by_cases hq : q = i.toNatClampNeg
        · subst hq
          simp [updV, vp_updL]
        · simp [updV, vp_updL, hq]
      obtain ⟨f1, f2⟩ := am_R.set (k := i.toNatClampNeg) hR hS hc hat z oq
      exact hkk _ _ _ _ h2 H1 _ ls f1 f2 hl hu
    · exact hs.elim
  · exact hs.elim
theorem am_kd_mem {ci : Nat} (hk : am_kd ci = true) : ∃ q : vw_C, am_cl[ci]? = some q ∧ (q.1 = "OverFence$Kick" ∨ Cond.castable q.1 "OverFence$Kick" ∈ am_ca) := by
  unfold am_kd at hk
  obtain ⟨x, hx, hxc⟩ := List.any_eq_true.mp hk
  have hxc : x = ci := by simpa using hxc
  subst hxc
  simp only [List.mem_cons, List.not_mem_nil, or_false] at hx
  rcases hx with rfl | rfl | rfl | rfl | rfl | rfl | rfl
  · exact ⟨_, rfl, Or.inl rfl⟩
  · exact ⟨_, rfl, Or.inr (by decide +kernel)⟩
  · exact ⟨_, rfl, Or.inr (by decide +kernel)⟩
  · exact ⟨_, rfl, Or.inr (by decide +kernel)⟩
  · exact ⟨_, rfl, Or.inr (by decide +kernel)⟩
  · exact ⟨_, rfl, Or.inr (by decide +kernel)⟩
  · exact ⟨_, rfl, Or.inr (by decide +kernel)⟩
theorem am_x_aastore (hx : p.tables.exec = Jvm.exec) (hb : c.code = cc) (hF2 : am_F2 g s) (hd : decode cc pc = .ok (.aastore, 1)) {k0 : am_K} (hkk : ∀ (u : Nat) (L : am_L) (st : List Value) (h : am_H), k0 u L st h → (am_Jm p l e R s m args below meth c Q g nL bud) (pc + 1) u L st h) (hs : am_s O C (am_Jm p l e R s m args below meth c Q g nL bud) P bud k0 .aastore v n t u L st h) : (am_Jm p l e R s m args below meth c Q g nL bud) pc u L st h := by
  intro H locs ls hR hS hl hu
  simp only [am_s] at hs
  split at hs
  · rename_i x i a r
    unfold am_aS at hs
    split at hs
    · rename_i tc k f hc
      obtain ⟨rfl, h1, h2⟩ := hs
      have hlt : i.toNatClampNeg < k := Nat.not_le.mp fun q => h1 (Or.inr q)
      have h0 : ¬ i < 0 := fun q => h1 (Or.inl q)
      split at h2
      · refine va_WaastN (C := "OverFence$Kick") hx hb (hR.2 a _ (am_at hc)) ((hF2.1.2 4 _ rfl).1 k (fun j => va_rf ((f j).map (g.1 + ·)))) (fun q => by cases q) (by show ¬ (i < 0 ∨ (arrV _ _ _).slots.size ≤ _); rw [arrV_size]; exact h1) rfl rfl hd fun H1 e z oq => ?_
        have hat : va_at g.2.2.2 am_cl (g.1 + a, am_e g (.inl (4, k, .inr (.inr (.inr (.inr (va_up f i.toNatClampNeg none))))))) H1 := by
          show H1[g.1 + a]? = some (vp_cell _ _)
          rw [e]
          show some ((vp_cell (g.2.2.1 4) (k, .inr (.inr (.inr (.inr fun j => (f j).map (g.1 + ·)))))).setSlot _ _) = some (vp_cell (g.2.2.1 4) (k, .inr (.inr (.inr (.inr fun j => (va_up f i.toNatClampNeg none j).map (g.1 + ·))))))
          rw [vp_cell_q, vp_cell_q, arrV_store]
          congr 2
          funext q
          by_cases hq : q = i.toNatClampNeg
          · subst hq
            simp [updV, va_up, va_rf]
          · simp [updV, va_up, hq]
        obtain ⟨f1, f2⟩ := am_R.set (k := i.toNatClampNeg) hR hS hc hat z oq
        exact hkk _ _ _ _ h2 H1 _ ls f1 f2 hl hu
      · rename_i q
        obtain ⟨h2, h3⟩ := h2
        split at h2
        · rename_i ci fs hq
          obtain ⟨⟨C0, T0, N0⟩, k1, k2⟩ := am_kd_mem h2
          obtain ⟨r', hr', cellV, g1, g2, g3, -⟩ := hR.2 q _ (am_at hq)
          have hcls := (hF2.1.1 ci _ k1).2
          obtain ⟨kA, comp, j1, j2, j3, -⟩ := (hF2.1.2 4 _ rfl).2
          obtain ⟨kC, hkC, -⟩ := hcls.2
          have hkcomp : ∃ kcomp, s.vm.classes[comp]? = some kcomp := by
            obtain ⟨k', hk', -⟩ := Vm.findClass_spec j3
            exact ⟨k', hk'⟩
          obtain ⟨kcomp, hkcomp⟩ := hkcomp
          have hasg : s.vm.assignable (g.2.2.2.1 ci) comp = true := by
            rcases k2 with e | k2
            · have e1 : comp = g.2.2.2.1 ci := Option.some.inj (j3.symm.trans (e ▸ hcls.1))
              rw [e1]
              exact va_assign (C := C0) hcls
            · obtain ⟨c0, t0, f1, f2, f3⟩ := Cond.castable_spec (va_Nw.use (A := args) rfl (hF2.2.2.2.2.1 _ k2))
              cases hcls.1.symm.trans f1
              cases j3.symm.trans f2
              exact f3
          refine W.aast hx hb (hR.2 a _ (am_at hc)) (fun q h => by cases h) (fun h => by cases h) j1 j2 rfl hkcomp ⟨h0, by show _ < (arrV _ _ _).slots.size; rw [arrV_size]; exact hlt⟩ g1 (fun q h => by rw [g3] at h; cases h) (by rw [g2]; exact hkC) (by rw [g2]; exact hasg) rfl rfl hd fun H1 e z oq => ?_
          have hat : va_at g.2.2.2 am_cl (g.1 + a, am_e g (.inl (4, k, .inr (.inr (.inr (.inr (va_up f i.toNatClampNeg (some q)))))))) H1 := by
            show H1[g.1 + a]? = some (vp_cell _ _)
            rw [e]
            show some ((vp_cell (g.2.2.1 4) (k, .inr (.inr (.inr (.inr fun j => (f j).map (g.1 + ·)))))).setSlot _ _) = some (vp_cell (g.2.2.1 4) (k, .inr (.inr (.inr (.inr fun j => (va_up f i.toNatClampNeg (some q) j).map (g.1 + ·))))))
            rw [vp_cell_q, vp_cell_q, arrV_store]
            congr 2
            funext q
            by_cases hq : q = i.toNatClampNeg
            · subst hq
              simp [updV, va_up, va_rf]
            · simp [updV, va_up, hq]
          obtain ⟨f1, f2⟩ := am_R.set (k := i.toNatClampNeg) hR hS hc hat z oq
          exact hkk _ _ _ _ h3 H1 _ ls f1 f2 hl hu
        · exact h2.elim
      · exact h2.elim
    · exact hs.elim
  · exact hs.elim
/-- new arrays: by the type's number -/
def am_at_ (n : Nat) : ArrayType := match n with
  | 0 => .int
  | 1 => .byte
  | 2 => .boolean
  | _ => .long
theorem am_x_newarray {i0 : ArrayType} (hn : n < 4) (hx : p.tables.exec = Jvm.exec) (hb : c.code = cc) (hF2 : am_F2 g s) (hw : (Cond.arrayClass (newarray.typeOf (am_at_ n))).before args s = true) (hRc : bud ≤ R.cells) (hRs : 2200 * bud ≤ R.slots) (hd : decode cc pc = .ok (.newarray (am_at_ n), 2)) {k0 : am_K} (hkk : ∀ (u : Nat) (L : am_L) (st : List Value) (h : am_H), k0 u L st h → (am_Jm p l e R s m args below meth c Q g nL bud) (pc + 2) u L st h) (hs : am_s O C (am_Jm p l e R s m args below meth c Q g nL bud) P bud k0 (.newarray i0) v n t u L st h) : (am_Jm p l e R s m args below meth c Q g nL bud) pc u L st h := by
  intro H locs ls hR hS hl hu
  simp only [am_s] at hs
  split at hs
  · rename_i z r
    obtain ⟨h1, h2, h3, h4⟩ := hs
    refine va_newaK hx hb hw rfl hd rfl h1 rfl (by
      have : componentBytes (newarray.typeOf (am_at_ n)) ≤ 8 := by
        match n, hn with
        | 0, _ => decide
        | 1, _ => decide
        | 2, _ => decide
        | 3, _ => decide
      have := Nat.mul_le_mul h2 this
      omega) (by omega) (by omega) rfl fun H1 cA e1 z1 o1 hAr hNm => ?_
    have hcA : cA = g.2.2.1 n := by
      match n, hn with
      | 0, _ => exact Option.some.inj (hNm.symm.trans (hF2.1.2 0 _ rfl).2)
      | 1, _ => exact Option.some.inj (hNm.symm.trans (hF2.1.2 1 _ rfl).2)
      | 2, _ => exact Option.some.inj (hNm.symm.trans (hF2.1.2 2 _ rfl).2)
      | 3, _ => exact Option.some.inj (hNm.symm.trans (hF2.1.2 3 _ rfl).2)
    subst hcA
    have hat : va_at g.2.2.2 am_cl (g.1 + am_hl h, am_e g (am_nz n z.toNatClampNeg)) H1 := by
      rw [hR.1] at e1
      match n, hn with
      | 0, _ => exact e1
      | 1, _ => exact e1
      | 2, _ => exact e1
      | 3, _ => exact e1
    obtain ⟨f1, f2⟩ := am_R.push hR hS hat z1 o1
    refine W.widen (k := u + 1) (n := 2200 * (u + 1)) (Nat.le_refl _) (by omega) ?_
    have hk := hkk _ _ _ _ h4 H1 locs ls f1 f2 hl h3
    rw [List.map_cons, show am_v g (.ref (am_hl h)) = .ref H.size by rw [hR.1]; rfl] at hk
    exact hk
  · exact hs.elim
theorem am_x_anewarray {i0 idx : Nat} (hx : p.tables.exec = Jvm.exec) (hb : c.code = cc) (hown : s.vm.findClass own = some m.cls) (hF2 : am_F2 g s) (hw : (Cond.classLink own idx "OverFence$Kick").before args s = true) (hRc : bud ≤ R.cells) (hRs : 2200 * bud ≤ R.slots) (hd : decode cc pc = .ok (.anewarray idx, 3)) {k0 : am_K} (hkk : ∀ (u : Nat) (L : am_L) (st : List Value) (h : am_H), k0 u L st h → (am_Jm p l e R s m args below meth c Q g nL bud) (pc + 3) u L st h) (hs : am_s O C (am_Jm p l e R s m args below meth c Q g nL bud) P bud k0 (.anewarray i0) v n t u L st h) : (am_Jm p l e R s m args below meth c Q g nL bud) pc u L st h := by
  intro H locs ls hR hS hl hu
  simp only [am_s] at hs
  split at hs
  · rename_i z r
    obtain ⟨h1, h2, h3, h4⟩ := hs
    refine W.anew hx hb hown hw (va_AO.use hF2.2.2.2.2.2.1) rfl hd rfl h1 (by omega) (by omega) (by omega) fun cA kA comp f1 f2 f3 f4 => ?_
    generalize hH1 : H.push ({ cls := cA, slots := Array.replicate z.toNatClampNeg .null, vm := .none } : Cell) = H1
    have z1 : H1.size = H.size + 1 := by rw [← hH1, Array.size_push]
    have e1 : H1[H.size]? = some (arrV cA z.toNatClampNeg (fun _ => .null)) := by rw [← hH1, Array.getElem?_push_size, ← arrV_new]
    have o1 : ∀ q : Nat, q < H.size → H1[q]? = H[q]? := fun q hq => by rw [← hH1, Array.getElem?_push, if_neg (Nat.ne_of_lt hq)]
    have hcA : cA = g.2.2.1 4 := by
      obtain ⟨-, kA, comp, -, -, -, hn⟩ := hF2.1.2 4 _ rfl
      exact Option.some.inj (f1.symm.trans hn)
    subst hcA
    have hat : va_at g.2.2.2 am_cl (g.1 + am_hl h, am_e g (.inl (4, z.toNatClampNeg, .inr (.inr (.inr (.inr fun _ => none)))))) H1 := by
      rw [hR.1] at e1
      exact e1
    obtain ⟨q1, q2⟩ := am_R.push hR hS hat z1 o1
    refine W.widen (k := u + 1) (n := 2200 * (u + 1)) (Nat.le_refl _) (by omega) ?_
    have hk := hkk _ _ _ _ h4 H1 locs ls q1 q2 hl h3
    rw [List.map_cons, show am_v g (.ref (am_hl h)) = .ref H.size by rw [hR.1]; rfl] at hk
    exact hk
  · exact hs.elim
theorem am_df_v (ci k : Nat) : vp_V ((am_df ci).map (am_v g)) k = vp_V (am_df ci) k := by
  have e : (am_df ci).map (am_v g) = am_df ci := by
    unfold am_df
    split <;> rfl
  rw [e]
theorem am_x_new {i0 idx : Nat} {q : vw_C} (hx : p.tables.exec = Jvm.exec) (hb : c.code = cc) (hown : s.vm.findClass own = some m.cls) (hts : ∀ w ∈ am_tb, w.before args s = true) (hF2 : am_F2 g s) (hq : am_cl[n]? = some q) (hN : q.2.2 ≤ 2200) (hw1 : (Cond.classLink own idx q.1).before args s = true) (hw2 : (Cond.instantiable q.1 q.2.2).before args s = true) (hw3 : (Cond.initialized q.1).before args s = true) (hRc : bud ≤ R.cells) (hRs : 2200 * bud ≤ R.slots) (hd : decode cc pc = .ok (.new idx, 3)) {k0 : am_K} (hkk : ∀ (u : Nat) (L : am_L) (st : List Value) (h : am_H), k0 u L st h → (am_Jm p l e R s m args below meth c Q g nL bud) (pc + 3) u L st h) (hs : am_s O C (am_Jm p l e R s m args below meth c Q g nL bud) P bud k0 (.new i0) v n t u L st h) : (am_Jm p l e R s m args below meth c Q g nL bud) pc u L st h := by
  intro H locs ls hR hS hl hu
  simp only [am_s] at hs
  obtain ⟨h1, h2⟩ := hs
  have hKn := hF2.1.1 n _ hq
  refine W.newcK hx hb hown hw1 hw2 hw3 rfl hd (by omega) (by omega) hKn.2.1 rfl fun H1 kC hkC e1 z1 o1 => ?_
  have hat : va_at g.2.2.2 am_cl (g.1 + am_hl h, am_e g (.inr (n, am_df n))) H1 := by
    refine ⟨_, hq, ?_⟩
    rw [hR.1] at e1
    refine (u_born (am_tt n) hts (am_hin hts hq) hKn hkC e1 (am_cok_all hq).2.1).to fun j hj => ?_
    rw [am_df_v]
    exact (am_cok_all hq).2.2.2.1 j hj
  obtain ⟨q1, q2⟩ := am_R.push hR hS hat z1 o1
  refine W.widen (k := u + 1) (n := 2200 * (u + 1)) (Nat.le_refl _) (by omega) ?_
  have hk := hkk _ _ _ _ h2 H1 locs ls q1 q2 hl h1
  rw [List.map_cons, show am_v g (.ref (am_hl h)) = .ref H.size by rw [hR.1]; rfl] at hk
  exact hk

end AMZ
