/-! Each instruction of the abstract machine is the real one's. -/
def am_tb : List Cond := lw_tbl.filter goodWord
theorem am_tb_in {w : Cond} (h : w ∈ lw_tbl) (hg : goodWord w = true) : w ∈ am_tb := List.mem_filter.mpr ⟨h, hg⟩
theorem am_R.set {g : am_G} {h : am_H} {H H0 H1 : Heap} {a k : Nat} {c c' : va_E} {locs : List Loc} (hR : am_R g h H) (hS : va_S (am_A0 g) H0 H locs) (hc : am_hg h a = some c) (e : va_at g.2.2.2 am_cl (g.1 + a, am_e g c') H1) (z : H1.size = H.size) (oq : ∀ q : Nat, q ≠ g.1 + a → H1[q]? = H[q]?) : am_R g (am_hs h a c') H1 ∧ va_S (am_A0 g) H0 H1 (locs ++ [⟨g.1 + a, k⟩]) := by
  refine ⟨⟨?_, ?_⟩, hS.put z oq (Nat.le_add_right _ _)⟩
  · rw [z, hR.1, am_hs, List.length_set]
  · rw [am_hs, am_w_set]
    exact hR.2.set (am_w_D g h) (am_at hc) e oq
theorem am_R.push {g : am_G} {h : am_H} {H H0 H1 : Heap} {c : va_E} {locs : List Loc} (hR : am_R g h H) (hS : va_S (am_A0 g) H0 H locs) (e : va_at g.2.2.2 am_cl (g.1 + am_hl h, am_e g c) H1) (z : H1.size = H.size + 1) (oq : ∀ q : Nat, q < H.size → H1[q]? = H[q]?) : am_R g (am_hp h c) H1 ∧ va_S (am_A0 g) H0 H1 locs := by
  have hk : ∀ (k : Nat) (x : Nat × va_E), (am_w g g.1 h)[k]? = some x → H1[x.1]? = H[x.1]? := fun k x hx => oq x.1 ((hR.2 k x hx).lt)
  refine ⟨⟨?_, ?_⟩, ⟨Nat.le_trans hS.1 (by omega), fun x h1 h2 => (oq x (Nat.lt_of_lt_of_le h1 hS.1)).trans (hS.2.1 x h1 h2), hS.2.2⟩⟩
  · rw [z, hR.1, am_hp, List.length_append]; rfl
  · rw [am_hp, am_w_app]
    refine (hR.2.kept hk).app fun k x hx => ?_
    have hz : k < 1 := (List.getElem?_eq_some_iff.mp hx).1
    rw [show k = 0 by omega] at hx
    cases hx
    exact e
/-- the real machine stands where the abstract one does -/
def am_Jm (p : Program) (l : Launch) (e : Env) (R : Room) (s : State) (m : MethodId) (args : Array Value) (below : List Frame) (meth : Method) (c : Code) (Q : State → Prop) (g : am_G) (nL bud : Nat) : am_J := fun pc u L st h => ∀ (H : Heap) (locs : List Loc) (ls : Array Slot), am_R g h H → va_S (am_A0 g) s.heap H locs → am_lr g ls nL L → u ≤ bud → W p l e R s m args below meth c H locs u (2200 * u) Q (F0 m pc ls (st.map (am_v g)))
section AMX
variable {p : Program} {l : Launch} {e : Env} {R : Room} {s : State} {m : MethodId} {args : Array Value} {below : List Frame} {meth : Method} {c : Code} {Q : State → Prop} {g : am_G} {O : am_O} {cc : ByteArray} {nL bud pc : Nat} {C : am_C} {P : am_P} {v : Value} {n : Nat} {t : List (Nat × Nat)} {u : Nat} {L : am_L} {st : List Value} {h : am_H} {own : String}
theorem am_x_iadd (hx : p.tables.exec = Jvm.exec) (hb : c.code = cc) (hd : decode cc pc = .ok (.iadd, 1)) {k0 : am_K} (hkk : ∀ (u : Nat) (L : am_L) (st : List Value) (h : am_H), k0 u L st h → (am_Jm p l e R s m args below meth c Q g nL bud) (pc + 1) u L st h) (hs : am_s O C (am_Jm p l e R s m args below meth c Q g nL bud) P bud k0 .iadd v n t u L st h) : (am_Jm p l e R s m args below meth c Q g nL bud) pc u L st h := by
  intro H locs ls hR hS hl hu
  simp only [am_s] at hs
  split at hs
  · exact lv_iadd hx hb hd (hkk _ _ _ _ hs H locs ls hR hS hl hu)
  · exact hs.elim
theorem am_x_isub (hx : p.tables.exec = Jvm.exec) (hb : c.code = cc) (hd : decode cc pc = .ok (.isub, 1)) {k0 : am_K} (hkk : ∀ (u : Nat) (L : am_L) (st : List Value) (h : am_H), k0 u L st h → (am_Jm p l e R s m args below meth c Q g nL bud) (pc + 1) u L st h) (hs : am_s O C (am_Jm p l e R s m args below meth c Q g nL bud) P bud k0 .isub v n t u L st h) : (am_Jm p l e R s m args below meth c Q g nL bud) pc u L st h := by
  intro H locs ls hR hS hl hu
  simp only [am_s] at hs
  split at hs
  · exact lv_isub hx hb hd (hkk _ _ _ _ hs H locs ls hR hS hl hu)
  · exact hs.elim
theorem am_x_imul (hx : p.tables.exec = Jvm.exec) (hb : c.code = cc) (hd : decode cc pc = .ok (.imul, 1)) {k0 : am_K} (hkk : ∀ (u : Nat) (L : am_L) (st : List Value) (h : am_H), k0 u L st h → (am_Jm p l e R s m args below meth c Q g nL bud) (pc + 1) u L st h) (hs : am_s O C (am_Jm p l e R s m args below meth c Q g nL bud) P bud k0 .imul v n t u L st h) : (am_Jm p l e R s m args below meth c Q g nL bud) pc u L st h := by
  intro H locs ls hR hS hl hu
  simp only [am_s] at hs
  split at hs
  · exact lv_imul hx hb hd (hkk _ _ _ _ hs H locs ls hR hS hl hu)
  · exact hs.elim
theorem am_x_iand (hx : p.tables.exec = Jvm.exec) (hb : c.code = cc) (hd : decode cc pc = .ok (.iand, 1)) {k0 : am_K} (hkk : ∀ (u : Nat) (L : am_L) (st : List Value) (h : am_H), k0 u L st h → (am_Jm p l e R s m args below meth c Q g nL bud) (pc + 1) u L st h) (hs : am_s O C (am_Jm p l e R s m args below meth c Q g nL bud) P bud k0 .iand v n t u L st h) : (am_Jm p l e R s m args below meth c Q g nL bud) pc u L st h := by
  intro H locs ls hR hS hl hu
  simp only [am_s] at hs
  split at hs
  · exact lv_iand hx hb hd (hkk _ _ _ _ hs H locs ls hR hS hl hu)
  · exact hs.elim
theorem am_x_ior (hx : p.tables.exec = Jvm.exec) (hb : c.code = cc) (hd : decode cc pc = .ok (.ior, 1)) {k0 : am_K} (hkk : ∀ (u : Nat) (L : am_L) (st : List Value) (h : am_H), k0 u L st h → (am_Jm p l e R s m args below meth c Q g nL bud) (pc + 1) u L st h) (hs : am_s O C (am_Jm p l e R s m args below meth c Q g nL bud) P bud k0 .ior v n t u L st h) : (am_Jm p l e R s m args below meth c Q g nL bud) pc u L st h := by
  intro H locs ls hR hS hl hu
  simp only [am_s] at hs
  split at hs
  · exact lv_ior hx hb hd (hkk _ _ _ _ hs H locs ls hR hS hl hu)
  · exact hs.elim
theorem am_x_ixor (hx : p.tables.exec = Jvm.exec) (hb : c.code = cc) (hd : decode cc pc = .ok (.ixor, 1)) {k0 : am_K} (hkk : ∀ (u : Nat) (L : am_L) (st : List Value) (h : am_H), k0 u L st h → (am_Jm p l e R s m args below meth c Q g nL bud) (pc + 1) u L st h) (hs : am_s O C (am_Jm p l e R s m args below meth c Q g nL bud) P bud k0 .ixor v n t u L st h) : (am_Jm p l e R s m args below meth c Q g nL bud) pc u L st h := by
  intro H locs ls hR hS hl hu
  simp only [am_s] at hs
  split at hs
  · exact lv_ixor hx hb hd (hkk _ _ _ _ hs H locs ls hR hS hl hu)
  · exact hs.elim
theorem am_x_ishl (hx : p.tables.exec = Jvm.exec) (hb : c.code = cc) (hd : decode cc pc = .ok (.ishl, 1)) {k0 : am_K} (hkk : ∀ (u : Nat) (L : am_L) (st : List Value) (h : am_H), k0 u L st h → (am_Jm p l e R s m args below meth c Q g nL bud) (pc + 1) u L st h) (hs : am_s O C (am_Jm p l e R s m args below meth c Q g nL bud) P bud k0 .ishl v n t u L st h) : (am_Jm p l e R s m args below meth c Q g nL bud) pc u L st h := by
  intro H locs ls hR hS hl hu
  simp only [am_s] at hs
  split at hs
  · exact lv_ishl hx hb hd (hkk _ _ _ _ hs H locs ls hR hS hl hu)
  · exact hs.elim
theorem am_x_ishr (hx : p.tables.exec = Jvm.exec) (hb : c.code = cc) (hd : decode cc pc = .ok (.ishr, 1)) {k0 : am_K} (hkk : ∀ (u : Nat) (L : am_L) (st : List Value) (h : am_H), k0 u L st h → (am_Jm p l e R s m args below meth c Q g nL bud) (pc + 1) u L st h) (hs : am_s O C (am_Jm p l e R s m args below meth c Q g nL bud) P bud k0 .ishr v n t u L st h) : (am_Jm p l e R s m args below meth c Q g nL bud) pc u L st h := by
  intro H locs ls hR hS hl hu
  simp only [am_s] at hs
  split at hs
  · exact lv_ishr hx hb hd (hkk _ _ _ _ hs H locs ls hR hS hl hu)
  · exact hs.elim
theorem am_x_ineg (hx : p.tables.exec = Jvm.exec) (hb : c.code = cc) (hd : decode cc pc = .ok (.ineg, 1)) {k0 : am_K} (hkk : ∀ (u : Nat) (L : am_L) (st : List Value) (h : am_H), k0 u L st h → (am_Jm p l e R s m args below meth c Q g nL bud) (pc + 1) u L st h) (hs : am_s O C (am_Jm p l e R s m args below meth c Q g nL bud) P bud k0 .ineg v n t u L st h) : (am_Jm p l e R s m args below meth c Q g nL bud) pc u L st h := by
  intro H locs ls hR hS hl hu
  simp only [am_s] at hs
  split at hs
  · exact lv_ineg hx hb hd (hkk _ _ _ _ hs H locs ls hR hS hl hu)
  · exact hs.elim
theorem am_x_ladd (hx : p.tables.exec = Jvm.exec) (hb : c.code = cc) (hd : decode cc pc = .ok (.ladd, 1)) {k0 : am_K} (hkk : ∀ (u : Nat) (L : am_L) (st : List Value) (h : am_H), k0 u L st h → (am_Jm p l e R s m args below meth c Q g nL bud) (pc + 1) u L st h) (hs : am_s O C (am_Jm p l e R s m args below meth c Q g nL bud) P bud k0 .ladd v n t u L st h) : (am_Jm p l e R s m args below meth c Q g nL bud) pc u L st h := by
  intro H locs ls hR hS hl hu
  simp only [am_s] at hs
  split at hs
  · exact lv_ladd hx hb hd (hkk _ _ _ _ hs H locs ls hR hS hl hu)
  · exact hs.elim
theorem am_x_lmul (hx : p.tables.exec = Jvm.exec) (hb : c.code = cc) (hd : decode cc pc = .ok (.lmul, 1)) {k0 : am_K} (hkk : ∀ (u : Nat) (L : am_L) (st : List Value) (h : am_H), k0 u L st h → (am_Jm p l e R s m args below meth c Q g nL bud) (pc + 1) u L st h) (hs : am_s O C (am_Jm p l e R s m args below meth c Q g nL bud) P bud k0 .lmul v n t u L st h) : (am_Jm p l e R s m args below meth c Q g nL bud) pc u L st h := by
  intro H locs ls hR hS hl hu
  simp only [am_s] at hs
  split at hs
  · exact lv_lmul hx hb hd (hkk _ _ _ _ hs H locs ls hR hS hl hu)
  · exact hs.elim
theorem am_x_lcmp (hx : p.tables.exec = Jvm.exec) (hb : c.code = cc) (hd : decode cc pc = .ok (.lcmp, 1)) {k0 : am_K} (hkk : ∀ (u : Nat) (L : am_L) (st : List Value) (h : am_H), k0 u L st h → (am_Jm p l e R s m args below meth c Q g nL bud) (pc + 1) u L st h) (hs : am_s O C (am_Jm p l e R s m args below meth c Q g nL bud) P bud k0 .lcmp v n t u L st h) : (am_Jm p l e R s m args below meth c Q g nL bud) pc u L st h := by
  intro H locs ls hR hS hl hu
  simp only [am_s] at hs
  split at hs
  · exact W.lcmp hx hb hd (hkk _ _ _ _ hs H locs ls hR hS hl hu)
  · exact hs.elim
theorem am_x_i2l (hx : p.tables.exec = Jvm.exec) (hb : c.code = cc) (hd : decode cc pc = .ok (.i2l, 1)) {k0 : am_K} (hkk : ∀ (u : Nat) (L : am_L) (st : List Value) (h : am_H), k0 u L st h → (am_Jm p l e R s m args below meth c Q g nL bud) (pc + 1) u L st h) (hs : am_s O C (am_Jm p l e R s m args below meth c Q g nL bud) P bud k0 .i2l v n t u L st h) : (am_Jm p l e R s m args below meth c Q g nL bud) pc u L st h := by
  intro H locs ls hR hS hl hu
  simp only [am_s] at hs
  split at hs
  · exact lv_i2l hx hb hd rfl (hkk _ _ _ _ hs H locs ls hR hS hl hu)
  · exact hs.elim
theorem am_x_i2b (hx : p.tables.exec = Jvm.exec) (hb : c.code = cc) (hd : decode cc pc = .ok (.i2b, 1)) {k0 : am_K} (hkk : ∀ (u : Nat) (L : am_L) (st : List Value) (h : am_H), k0 u L st h → (am_Jm p l e R s m args below meth c Q g nL bud) (pc + 1) u L st h) (hs : am_s O C (am_Jm p l e R s m args below meth c Q g nL bud) P bud k0 .i2b v n t u L st h) : (am_Jm p l e R s m args below meth c Q g nL bud) pc u L st h := by
  intro H locs ls hR hS hl hu
  simp only [am_s] at hs
  split at hs
  · exact lv_i2b hx hb hd rfl (hkk _ _ _ _ hs H locs ls hR hS hl hu)
  · exact hs.elim
theorem am_x_i2c (hx : p.tables.exec = Jvm.exec) (hb : c.code = cc) (hd : decode cc pc = .ok (.i2c, 1)) {k0 : am_K} (hkk : ∀ (u : Nat) (L : am_L) (st : List Value) (h : am_H), k0 u L st h → (am_Jm p l e R s m args below meth c Q g nL bud) (pc + 1) u L st h) (hs : am_s O C (am_Jm p l e R s m args below meth c Q g nL bud) P bud k0 .i2c v n t u L st h) : (am_Jm p l e R s m args below meth c Q g nL bud) pc u L st h := by
  intro H locs ls hR hS hl hu
  simp only [am_s] at hs
  split at hs
  · exact lv_i2c hx hb hd rfl (hkk _ _ _ _ hs H locs ls hR hS hl hu)
  · exact hs.elim
theorem am_x_iushr (hx : p.tables.exec = Jvm.exec) (hb : c.code = cc) (hd : decode cc pc = .ok (.iushr, 1)) {k0 : am_K} (hkk : ∀ (u : Nat) (L : am_L) (st : List Value) (h : am_H), k0 u L st h → (am_Jm p l e R s m args below meth c Q g nL bud) (pc + 1) u L st h) (hs : am_s O C (am_Jm p l e R s m args below meth c Q g nL bud) P bud k0 .iushr v n t u L st h) : (am_Jm p l e R s m args below meth c Q g nL bud) pc u L st h := by
  intro H locs ls hR hS hl hu
  simp only [am_s] at hs
  split at hs
  · exact lv_iushr hx hb hd rfl (hkk _ _ _ _ hs H locs ls hR hS hl hu)
  · exact hs.elim
theorem am_x_idiv (hx : p.tables.exec = Jvm.exec) (hb : c.code = cc) (hd : decode cc pc = .ok (.idiv, 1)) {k0 : am_K} (hkk : ∀ (u : Nat) (L : am_L) (st : List Value) (h : am_H), k0 u L st h → (am_Jm p l e R s m args below meth c Q g nL bud) (pc + 1) u L st h) (hs : am_s O C (am_Jm p l e R s m args below meth c Q g nL bud) P bud k0 .idiv v n t u L st h) : (am_Jm p l e R s m args below meth c Q g nL bud) pc u L st h := by
  intro H locs ls hR hS hl hu
  simp only [am_s] at hs
  split at hs
  · exact lv_idiv hx hb hd hs.1 (hkk _ _ _ _ hs.2 H locs ls hR hS hl hu)
  · exact hs.elim
theorem am_x_irem (hx : p.tables.exec = Jvm.exec) (hb : c.code = cc) (hd : decode cc pc = .ok (.irem, 1)) {k0 : am_K} (hkk : ∀ (u : Nat) (L : am_L) (st : List Value) (h : am_H), k0 u L st h → (am_Jm p l e R s m args below meth c Q g nL bud) (pc + 1) u L st h) (hs : am_s O C (am_Jm p l e R s m args below meth c Q g nL bud) P bud k0 .irem v n t u L st h) : (am_Jm p l e R s m args below meth c Q g nL bud) pc u L st h := by
  intro H locs ls hR hS hl hu
  simp only [am_s] at hs
  split at hs
  · exact lv_irem hx hb hd hs.1 (hkk _ _ _ _ hs.2 H locs ls hR hS hl hu)
  · exact hs.elim
theorem am_x_ldiv (hx : p.tables.exec = Jvm.exec) (hb : c.code = cc) (hd : decode cc pc = .ok (.ldiv, 1)) {k0 : am_K} (hkk : ∀ (u : Nat) (L : am_L) (st : List Value) (h : am_H), k0 u L st h → (am_Jm p l e R s m args below meth c Q g nL bud) (pc + 1) u L st h) (hs : am_s O C (am_Jm p l e R s m args below meth c Q g nL bud) P bud k0 .ldiv v n t u L st h) : (am_Jm p l e R s m args below meth c Q g nL bud) pc u L st h := by
  intro H locs ls hR hS hl hu
  simp only [am_s] at hs
  split at hs
  · exact lv_ldiv hx hb hd hs.1 (hkk _ _ _ _ hs.2 H locs ls hR hS hl hu)
  · exact hs.elim
theorem am_x_lrem (hx : p.tables.exec = Jvm.exec) (hb : c.code = cc) (hd : decode cc pc = .ok (.lrem, 1)) {k0 : am_K} (hkk : ∀ (u : Nat) (L : am_L) (st : List Value) (h : am_H), k0 u L st h → (am_Jm p l e R s m args below meth c Q g nL bud) (pc + 1) u L st h) (hs : am_s O C (am_Jm p l e R s m args below meth c Q g nL bud) P bud k0 .lrem v n t u L st h) : (am_Jm p l e R s m args below meth c Q g nL bud) pc u L st h := by
  intro H locs ls hR hS hl hu
  simp only [am_s] at hs
  split at hs
  · exact lv_lrem hx hb hd hs.1 (hkk _ _ _ _ hs.2 H locs ls hR hS hl hu)
  · exact hs.elim
theorem am_x_dup (hx : p.tables.exec = Jvm.exec) (hb : c.code = cc) (hd : decode cc pc = .ok (.dup, 1)) {k0 : am_K} (hkk : ∀ (u : Nat) (L : am_L) (st : List Value) (h : am_H), k0 u L st h → (am_Jm p l e R s m args below meth c Q g nL bud) (pc + 1) u L st h) (hs : am_s O C (am_Jm p l e R s m args below meth c Q g nL bud) P bud k0 .dup v n t u L st h) : (am_Jm p l e R s m args below meth c Q g nL bud) pc u L st h := by
  intro H locs ls hR hS hl hu
  simp only [am_s] at hs
  split at hs
  · exact lv_dup hx hb hd rfl (hkk _ _ _ _ hs H locs ls hR hS hl hu)
  · exact lv_dup hx hb hd rfl (hkk _ _ _ _ hs H locs ls hR hS hl hu)
  · exact hs.elim
theorem am_x_dup2 (hx : p.tables.exec = Jvm.exec) (hb : c.code = cc) (hd : decode cc pc = .ok (.dup2, 1)) {k0 : am_K} (hkk : ∀ (u : Nat) (L : am_L) (st : List Value) (h : am_H), k0 u L st h → (am_Jm p l e R s m args below meth c Q g nL bud) (pc + 1) u L st h) (hs : am_s O C (am_Jm p l e R s m args below meth c Q g nL bud) P bud k0 .dup2 v n t u L st h) : (am_Jm p l e R s m args below meth c Q g nL bud) pc u L st h := by
  intro H locs ls hR hS hl hu
  simp only [am_s] at hs
  split at hs
  · exact lv_dup2_2 hx hb hd rfl (hkk _ _ _ _ hs H locs ls hR hS hl hu)
  · exact lv_dup2_11 hx hb hd rfl rfl (hkk _ _ _ _ hs H locs ls hR hS hl hu)
  · exact hs.elim
theorem am_x_pop (hx : p.tables.exec = Jvm.exec) (hb : c.code = cc) (hd : decode cc pc = .ok (.pop, 1)) {k0 : am_K} (hkk : ∀ (u : Nat) (L : am_L) (st : List Value) (h : am_H), k0 u L st h → (am_Jm p l e R s m args below meth c Q g nL bud) (pc + 1) u L st h) (hs : am_s O C (am_Jm p l e R s m args below meth c Q g nL bud) P bud k0 .pop v n t u L st h) : (am_Jm p l e R s m args below meth c Q g nL bud) pc u L st h := by
  intro H locs ls hR hS hl hu
  simp only [am_s] at hs
  split at hs
  · exact lv_pop hx hb hd rfl (hkk _ _ _ _ hs H locs ls hR hS hl hu)
  · exact hs.elim
theorem am_x_goto (hx : p.tables.exec = Jvm.exec) (hb : c.code = cc) {off : Int} {k : am_K} {i0 : Int} (hd : decode cc pc = .ok (.goto off, 3)) (ht : (pc : Int) + off = (n : Int)) (hs : am_s O C (am_Jm p l e R s m args below meth c Q g nL bud) P bud k (.goto i0) v n t u L st h) : (am_Jm p l e R s m args below meth c Q g nL bud) pc u L st h := by
  intro H locs ls hR hS hl hu
  exact lv_goto hx hb hd ht (hs H locs ls hR hS hl hu)
theorem am_x_icmp_eq (hx : p.tables.exec = Jvm.exec) (hb : c.code = cc) {off i0 : Int} (hd : decode cc pc = .ok (.if_icmp .eq off, 3)) (ht : (pc : Int) + off = (n : Int)) {k0 : am_K} (hkk : ∀ (u : Nat) (L : am_L) (st : List Value) (h : am_H), k0 u L st h → (am_Jm p l e R s m args below meth c Q g nL bud) (pc + 3) u L st h) (hs : am_s O C (am_Jm p l e R s m args below meth c Q g nL bud) P bud k0 (.if_icmp .eq i0) v n t u L st h) : (am_Jm p l e R s m args below meth c Q g nL bud) pc u L st h := by
  intro H locs ls hR hS hl hu
  simp only [am_s] at hs
  split at hs
  · exact lv_icmp_eq hx hb hd ht (fun q => hs.1 q H locs ls hR hS hl hu) (fun q => hkk _ _ _ _ (hs.2 q) H locs ls hR hS hl hu)
  · exact hs.elim
theorem am_x_if_eq (hx : p.tables.exec = Jvm.exec) (hb : c.code = cc) {off i0 : Int} (hd : decode cc pc = .ok (.ifCond .eq off, 3)) (ht : (pc : Int) + off = (n : Int)) {k0 : am_K} (hkk : ∀ (u : Nat) (L : am_L) (st : List Value) (h : am_H), k0 u L st h → (am_Jm p l e R s m args below meth c Q g nL bud) (pc + 3) u L st h) (hs : am_s O C (am_Jm p l e R s m args below meth c Q g nL bud) P bud k0 (.ifCond .eq i0) v n t u L st h) : (am_Jm p l e R s m args below meth c Q g nL bud) pc u L st h := by
  intro H locs ls hR hS hl hu
  simp only [am_s] at hs
  split at hs
  · exact lv_if_eq hx hb hd ht (fun q => hs.1 q H locs ls hR hS hl hu) (fun q => hkk _ _ _ _ (hs.2 q) H locs ls hR hS hl hu)
  · exact hs.elim
theorem am_x_icmp_ne (hx : p.tables.exec = Jvm.exec) (hb : c.code = cc) {off i0 : Int} (hd : decode cc pc = .ok (.if_icmp .ne off, 3)) (ht : (pc : Int) + off = (n : Int)) {k0 : am_K} (hkk : ∀ (u : Nat) (L : am_L) (st : List Value) (h : am_H), k0 u L st h → (am_Jm p l e R s m args below meth c Q g nL bud) (pc + 3) u L st h) (hs : am_s O C (am_Jm p l e R s m args below meth c Q g nL bud) P bud k0 (.if_icmp .ne i0) v n t u L st h) : (am_Jm p l e R s m args below meth c Q g nL bud) pc u L st h := by
  intro H locs ls hR hS hl hu
  simp only [am_s] at hs
  split at hs
  · exact lv_icmp_ne hx hb hd ht (fun q => hs.1 q H locs ls hR hS hl hu) (fun q => hkk _ _ _ _ (hs.2 q) H locs ls hR hS hl hu)
  · exact hs.elim
theorem am_x_if_ne (hx : p.tables.exec = Jvm.exec) (hb : c.code = cc) {off i0 : Int} (hd : decode cc pc = .ok (.ifCond .ne off, 3)) (ht : (pc : Int) + off = (n : Int)) {k0 : am_K} (hkk : ∀ (u : Nat) (L : am_L) (st : List Value) (h : am_H), k0 u L st h → (am_Jm p l e R s m args below meth c Q g nL bud) (pc + 3) u L st h) (hs : am_s O C (am_Jm p l e R s m args below meth c Q g nL bud) P bud k0 (.ifCond .ne i0) v n t u L st h) : (am_Jm p l e R s m args below meth c Q g nL bud) pc u L st h := by
  intro H locs ls hR hS hl hu
  simp only [am_s] at hs
  split at hs
  · exact lv_if_ne hx hb hd ht (fun q => hs.1 q H locs ls hR hS hl hu) (fun q => hkk _ _ _ _ (hs.2 q) H locs ls hR hS hl hu)
  · exact hs.elim
theorem am_x_icmp_lt (hx : p.tables.exec = Jvm.exec) (hb : c.code = cc) {off i0 : Int} (hd : decode cc pc = .ok (.if_icmp .lt off, 3)) (ht : (pc : Int) + off = (n : Int)) {k0 : am_K} (hkk : ∀ (u : Nat) (L : am_L) (st : List Value) (h : am_H), k0 u L st h → (am_Jm p l e R s m args below meth c Q g nL bud) (pc + 3) u L st h) (hs : am_s O C (am_Jm p l e R s m args below meth c Q g nL bud) P bud k0 (.if_icmp .lt i0) v n t u L st h) : (am_Jm p l e R s m args below meth c Q g nL bud) pc u L st h := by
  intro H locs ls hR hS hl hu
  simp only [am_s] at hs
  split at hs
  · exact lv_icmp_lt hx hb hd ht (fun q => hs.1 q H locs ls hR hS hl hu) (fun q => hkk _ _ _ _ (hs.2 q) H locs ls hR hS hl hu)
  · exact hs.elim
theorem am_x_if_lt (hx : p.tables.exec = Jvm.exec) (hb : c.code = cc) {off i0 : Int} (hd : decode cc pc = .ok (.ifCond .lt off, 3)) (ht : (pc : Int) + off = (n : Int)) {k0 : am_K} (hkk : ∀ (u : Nat) (L : am_L) (st : List Value) (h : am_H), k0 u L st h → (am_Jm p l e R s m args below meth c Q g nL bud) (pc + 3) u L st h) (hs : am_s O C (am_Jm p l e R s m args below meth c Q g nL bud) P bud k0 (.ifCond .lt i0) v n t u L st h) : (am_Jm p l e R s m args below meth c Q g nL bud) pc u L st h := by
  intro H locs ls hR hS hl hu
  simp only [am_s] at hs
  split at hs
  · exact lv_if_lt hx hb hd ht (fun q => hs.1 q H locs ls hR hS hl hu) (fun q => hkk _ _ _ _ (hs.2 q) H locs ls hR hS hl hu)
  · exact hs.elim
theorem am_x_icmp_ge (hx : p.tables.exec = Jvm.exec) (hb : c.code = cc) {off i0 : Int} (hd : decode cc pc = .ok (.if_icmp .ge off, 3)) (ht : (pc : Int) + off = (n : Int)) {k0 : am_K} (hkk : ∀ (u : Nat) (L : am_L) (st : List Value) (h : am_H), k0 u L st h → (am_Jm p l e R s m args below meth c Q g nL bud) (pc + 3) u L st h) (hs : am_s O C (am_Jm p l e R s m args below meth c Q g nL bud) P bud k0 (.if_icmp .ge i0) v n t u L st h) : (am_Jm p l e R s m args below meth c Q g nL bud) pc u L st h := by
  intro H locs ls hR hS hl hu
  simp only [am_s] at hs
  split at hs
  · exact lv_icmp_ge hx hb hd ht (fun q => hs.1 q H locs ls hR hS hl hu) (fun q => hkk _ _ _ _ (hs.2 q) H locs ls hR hS hl hu)
  · exact hs.elim
theorem am_x_if_ge (hx : p.tables.exec = Jvm.exec) (hb : c.code = cc) {off i0 : Int} (hd : decode cc pc = .ok (.ifCond .ge off, 3)) (ht : (pc : Int) + off = (n : Int)) {k0 : am_K} (hkk : ∀ (u : Nat) (L : am_L) (st : List Value) (h : am_H), k0 u L st h → (am_Jm p l e R s m args below meth c Q g nL bud) (pc + 3) u L st h) (hs : am_s O C (am_Jm p l e R s m args below meth c Q g nL bud) P bud k0 (.ifCond .ge i0) v n t u L st h) : (am_Jm p l e R s m args below meth c Q g nL bud) pc u L st h := by
  intro H locs ls hR hS hl hu
  simp only [am_s] at hs
  split at hs
  · exact lv_if_ge hx hb hd ht (fun q => hs.1 q H locs ls hR hS hl hu) (fun q => hkk _ _ _ _ (hs.2 q) H locs ls hR hS hl hu)
  · exact hs.elim
theorem am_x_icmp_gt (hx : p.tables.exec = Jvm.exec) (hb : c.code = cc) {off i0 : Int} (hd : decode cc pc = .ok (.if_icmp .gt off, 3)) (ht : (pc : Int) + off = (n : Int)) {k0 : am_K} (hkk : ∀ (u : Nat) (L : am_L) (st : List Value) (h : am_H), k0 u L st h → (am_Jm p l e R s m args below meth c Q g nL bud) (pc + 3) u L st h) (hs : am_s O C (am_Jm p l e R s m args below meth c Q g nL bud) P bud k0 (.if_icmp .gt i0) v n t u L st h) : (am_Jm p l e R s m args below meth c Q g nL bud) pc u L st h := by
  intro H locs ls hR hS hl hu
  simp only [am_s] at hs
  split at hs
  · exact lv_icmp_gt hx hb hd ht (fun q => hs.1 q H locs ls hR hS hl hu) (fun q => hkk _ _ _ _ (hs.2 q) H locs ls hR hS hl hu)
  · exact hs.elim
theorem am_x_if_gt (hx : p.tables.exec = Jvm.exec) (hb : c.code = cc) {off i0 : Int} (hd : decode cc pc = .ok (.ifCond .gt off, 3)) (ht : (pc : Int) + off = (n : Int)) {k0 : am_K} (hkk : ∀ (u : Nat) (L : am_L) (st : List Value) (h : am_H), k0 u L st h → (am_Jm p l e R s m args below meth c Q g nL bud) (pc + 3) u L st h) (hs : am_s O C (am_Jm p l e R s m args below meth c Q g nL bud) P bud k0 (.ifCond .gt i0) v n t u L st h) : (am_Jm p l e R s m args below meth c Q g nL bud) pc u L st h := by
  intro H locs ls hR hS hl hu
  simp only [am_s] at hs
  split at hs
  · exact lv_if_gt hx hb hd ht (fun q => hs.1 q H locs ls hR hS hl hu) (fun q => hkk _ _ _ _ (hs.2 q) H locs ls hR hS hl hu)
  · exact hs.elim
theorem am_x_icmp_le (hx : p.tables.exec = Jvm.exec) (hb : c.code = cc) {off i0 : Int} (hd : decode cc pc = .ok (.if_icmp .le off, 3)) (ht : (pc : Int) + off = (n : Int)) {k0 : am_K} (hkk : ∀ (u : Nat) (L : am_L) (st : List Value) (h : am_H), k0 u L st h → (am_Jm p l e R s m args below meth c Q g nL bud) (pc + 3) u L st h) (hs : am_s O C (am_Jm p l e R s m args below meth c Q g nL bud) P bud k0 (.if_icmp .le i0) v n t u L st h) : (am_Jm p l e R s m args below meth c Q g nL bud) pc u L st h := by
  intro H locs ls hR hS hl hu
  simp only [am_s] at hs
  split at hs
  · exact lv_icmp_le hx hb hd ht (fun q => hs.1 q H locs ls hR hS hl hu) (fun q => hkk _ _ _ _ (hs.2 q) H locs ls hR hS hl hu)
  · exact hs.elim
theorem am_x_if_le (hx : p.tables.exec = Jvm.exec) (hb : c.code = cc) {off i0 : Int} (hd : decode cc pc = .ok (.ifCond .le off, 3)) (ht : (pc : Int) + off = (n : Int)) {k0 : am_K} (hkk : ∀ (u : Nat) (L : am_L) (st : List Value) (h : am_H), k0 u L st h → (am_Jm p l e R s m args below meth c Q g nL bud) (pc + 3) u L st h) (hs : am_s O C (am_Jm p l e R s m args below meth c Q g nL bud) P bud k0 (.ifCond .le i0) v n t u L st h) : (am_Jm p l e R s m args below meth c Q g nL bud) pc u L st h := by
  intro H locs ls hR hS hl hu
  simp only [am_s] at hs
  split at hs
  · exact lv_if_le hx hb hd ht (fun q => hs.1 q H locs ls hR hS hl hu) (fun q => hkk _ _ _ _ (hs.2 q) H locs ls hR hS hl hu)
  · exact hs.elim
theorem am_x_ifnull (hx : p.tables.exec = Jvm.exec) (hb : c.code = cc) {off i0 : Int} (hd : decode cc pc = .ok (.ifnull off, 3)) (ht : (pc : Int) + off = (n : Int)) {k0 : am_K} (hkk : ∀ (u : Nat) (L : am_L) (st : List Value) (h : am_H), k0 u L st h → (am_Jm p l e R s m args below meth c Q g nL bud) (pc + 3) u L st h) (hs : am_s O C (am_Jm p l e R s m args below meth c Q g nL bud) P bud k0 (.ifnull i0) v n t u L st h) : (am_Jm p l e R s m args below meth c Q g nL bud) pc u L st h := by
  intro H locs ls hR hS hl hu
  simp only [am_s] at hs
  split at hs
  · exact lv_ifnullN hx hb hd ht (hs H locs ls hR hS hl hu)
  · exact lv_ifnull hx hb hd (hkk _ _ _ _ hs H locs ls hR hS hl hu)
  · exact hs.elim
theorem am_x_ifnonnull (hx : p.tables.exec = Jvm.exec) (hb : c.code = cc) {off i0 : Int} (hd : decode cc pc = .ok (.ifnonnull off, 3)) (ht : (pc : Int) + off = (n : Int)) {k0 : am_K} (hkk : ∀ (u : Nat) (L : am_L) (st : List Value) (h : am_H), k0 u L st h → (am_Jm p l e R s m args below meth c Q g nL bud) (pc + 3) u L st h) (hs : am_s O C (am_Jm p l e R s m args below meth c Q g nL bud) P bud k0 (.ifnonnull i0) v n t u L st h) : (am_Jm p l e R s m args below meth c Q g nL bud) pc u L st h := by
  intro H locs ls hR hS hl hu
  simp only [am_s] at hs
  split at hs
  · exact lv_ifnonnull hx hb hd ht (hs H locs ls hR hS hl hu)
  · exact lv_ifnonnullN hx hb hd (hkk _ _ _ _ hs H locs ls hR hS hl hu)
  · exact hs.elim
/-- a load of a local, by its row -/
theorem am_x_iload {j : Nat} (hx : p.tables.exec = Jvm.exec) (hb : c.code = cc) {len : Nat} (hd : decode cc pc = .ok (.iload j, 2) ∧ len = 2 ∨ ∃ k : Fin 4, decode cc pc = .ok (.iload_n k, 1) ∧ (k : Nat) = j ∧ len = 1) {k0 : am_K} (hkk : ∀ (u : Nat) (L : am_L) (st : List Value) (h : am_H), k0 u L st h → (am_Jm p l e R s m args below meth c Q g nL bud) (pc + len) u L st h) (hs : am_s O C (am_Jm p l e R s m args below meth c Q g nL bud) P bud k0 (.iload j) v n t u L st h) : (am_Jm p l e R s m args below meth c Q g nL bud) pc u L st h := by
  intro H locs ls hR hS hl hu
  simp only [am_s] at hs
  split at hs
  · rename_i x heq
    rcases hd with ⟨hd, rfl⟩ | ⟨k, hd, hk, rfl⟩
    · exact lv_iload hx hb hd (hl.2.2 j _ heq) (hkk _ _ _ _ hs H locs ls hR hS hl hu)
    · exact lv_iload_n hx hb hd hk (hl.2.2 j _ heq) (hkk _ _ _ _ hs H locs ls hR hS hl hu)
  · exact hs.elim
theorem am_x_lload {j : Nat} (hx : p.tables.exec = Jvm.exec) (hb : c.code = cc) {len : Nat} (hd : decode cc pc = .ok (.lload j, 2) ∧ len = 2 ∨ ∃ k : Fin 4, decode cc pc = .ok (.lload_n k, 1) ∧ (k : Nat) = j ∧ len = 1) {k0 : am_K} (hkk : ∀ (u : Nat) (L : am_L) (st : List Value) (h : am_H), k0 u L st h → (am_Jm p l e R s m args below meth c Q g nL bud) (pc + len) u L st h) (hs : am_s O C (am_Jm p l e R s m args below meth c Q g nL bud) P bud k0 (.lload j) v n t u L st h) : (am_Jm p l e R s m args below meth c Q g nL bud) pc u L st h := by
  intro H locs ls hR hS hl hu
  simp only [am_s] at hs
  split at hs
  · rename_i x heq
    rcases hd with ⟨hd, rfl⟩ | ⟨k, hd, hk, rfl⟩
    · exact lv_lload hx hb hd (hl.2.2 j _ heq) (hkk _ _ _ _ hs H locs ls hR hS hl hu)
    · exact lv_lload_n hx hb hd hk (hl.2.2 j _ heq) (hkk _ _ _ _ hs H locs ls hR hS hl hu)
  · exact hs.elim
theorem am_ref_v (ho : am_ov g) {x : Value} (hx : am_ref x) : am_v g x = .null ∨ ∃ a, am_v g x = .ref a := by
  cases x with
  | ref a => exact Or.inr ⟨_, rfl⟩
  | null => exact Or.inl rfl
  | retAddr k => exact ho k
  | _ => exact hx.elim
theorem am_x_aload {j : Nat} (ho : am_ov g) (hx : p.tables.exec = Jvm.exec) (hb : c.code = cc) {len : Nat} (hd : decode cc pc = .ok (.aload j, 2) ∧ len = 2 ∨ ∃ k : Fin 4, decode cc pc = .ok (.aload_n k, 1) ∧ (k : Nat) = j ∧ len = 1) {k0 : am_K} (hkk : ∀ (u : Nat) (L : am_L) (st : List Value) (h : am_H), k0 u L st h → (am_Jm p l e R s m args below meth c Q g nL bud) (pc + len) u L st h) (hs : am_s O C (am_Jm p l e R s m args below meth c Q g nL bud) P bud k0 (.aload j) v n t u L st h) : (am_Jm p l e R s m args below meth c Q g nL bud) pc u L st h := by
  intro H locs ls hR hS hl hu
  simp only [am_s] at hs
  split at hs
  · rename_i x heq
    have hk := hkk _ _ _ _ hs.2 H locs ls hR hS hl hu
    have hj := hl.2.2 j _ heq
    rw [List.map_cons] at hk
    rcases am_ref_v ho hs.1 with hv | ⟨a, hv⟩ <;> rw [hv] at hk hj <;> rcases hd with ⟨hd, rfl⟩ | ⟨q, hd, hq, rfl⟩
    · exact lv_aloadN hx hb hd hj hk
    · exact lv_aload_nN hx hb hd hq hj hk
    · exact lv_aload hx hb hd hj hk
    · exact lv_aload_n hx hb hd hq hj hk
  · exact hs.elim
theorem am_x_istore {j : Nat} (ho : am_ov g) (hx : p.tables.exec = Jvm.exec) (hb : c.code = cc) {len : Nat} (hn : j < nL) (hd : decode cc pc = .ok (.istore j, 2) ∧ len = 2 ∨ ∃ k : Fin 4, decode cc pc = .ok (.istore_n k, 1) ∧ (k : Nat) = j ∧ len = 1) {k0 : am_K} (hkk : ∀ (u : Nat) (L : am_L) (st : List Value) (h : am_H), k0 u L st h → (am_Jm p l e R s m args below meth c Q g nL bud) (pc + len) u L st h) (hs : am_s O C (am_Jm p l e R s m args below meth c Q g nL bud) P bud k0 (.istore j) v n t u L st h) : (am_Jm p l e R s m args below meth c Q g nL bud) pc u L st h := by
  intro H locs ls hR hS hl hu
  simp only [am_s] at hs
  split at hs
  · rcases hd with ⟨hd, rfl⟩ | ⟨k, hd, hk, rfl⟩
    · exact lv_istore hx hb hd (am_ll_has hl) hn rfl (fun ls' h' => hkk _ _ _ _ hs H locs ls' hR hS (am_lr1 ho h') hu)
    · exact lv_istore_n hx hb hd hk (am_ll_has hl) hn rfl (fun ls' h' => hkk _ _ _ _ hs H locs ls' hR hS (am_lr1 ho h') hu)
  · exact hs.elim
theorem am_x_lstore {j : Nat} (ho : am_ov g) (hx : p.tables.exec = Jvm.exec) (hb : c.code = cc) {len : Nat} (hn : j + 1 < nL) (hd : decode cc pc = .ok (.lstore j, 2) ∧ len = 2 ∨ ∃ k : Fin 4, decode cc pc = .ok (.lstore_n k, 1) ∧ (k : Nat) = j ∧ len = 1) {k0 : am_K} (hkk : ∀ (u : Nat) (L : am_L) (st : List Value) (h : am_H), k0 u L st h → (am_Jm p l e R s m args below meth c Q g nL bud) (pc + len) u L st h) (hs : am_s O C (am_Jm p l e R s m args below meth c Q g nL bud) P bud k0 (.lstore j) v n t u L st h) : (am_Jm p l e R s m args below meth c Q g nL bud) pc u L st h := by
  intro H locs ls hR hS hl hu
  simp only [am_s] at hs
  split at hs
  · rcases hd with ⟨hd, rfl⟩ | ⟨k, hd, hk, rfl⟩
    · exact lv_lstore hx hb hd (am_ll_has hl) hn rfl (fun ls' h' => hkk _ _ _ _ hs H locs ls' hR hS (am_lr2 ho h') hu)
    · exact lv_lstore_n hx hb hd hk (am_ll_has hl) hn rfl (fun ls' h' => hkk _ _ _ _ hs H locs ls' hR hS (am_lr2 ho h') hu)
  · exact hs.elim
theorem am_x_astore {j : Nat} (ho : am_ov g) (hx : p.tables.exec = Jvm.exec) (hb : c.code = cc) {len : Nat} (hn : j < nL) (hd : decode cc pc = .ok (.astore j, 2) ∧ len = 2 ∨ ∃ k : Fin 4, decode cc pc = .ok (.astore_n k, 1) ∧ (k : Nat) = j ∧ len = 1) {k0 : am_K} (hkk : ∀ (u : Nat) (L : am_L) (st : List Value) (h : am_H), k0 u L st h → (am_Jm p l e R s m args below meth c Q g nL bud) (pc + len) u L st h) (hs : am_s O C (am_Jm p l e R s m args below meth c Q g nL bud) P bud k0 (.astore j) v n t u L st h) : (am_Jm p l e R s m args below meth c Q g nL bud) pc u L st h := by
  intro H locs ls hR hS hl hu
  simp only [am_s] at hs
  split at hs
  · rename_i x r
    have hk : ∀ ls' : Array Slot, lv_has ls' nL ((j, am_v g x) :: (am_ll g L).filter (fun q => !(q.1 == j) && !(q.1 + 1 == j && q.2.category == 2))) → W p l e R s m args below meth c H locs u (2200 * u) Q (F0 m (pc + len) ls' (r.map (am_v g))) := fun ls' h' => hkk _ _ _ _ hs.2 H locs ls' hR hS (am_lr1 ho h') hu
    rw [List.map_cons]
    rcases am_ref_v ho hs.1 with hv | ⟨a, hv⟩ <;> rw [hv] at hk ⊢ <;> rcases hd with ⟨hd, rfl⟩ | ⟨q, hd, hq, rfl⟩
    · exact lv_astoreN hx hb hd (am_ll_has hl) hn rfl hk
    · exact lv_astore_nN hx hb hd hq (am_ll_has hl) hn rfl hk
    · exact lv_astore hx hb hd (am_ll_has hl) hn rfl hk
    · exact lv_astore_n hx hb hd hq (am_ll_has hl) hn rfl hk
  · exact hs.elim
theorem am_x_iinc {j : Nat} {z i0 : Int} (ho : am_ov g) (hx : p.tables.exec = Jvm.exec) (hb : c.code = cc) (hn : j < nL) (hv : v = .int (Int32.ofInt z)) (hd : decode cc pc = .ok (.iinc j z, 3)) {k0 : am_K} (hkk : ∀ (u : Nat) (L : am_L) (st : List Value) (h : am_H), k0 u L st h → (am_Jm p l e R s m args below meth c Q g nL bud) (pc + 3) u L st h) (hs : am_s O C (am_Jm p l e R s m args below meth c Q g nL bud) P bud k0 (.iinc j i0) v n t u L st h) : (am_Jm p l e R s m args below meth c Q g nL bud) pc u L st h := by
  intro H locs ls hR hS hl hu
  subst hv
  simp only [am_s] at hs
  split at hs
  · rename_i x y heq hy
    cases hy
    obtain ⟨q, hq⟩ := List.getElem?_of_mem (am_ll_mem (g := g) heq)
    exact lv_iinc hx hb hd (am_ll_has hl) hq rfl hn rfl (fun ls' h' => hkk _ _ _ _ hs H locs ls' hR hS (am_lr1 (v := .int (x + Int32.ofInt z)) ho h') hu)
  · exact hs.elim
end AMX
