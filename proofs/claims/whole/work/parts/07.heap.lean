/-! Constants, fields, arrays, new cells. -/
section AMY
variable {p : Program} {l : Launch} {e : Env} {R : Room} {s : State} {m : MethodId} {args : Array Value} {below : List Frame} {meth : Method} {c : Code} {Q : State → Prop} {g : am_G} {O : am_O} {cc : ByteArray} {nL bud pc : Nat} {C : am_C} {P : am_P} {v : Value} {n : Nat} {t : List (Nat × Nat)} {u : Nat} {L : am_L} {st : List Value} {h : am_H} {own : String}

theorem am_x_c_iconst (hx : p.tables.exec = Jvm.exec) (hb : c.code = cc) {k : Int} (hd : decode cc pc = .ok (.iconst k, 1)) (hv : v = .int (Int32.ofInt k)) {k0 : am_K} (hkk : ∀ (u : Nat) (L : am_L) (st : List Value) (h : am_H), k0 u L st h → (am_Jm p l e R s m args below meth c Q g nL bud) (pc + 1) u L st h) (hs : am_s O C (am_Jm p l e R s m args below meth c Q g nL bud) P bud k0 .nop v n t u L st h) : (am_Jm p l e R s m args below meth c Q g nL bud) pc u L st h := by
  intro H locs ls hR hS hl hu
  have hs := hkk _ _ _ _ hs H locs ls hR hS hl hu
  subst hv; exact lv_iconst hx hb hd rfl hs
theorem am_x_c_bipush (hx : p.tables.exec = Jvm.exec) (hb : c.code = cc) {k : Int} (hd : decode cc pc = .ok (.bipush k, 2)) (hv : v = .int (Int8.ofInt k).toInt32) {k0 : am_K} (hkk : ∀ (u : Nat) (L : am_L) (st : List Value) (h : am_H), k0 u L st h → (am_Jm p l e R s m args below meth c Q g nL bud) (pc + 2) u L st h) (hs : am_s O C (am_Jm p l e R s m args below meth c Q g nL bud) P bud k0 .nop v n t u L st h) : (am_Jm p l e R s m args below meth c Q g nL bud) pc u L st h := by
  intro H locs ls hR hS hl hu
  have hs := hkk _ _ _ _ hs H locs ls hR hS hl hu
  subst hv; exact lv_bipush hx hb hd rfl hs
theorem am_x_c_sipush (hx : p.tables.exec = Jvm.exec) (hb : c.code = cc) {k : Int} (hd : decode cc pc = .ok (.sipush k, 3)) (hv : v = .int (Int16.ofInt k).toInt32) {k0 : am_K} (hkk : ∀ (u : Nat) (L : am_L) (st : List Value) (h : am_H), k0 u L st h → (am_Jm p l e R s m args below meth c Q g nL bud) (pc + 3) u L st h) (hs : am_s O C (am_Jm p l e R s m args below meth c Q g nL bud) P bud k0 .nop v n t u L st h) : (am_Jm p l e R s m args below meth c Q g nL bud) pc u L st h := by
  intro H locs ls hR hS hl hu
  have hs := hkk _ _ _ _ hs H locs ls hR hS hl hu
  subst hv; exact lv_sipush hx hb hd rfl hs
theorem am_x_c_lconst (hx : p.tables.exec = Jvm.exec) (hb : c.code = cc) {k : Fin 2} (hd : decode cc pc = .ok (.lconst k, 1)) (hv : v = .long (Int64.ofNat (k : Nat))) {k0 : am_K} (hkk : ∀ (u : Nat) (L : am_L) (st : List Value) (h : am_H), k0 u L st h → (am_Jm p l e R s m args below meth c Q g nL bud) (pc + 1) u L st h) (hs : am_s O C (am_Jm p l e R s m args below meth c Q g nL bud) P bud k0 .nop v n t u L st h) : (am_Jm p l e R s m args below meth c Q g nL bud) pc u L st h := by
  intro H locs ls hR hS hl hu
  have hs := hkk _ _ _ _ hs H locs ls hR hS hl hu
  subst hv; exact lv_lconst hx hb hd rfl hs
theorem am_x_c_null (hx : p.tables.exec = Jvm.exec) (hb : c.code = cc) (hd : decode cc pc = .ok (.aconst_null, 1)) (hv : v = .null) {k0 : am_K} (hkk : ∀ (u : Nat) (L : am_L) (st : List Value) (h : am_H), k0 u L st h → (am_Jm p l e R s m args below meth c Q g nL bud) (pc + 1) u L st h) (hs : am_s O C (am_Jm p l e R s m args below meth c Q g nL bud) P bud k0 .nop v n t u L st h) : (am_Jm p l e R s m args below meth c Q g nL bud) pc u L st h := by
  intro H locs ls hR hS hl hu
  have hs := hkk _ _ _ _ hs H locs ls hR hS hl hu
  subst hv; exact lv_null hx hb hd hs
theorem am_x_c_ldc (hx : p.tables.exec = Jvm.exec) (hb : c.code = cc) {k : Nat} {x : Int32} (hown : s.vm.findClass own = some m.cls) (hw : (Cond.constant own k x).before args s = true) (hd : decode cc pc = .ok (.ldc k, 2)) (hv : v = .int x) {k0 : am_K} (hkk : ∀ (u : Nat) (L : am_L) (st : List Value) (h : am_H), k0 u L st h → (am_Jm p l e R s m args below meth c Q g nL bud) (pc + 2) u L st h) (hs : am_s O C (am_Jm p l e R s m args below meth c Q g nL bud) P bud k0 .nop v n t u L st h) : (am_Jm p l e R s m args below meth c Q g nL bud) pc u L st h := by
  intro H locs ls hR hS hl hu
  have hs := hkk _ _ _ _ hs H locs ls hR hS hl hu
  subst hv; exact lv_ldc hx hb hown hw hd hs
theorem am_x_c_ldc2 (hx : p.tables.exec = Jvm.exec) (hb : c.code = cc) {k : Nat} {x : Int64} (hown : s.vm.findClass own = some m.cls) (hw : (Cond.constantLong own k x).before args s = true) (hd : decode cc pc = .ok (.ldc2_w k, 3)) (hv : v = .long x) {k0 : am_K} (hkk : ∀ (u : Nat) (L : am_L) (st : List Value) (h : am_H), k0 u L st h → (am_Jm p l e R s m args below meth c Q g nL bud) (pc + 3) u L st h) (hs : am_s O C (am_Jm p l e R s m args below meth c Q g nL bud) P bud k0 .nop v n t u L st h) : (am_Jm p l e R s m args below meth c Q g nL bud) pc u L st h := by
  intro H locs ls hR hS hl hu
  have hs := hkk _ _ _ _ hs H locs ls hR hS hl hu
  subst hv; exact lv_ldc2 hx hb hown hw hd hs
theorem am_x_c_ldcS (hx : p.tables.exec = Jvm.exec) (hb : c.code = cc) {k i : Nat} {tx : String} (hown : s.vm.findClass own = some m.cls) (hF2 : am_F2 g s) (hq : am_st[i]? = some (own, k, tx)) (hd : decode cc pc = .ok (.ldc k, 2)) (hv : v = .retAddr i) {k0 : am_K} (hkk : ∀ (u : Nat) (L : am_L) (st : List Value) (h : am_H), k0 u L st h → (am_Jm p l e R s m args below meth c Q g nL bud) (pc + 2) u L st h) (hs : am_s O C (am_Jm p l e R s m args below meth c Q g nL bud) P bud k0 .nop v n t u L st h) : (am_Jm p l e R s m args below meth c Q g nL bud) pc u L st h := by
  intro H locs ls hR hS hl hu
  have hs := hkk _ _ _ _ hs H locs ls hR hS hl hu
  subst hv
  obtain ⟨a, a1, a2⟩ := hF2.2.1 i _ hq
  rw [List.map_cons, show am_v g (.retAddr i) = .ref a from a1] at hs
  exact va_ldcS hx hb hown a2 hd hs
theorem am_x_c_gets (hx : p.tables.exec = Jvm.exec) (hb : c.code = cc) {k : Nat} {C0 n0 d0 : String} (hown : s.vm.findClass own = some m.cls) (hw : (Cond.fieldLink own k C0 n0 d0).before args s = true) (hZ : va_Z C0 n0 d0 (am_v g v) (am_A0 g) s s.heap) (hd : decode cc pc = .ok (.getstatic k, 3)) {k0 : am_K} (hkk : ∀ (u : Nat) (L : am_L) (st : List Value) (h : am_H), k0 u L st h → (am_Jm p l e R s m args below meth c Q g nL bud) (pc + 3) u L st h) (hs : am_s O C (am_Jm p l e R s m args below meth c Q g nL bud) P bud k0 .nop v n t u L st h) : (am_Jm p l e R s m args below meth c Q g nL bud) pc u L st h := by
  intro H locs ls hR hS hl hu
  have hs := hkk _ _ _ _ hs H locs ls hR hS hl hu
  exact va_gets hx hb hZ hS hown hw (fun _ h => h) hd hs
theorem am_x_c_getsN (hx : p.tables.exec = Jvm.exec) (hb : c.code = cc) {k : Nat} {C0 n0 d0 host : String} (hown : s.vm.findClass own = some m.cls) (hw : (Cond.fieldLinkNest own k C0 n0 d0 host).before args s = true) (hZ : va_Z C0 n0 d0 (am_v g v) (am_A0 g) s s.heap) (hd : decode cc pc = .ok (.getstatic k, 3)) {k0 : am_K} (hkk : ∀ (u : Nat) (L : am_L) (st : List Value) (h : am_H), k0 u L st h → (am_Jm p l e R s m args below meth c Q g nL bud) (pc + 3) u L st h) (hs : am_s O C (am_Jm p l e R s m args below meth c Q g nL bud) P bud k0 .nop v n t u L st h) : (am_Jm p l e R s m args below meth c Q g nL bud) pc u L st h := by
  intro H locs ls hR hS hl hu
  have hs := hkk _ _ _ _ hs H locs ls hR hS hl hu
  exact va_getsN hx hb hZ hS hown hw (fun _ h => h) hd hs
/-- what a field's instruction asks of the tables: class ci, its field k, the reference's class -/
def am_fd (args : Array Value) (s : State) (own : String) (idx : Nat) (ci k : Nat) : Prop := ∃ (q : vw_C) (r : String), am_cl[ci]? = some q ∧ k < q.2.2 ∧ (Cond.fieldLink own idx r (q.2.1 k).2.1 (q.2.1 k).2.2.1).before args s = true ∧ (r = (q.2.1 k).1 ∨ (Cond.sameField r (q.2.1 k).1 (q.2.1 k).2.1 (q.2.1 k).2.2.1).before args s = true)
theorem am_hin (hts : ∀ w ∈ am_tb, w.before args s = true) {ci : Nat} {q : vw_C} (hc : am_cl[ci]? = some q) : ∀ w ∈ u_ws q.1 q.2.1 q.2.2, w ∈ am_tb := by
  intro w hw
  refine am_tb_in ((am_cok_all hc).1 w hw) ?_
  obtain ⟨j, -, hj⟩ := List.mem_map.mp hw
  rw [← hj]
  unfold u_lay
  split <;> rfl
theorem am_same {r o1 n1 d1 : String} (h : r = o1 ∨ (Cond.sameField r o1 n1 d1).before args s = true) : ∀ x, s.fieldFound? o1 n1 d1 = some x → s.fieldFound? r n1 d1 = some x := by
  rcases h with rfl | h
  · exact fun _ h => h
  · exact fun x hx => u_same h x hx
theorem am_x_getfield {i0 idx : Nat} (hx : p.tables.exec = Jvm.exec) (hb : c.code = cc) (hown : s.vm.findClass own = some m.cls) (hts : ∀ w ∈ am_tb, w.before args s = true) (hF2 : am_F2 g s) (hf : ∀ q ∈ t, am_fd args s own idx q.1 n) (hd : decode cc pc = .ok (.getfield idx, 3)) {k0 : am_K} (hkk : ∀ (u : Nat) (L : am_L) (st : List Value) (h : am_H), k0 u L st h → (am_Jm p l e R s m args below meth c Q g nL bud) (pc + 3) u L st h) (hs : am_s O C (am_Jm p l e R s m args below meth c Q g nL bud) P bud k0 (.getfield i0) v n t u L st h) : (am_Jm p l e R s m args below meth c Q g nL bud) pc u L st h := by
  intro H locs ls hR hS hl hu
  simp only [am_s] at hs
  split at hs
  · rename_i a r
    unfold am_gf at hs
    split at hs
    · rename_i ci fs hc
      obtain ⟨h1, h2⟩ := hs
      split at h2
      · rename_i w hw
        obtain ⟨q, hq, hqc⟩ := List.any_eq_true.mp h1
        have hqc : q.1 = ci := by simpa using hqc
        obtain ⟨cq, rf, g1, g2, g3, g4⟩ := hf q hq
        rw [hqc] at g1
        have hk := hkk _ _ _ _ h2 H locs ls hR hS hl hu
        exact va_get (D := g.2.2.2) (v := am_v g w) hx hb hts (am_hin hts g1) hown hF2.1 hR.2 a (am_at hc) g1 n g2 g3 (am_same g4) (by rw [List.getElem?_map, hw]; rfl) hd hk
      · exact h2.elim
    · exact hs.elim
  · exact hs.elim
/-- the kinds of values by a field's type -/
def am_tag (ty : FieldType) (k : Nat) : Bool := match ty with
  | .int => k == 0
  | .boolean => k == 1
  | .long => k == 2
  | .object _ => k == 3
  | .array _ => k == 3
  | _ => false
theorem am_fit_ok (ho : am_ov g) {ty : FieldType} {k : Nat} {w : Value} (ht : am_tag ty k = true) (hf : am_fit k w) : narrow ty (am_v g w) = am_v g w ∧ fits ty (am_v g w) = true := by
  unfold am_tag at ht
  split at ht
  · have e : k = 0 := by simpa using ht
    subst e
    cases w <;> first | exact ⟨rfl, rfl⟩ | exact hf.elim
  · have e : k = 1 := by simpa using ht
    subst e
    cases w with
    | int x =>
      rcases (show x = 0 ∨ x = 1 from hf) with rfl | rfl
      · exact ⟨(by decide +kernel : narrow .boolean (.int 0) = .int 0), (by decide +kernel : fits .boolean (.int 0) = true)⟩
      · exact ⟨(by decide +kernel : narrow .boolean (.int 1) = .int 1), (by decide +kernel : fits .boolean (.int 1) = true)⟩
    | _ => exact hf.elim
  · have e : k = 2 := by simpa using ht
    subst e
    cases w <;> first | exact ⟨rfl, rfl⟩ | exact hf.elim
  · have e : k = 3 := by simpa using ht
    subst e
    cases w with
    | retAddr q =>
      show narrow _ (g.2.1 q) = g.2.1 q ∧ fits _ (g.2.1 q) = true
      rcases ho q with h | ⟨a, h⟩ <;> rw [h] <;> exact ⟨rfl, rfl⟩
    | _ => first | exact ⟨rfl, rfl⟩ | exact hf.elim
  · have e : k = 3 := by simpa using ht
    subst e
    cases w with
    | retAddr q =>
      show narrow _ (g.2.1 q) = g.2.1 q ∧ fits _ (g.2.1 q) = true
      rcases ho q with h | ⟨a, h⟩ <;> rw [h] <;> exact ⟨rfl, rfl⟩
    | _ => first | exact ⟨rfl, rfl⟩ | exact hf.elim
  · cases ht
/-- a field's store, with the heap's size -/
theorem am_put {ls : Array Slot} {rest : List Value} {H : Heap} {locs : List Loc} {ci k idx a : Nat} {fs : List Value} {w : Value} {tag : Nat} {nm : String} (hx : p.tables.exec = Jvm.exec) (hb : c.code = cc) (hown : s.vm.findClass own = some m.cls) (hnm : meth.name = nm) (ho : am_ov g) (hts : ∀ w ∈ am_tb, w.before args s = true) (hF2 : am_F2 g s) (hR : am_R g h H) (hS : va_S (am_A0 g) s.heap H locs) (hc : am_hg h a = some (.inr (ci, fs))) (hf : am_fd args s own idx ci k) (hl : k < fs.length)
    (hfin : ∀ q, am_cl[ci]? = some q → (q.2.1 k).2.2.2 = true → nm = "<init>" ∧ (q.2.1 k).1 = own) (htag : am_tag (am_tt ci k) tag = true) (hw : am_fit tag w) (hd : decode cc pc = .ok (.putfield idx, 3))
    (kk : ∀ (H1 : Heap) (locs1 : List Loc), am_R g (am_hs h a (.inr (ci, fs.set k w))) H1 → va_S (am_A0 g) s.heap H1 locs1 → W p l e R s m args below meth c H1 locs1 u (2200 * u) Q (F0 m (pc + 3) ls rest)) : W p l e R s m args below meth c H locs u (2200 * u) Q (F0 m pc ls (am_v g w :: .ref (g.1 + a) :: rest)) := by
  obtain ⟨⟨C0, T0, N0⟩, rf, g1, hk, hlink, g4⟩ := hf
  have hsame := am_same g4
  have hin := am_hin hts g1
  obtain ⟨-, hty, hnms, -, -⟩ := am_cok_all g1
  obtain ⟨hn, hfit⟩ := am_fit_ok (g := g) ho htag hw
  have hK := hF2.1
  have he := am_at (g := g) hc
  have hap := va_apart (own := own) hts hin (am_tt ci) hty hnms hK g1
  obtain ⟨r, h1, cell, q1, q2, q3, q4⟩ := hR.2 a _ he
  have hr : r = (C0, T0, N0) := Option.some.inj (h1.symm.trans g1)
  subst hr
  obtain ⟨hSl, hfc, kC, hkC, hkind⟩ := hK.1 ci _ g1
  obtain ⟨cf, kf, fi, f, hi, hsl⟩ := hSl k hk
  have hlay := hts _ (hin _ (u_in_lay hk))
  have hst := (u_facts hfc hkC (u_lays hts hin hk) hi).1
  have hl' : k < (fs.map (am_v g)).length := by rw [List.length_map]; exact hl
  have fin : ∀ H1 : Heap, H1[g.1 + a]? = some (cell.setSlot f.slot (am_v g w)) → H1.size = H.size → (∀ q, q ≠ g.1 + a → H1[q]? = H[q]?) → W p l e R s m args below meth c H1 (locs ++ [⟨g.1 + a, f.slot⟩]) u (2200 * u) Q (F0 m (pc + 3) ls rest) := by
    intro H1 e1 e2 e3
    rw [hsl] at e1 ⊢
    obtain ⟨f1, f2⟩ := am_R.set (k := (g.2.2.2.2 ci k)) (c' := .inr (ci, fs.set k w)) hR hS hc ⟨_, g1, by
      show t_OB _ _ _ _ _ (vp_V ((fs.set k w).map (am_v g)))
      rw [List.map_set]
      exact t_OB.to (V := updV (vp_V (fs.map (am_v g))) k (am_v g w)) ⟨_, e1, q2, q3, t_set q4 hap hk (am_v g w)⟩ (fun j _ => vp_updV_set hl' (am_v g w) j)⟩ e2 e3
    exact kk H1 _ f1 f2
  unfold u_lay at hlay
  cases hfb : (T0 k).2.2.2 with
  | false =>
    rw [if_neg (by rw [hfb]; decide)] at hlay
    have h6 := u_store hfc hkC hkind hlay hi (hty k hk) hn hfit
    exact W.putK hx hb (f := f) ⟨hown, hlink, ⟨_, _, _, hsame _ hi⟩, hst⟩ (by rw [q2]; exact h6) q1 q3 (by rw [hsl]; exact k2_hasslot (q4 k hk)) rfl rfl hd fin
  | true =>
    rw [if_pos hfb] at hlay
    obtain ⟨hin2, hdecl⟩ := hfin _ g1 hfb
    have hcf : m.cls = cf := by
      obtain ⟨_, _, c', _, _, _, -, -, hf', -, -, -, hown2, -⟩ := Cond.laysFinal_spec hlay
      have e1 : c' = cf := by have := hi.symm.trans hf'; simp at this; exact this.1.symm
      rw [hdecl] at hown2
      rw [← e1]; exact Option.some.inj (hown.symm.trans hown2)
    have h6 := u_fits hfc hkC hkind (Or.inr hlay) hi (hty k hk) hn hfit
    exact W.putFinK hx hb hown hlink (hsame _ hi) hst hcf (hnm.trans hin2) (by rw [q2]; exact h6) q1 q3 (by rw [hsl]; exact k2_hasslot (q4 k hk)) rfl rfl hd fin
theorem am_x_putfield {i0 idx : Nat} {nm : String} (hx : p.tables.exec = Jvm.exec) (hb : c.code = cc) (hown : s.vm.findClass own = some m.cls) (hnm : meth.name = nm) (ho : am_ov g) (hts : ∀ w ∈ am_tb, w.before args s = true) (hF2 : am_F2 g s) (hf : ∀ q ∈ t, am_fd args s own idx q.1 n ∧ am_tag (am_tt q.1 n) q.2 = true ∧ ∀ r, am_cl[q.1]? = some r → (r.2.1 n).2.2.2 = true → nm = "<init>" ∧ (r.2.1 n).1 = own) (hd : decode cc pc = .ok (.putfield idx, 3)) {k0 : am_K} (hkk : ∀ (u : Nat) (L : am_L) (st : List Value) (h : am_H), k0 u L st h → (am_Jm p l e R s m args below meth c Q g nL bud) (pc + 3) u L st h) (hs : am_s O C (am_Jm p l e R s m args below meth c Q g nL bud) P bud k0 (.putfield i0) v n t u L st h) : (am_Jm p l e R s m args below meth c Q g nL bud) pc u L st h := by
  intro H locs ls hR hS hl hu
  simp only [am_s] at hs
  split at hs
  · rename_i w a r
    unfold am_pf at hs
    split at hs
    · rename_i ci fs c' tg hc
      obtain ⟨rfl, h1, h2, h3⟩ := hs
      obtain ⟨f1, f2, f3⟩ := hf _ List.mem_cons_self
      exact am_put hx hb hown hnm ho hts hF2 hR hS hc f1 h1 f3 f2 h2 hd (fun H1 locs1 a1 a2 => hkk _ _ _ _ h3 H1 locs1 ls a1 a2 hl hu)
    · exact hs.elim
  · exact hs.elim
theorem am_x_putF {i0 idx : Nat} {nm : String} (hx : p.tables.exec = Jvm.exec) (hb : c.code = cc) (hown : s.vm.findClass own = some m.cls) (hnm : meth.name = nm) (ho : am_ov g) (hts : ∀ w ∈ am_tb, w.before args s = true) (hF2 : am_F2 g s) (hf : ∀ q ∈ t, am_fd args s own idx q.1 n ∧ am_tag (am_tt q.1 n) 0 = true ∧ ∀ r, am_cl[q.1]? = some r → (r.2.1 n).2.2.2 = true → nm = "<init>" ∧ (r.2.1 n).1 = own) (hd : decode cc pc = .ok (.putfield idx, 3)) {k0 : am_K} (hkk : ∀ (u : Nat) (L : am_L) (st : List Value) (h : am_H), k0 u L st h → (am_Jm p l e R s m args below meth c Q g nL bud) (pc + 3) u L st h) (hs : am_s O C (am_Jm p l e R s m args below meth c Q g nL bud) P bud k0 (.putstatic i0) v n t u L st h) : (am_Jm p l e R s m args below meth c Q g nL bud) pc u L st h := by
  intro H locs ls hR hS hl hu
  simp only [am_s] at hs
  split at hs
  · rename_i w a r
    unfold am_pF at hs
    split at hs
    · rename_i ci fs hc
      obtain ⟨h0, h1, h2, h3⟩ := hs
      obtain ⟨q, hq, hqc⟩ := List.any_eq_true.mp h0
      have hqc : q.1 = ci := by simpa using hqc
      subst hqc
      obtain ⟨f1, f2, f3⟩ := hf _ hq
      exact am_put hx hb hown hnm ho hts hF2 hR hS hc f1 h1 f3 f2 h2 hd (fun H1 locs1 a1 a2 => hkk _ _ _ _ h3 H1 locs1 ls a1 a2 hl hu)
    · exact hs.elim
  · exact hs.elim
/-- loads from arrays -/
theorem am_x_iaload (hx : p.tables.exec = Jvm.exec) (hb : c.code = cc) (hF2 : am_F2 g s) (hd : decode cc pc = .ok (.iaload, 1)) {k0 : am_K} (hkk : ∀ (u : Nat) (L : am_L) (st : List Value) (h : am_H), k0 u L st h → (am_Jm p l e R s m args below meth c Q g nL bud) (pc + 1) u L st h) (hs : am_s O C (am_Jm p l e R s m args below meth c Q g nL bud) P bud k0 .iaload v n t u L st h) : (am_Jm p l e R s m args below meth c Q g nL bud) pc u L st h := by
  intro H locs ls hR hS hl hu
  simp only [am_s] at hs
  split at hs
  · unfold am_ia at hs
    split at hs
    · rename_i hc
      obtain ⟨rfl, h1, h2⟩ := hs
      exact va_iald hx hb hF2.1 hR.2 _ 0 (am_at hc) rfl h1 hd (hkk _ _ _ _ h2 H locs ls hR hS hl hu)
    · exact hs.elim
  · exact hs.elim
theorem am_x_baload (hn : n = 1 ∨ n = 2) (hx : p.tables.exec = Jvm.exec) (hb : c.code = cc) (hF2 : am_F2 g s) (hd : decode cc pc = .ok (.baload, 1)) {k0 : am_K} (hkk : ∀ (u : Nat) (L : am_L) (st : List Value) (h : am_H), k0 u L st h → (am_Jm p l e R s m args below meth c Q g nL bud) (pc + 1) u L st h) (hs : am_s O C (am_Jm p l e R s m args below meth c Q g nL bud) P bud k0 .baload v n t u L st h) : (am_Jm p l e R s m args below meth c Q g nL bud) pc u L st h := by
  intro H locs ls hR hS hl hu
  simp only [am_s] at hs
  split at hs
  · unfold am_ia at hs
    split at hs
    · rename_i hc
      obtain ⟨rfl, h1, h2⟩ := hs
      rcases hn with rfl | rfl
      · exact va_bald hx hb hF2.1 hR.2 _ 1 (am_at hc) rfl h1 hd (hkk _ _ _ _ h2 H locs ls hR hS hl hu)
      · exact va_zald hx hb hF2.1 hR.2 _ 2 (am_at hc) rfl h1 hd (hkk _ _ _ _ h2 H locs ls hR hS hl hu)
    · exact hs.elim
  · exact hs.elim
theorem am_x_laload (hx : p.tables.exec = Jvm.exec) (hb : c.code = cc) (hF2 : am_F2 g s) (hd : decode cc pc = .ok (.laload, 1)) {k0 : am_K} (hkk : ∀ (u : Nat) (L : am_L) (st : List Value) (h : am_H), k0 u L st h → (am_Jm p l e R s m args below meth c Q g nL bud) (pc + 1) u L st h) (hs : am_s O C (am_Jm p l e R s m args below meth c Q g nL bud) P bud k0 .laload v n t u L st h) : (am_Jm p l e R s m args below meth c Q g nL bud) pc u L st h := by
  intro H locs ls hR hS hl hu
  simp only [am_s] at hs
  split at hs
  · unfold am_la at hs
    split at hs
    · rename_i hc
      obtain ⟨rfl, h1, h2⟩ := hs
      exact va_lald hx hb hF2.1 hR.2 _ 3 (am_at hc) rfl h1 hd (hkk _ _ _ _ h2 H locs ls hR hS hl hu)
    · exact hs.elim
  · exact hs.elim
theorem am_rv_v (r : Option Nat) : am_v g (am_rv r) = va_rf (r.map (g.1 + ·)) := by cases r <;> rfl
theorem am_x_aaload (hx : p.tables.exec = Jvm.exec) (hb : c.code = cc) (hF2 : am_F2 g s) (hd : decode cc pc = .ok (.aaload, 1)) {k0 : am_K} (hkk : ∀ (u : Nat) (L : am_L) (st : List Value) (h : am_H), k0 u L st h → (am_Jm p l e R s m args below meth c Q g nL bud) (pc + 1) u L st h) (hs : am_s O C (am_Jm p l e R s m args below meth c Q g nL bud) P bud k0 .aaload v n t u L st h) : (am_Jm p l e R s m args below meth c Q g nL bud) pc u L st h := by
  intro H locs ls hR hS hl hu
  simp only [am_s] at hs
  split at hs
  · unfold am_aa at hs
    split at hs
    · rename_i hc
      obtain ⟨rfl, h1, h2⟩ := hs
      have hk := hkk _ _ _ _ h2 H locs ls hR hS hl hu
      rw [List.map_cons, am_rv_v] at hk
      exact va_aldq (C := "OverFence$Kick") hx hb hF2.1 hR.2 _ 4 (am_at hc) rfl h1 hd hk
    · exact hs.elim
  · exact hs.elim
theorem am_x_arraylength (hx : p.tables.exec = Jvm.exec) (hb : c.code = cc) (hF2 : am_F2 g s) (hd : decode cc pc = .ok (.arraylength, 1)) {k0 : am_K} (hkk : ∀ (u : Nat) (L : am_L) (st : List Value) (h : am_H), k0 u L st h → (am_Jm p l e R s m args below meth c Q g nL bud) (pc + 1) u L st h) (hs : am_s O C (am_Jm p l e R s m args below meth c Q g nL bud) P bud k0 .arraylength v n t u L st h) : (am_Jm p l e R s m args below meth c Q g nL bud) pc u L st h := by
  intro H locs ls hR hS hl hu
  simp only [am_s] at hs
  split at hs
  · unfold am_al at hs
    split at hs
    · rename_i r a tc k x hc
      have hk := hkk _ _ _ _ hs.2 H locs ls hR hS hl hu
      have ht5 := hs.1
      have hat := am_at (g := g) hc
      have hty' : ∃ ty, (am_ty g)[tc]? = some (g.2.2.1 tc, ty) := by
        match tc, ht5 with
        | 0, _ => exact ⟨_, rfl⟩
        | 1, _ => exact ⟨_, rfl⟩
        | 2, _ => exact ⟨_, rfl⟩
        | 3, _ => exact ⟨_, rfl⟩
        | 4, _ => exact ⟨_, rfl⟩
      obtain ⟨ty, hty'⟩ := hty'
      rcases x with x | x | x | x | x <;> exact va_alen hx hb hF2.1 hR.2 _ tc hat hty' rfl hd hk
    · exact hs.elim
  · exact hs.elim

end AMY
