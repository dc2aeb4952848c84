/-! Copies, switches, returns, calls. -/
theorem am_sw_elim {K : Nat → Prop} {d : Nat} {x : Int32} : ∀ {t : List (Nat × Nat)}, am_sw K d x t → (∃ q ∈ t, x = nI q.1 ∧ K q.2) ∨ ((∀ q ∈ t, ¬ x = nI q.1) ∧ K d)
  | [], h => Or.inr ⟨fun q hq => (by cases hq), h⟩
  | (a, b) :: t, h => by
    by_cases hx : x = nI a
    · exact Or.inl ⟨_, List.mem_cons_self, hx, h.1 hx⟩
    · rcases am_sw_elim (h.2 hx) with ⟨q, q1, q2, q3⟩ | ⟨q1, q2⟩
      · exact Or.inl ⟨q, List.mem_cons_of_mem _ q1, q2, q3⟩
      · refine Or.inr ⟨fun q hq => ?_, q2⟩
        rcases List.mem_cons.mp hq with rfl | hq
        · exact hx
        · exact q1 q hq
theorem am_pop_spec {n : Nat} {st : List Value} {k : List Value → List Value → Prop} (h : am_pop n st k) : ∃ as r, st = as.reverse ++ r ∧ as.length = n ∧ k as r := by
  unfold am_pop at h
  split at h
  · exact ⟨[], _, rfl, rfl, h⟩
  · exact ⟨[_], _, rfl, rfl, h⟩
  · exact ⟨[_, _], _, rfl, rfl, h⟩
  · exact ⟨[_, _, _], _, rfl, rfl, h⟩
  · exact ⟨[_, _, _, _], _, rfl, rfl, h⟩
  · exact ⟨[_, _, _, _, _], _, rfl, rfl, h⟩
  · exact ⟨[_, _, _, _, _, _], _, rfl, rfl, h⟩
  · exact h.elim
theorem am_cat4 (g : am_G) : ∀ l : List Value, ((l.map (am_v g)).map fun v => v.category).sum ≤ 2 * l.length
  | [] => by simp
  | x :: l => by
    have ih := am_cat4 g l
    simp only [List.map_cons, List.sum_cons, List.length_cons]
    rcases lv_cat (am_v g x) with h | h <;> omega
theorem am_nfw : nativeFrameWords "java/lang/System" "arraycopy" 5 ≤ 50 := by decide +kernel
section AMV
variable {p : Program} {l : Launch} {e : Env} {R : Room} {s : State} {m : MethodId} {args : Array Value} {below : List Frame} {meth : Method} {c : Code} {Q : State → Prop} {g : am_G} {O : am_O} {cc : ByteArray} {nL bud pc : Nat} {C : am_C} {P : am_P} {v : Value} {n : Nat} {t : List (Nat × Nat)} {u : Nat} {L : am_L} {st : List Value} {h : am_H} {own : String}

theorem am_x_copy {idx : Nat} (hn : n = 0 ∨ n = 1) (hx : p.tables.exec = Jvm.exec) (hb : c.code = cc) (hml : c.maxLocals = nL) (hown : s.vm.findClass own = some m.cls) (hF2 : am_F2 g s) (hlink : (Cond.methodLink own idx arraycopyName).before args s = true) (hnat : (Cond.native arraycopyName).before args s = true) (hstat : (Cond.static arraycopyName).before args s = true) (hini : (Cond.initialized "java/lang/System").before args s = true)
    (hRf : 1 ≤ R.frames) (hRl : 80 ≤ R.locals) (hd : decode cc pc = .ok (.invokestatic idx, 3)) {k0 : am_K} (hkk : ∀ (u : Nat) (L : am_L) (st : List Value) (h : am_H), k0 u L st h → (am_Jm p l e R s m args below meth c Q g nL bud) (pc + 3) u L st h) (hs : am_s O C (am_Jm p l e R s m args below meth c Q g nL bud) P bud k0 .monitorenter v n t u L st h) : (am_Jm p l e R s m args below meth c Q g nL bud) pc u L st h := by
  intro H locs ls hR hS hl hu
  simp only [am_s] at hs
  split at hs
  · rename_i z dp d sp a r
    obtain ⟨hr4, hs⟩ := hs
    unfold am_cp at hs
    split at hs
    · rename_i t0 n0 f t1 n1 f' hc0 hc1
      obtain ⟨rfl, rfl, h1, h2, h3, h4, h5, h6, h7⟩ := hs
      have hcat := am_cat4 g r
      have nn : ∀ z : Int32, ¬ z < 0 → z.toInt = (z.toNatClampNeg : Int) := by
        intro z hz
        have hz0 : (0 : Int) ≤ z.toInt := by
          have := Int32.not_lt.mp hz
          simpa using Int32.le_iff_toInt_le.mp this
        show z.toInt = ((z.toInt.toNat : Nat) : Int)
        omega
      have hty : ∃ ty, (am_ty g)[t1]? = some (g.2.2.1 t1, ty) ∧ refKind ty = false ∧ ∀ i, i < z.toNatClampNeg → fits ty (.int (f (sp.toNatClampNeg + i))) = true := by
        rcases hn with rfl | rfl
        · exact ⟨.int, rfl, rfl, fun i hi => rfl⟩
        · exact ⟨.byte, rfl, rfl, h6 rfl⟩
      obtain ⟨ty, ht0, hprim, hfit⟩ := hty
      intro T hT X
      have e0 : H[g.1 + a]? = some (vp_cell (g.2.2.1 t1) (n0, .inl f)) := hR.2 a _ (am_at hc0)
      have e1' : H[g.1 + d]? = some (vp_cell (g.2.2.1 t1) (n1, .inl f')) := hR.2 d _ (am_at hc1)
      obtain ⟨-, k0, hk0, cm0, hkk0⟩ := (hF2.1.2 t1 _ ht0).1 n0 (fun j => .int (f j))
      obtain ⟨vm', X', step⟩ := X.arraycopy hx hown hlink hnat hstat hini (src := g.1 + a) (dst := g.1 + d) (cs := vp_cell (g.2.2.1 t1) (n0, .inl f)) (cd := vp_cell (g.2.2.1 t1) (n1, .inl f')) (srcPos := sp) (destPos := dp) (n := z) (by rw [hT]; exact e0) (by rw [hT]; exact e1')
        (fun _ h => by cases h) (fun _ h => by cases h) (fun h => by cases h) (fun h => by cases h) hk0 hk0 hkk0 hkk0 (by simp [hprim]) h1 h2 h3
        (by rw [nn sp h1, nn z h3]; show ¬ _ > ((arrV (g.2.2.1 t1) n0 (fun j => .int (f j))).slots.size : Int); rw [arrV_size]; omega)
        (by rw [nn dp h2, nn z h3]; show ¬ _ > ((arrV (g.2.2.1 t1) n1 (fun j => .int (f' j))).slots.size : Int); rw [arrV_size]; omega)
        (fun vm₁ _ i hi => by
          have e : (vp_cell (g.2.2.1 t1) (n0, .inl f)).slots.getD (sp.toNatClampNeg + i) .null = .int (f (sp.toNatClampNeg + i)) := by
            show (arrV (g.2.2.1 t1) n0 (fun j => .int (f j))).slots.getD _ _ = _
            rw [Array.getD_eq_getD_getElem?, arrV_read _ _ (by omega)]
            rfl
          refine ⟨?_, ?_⟩
          · rw [e]
            exact hfit i hi
          · rw [e]
            exact trivial)
        (g := F0 m pc ls (.int z :: .int dp :: .ref (g.1 + d) :: .int sp :: .ref (g.1 + a) :: r.map (am_v g))) rfl (by rw [hml]; exact hl.1) (rest := r.map (am_v g)) rfl (by rw [hb]; exact hd) hRf (by show 2 * 0 + _ + (nativeFrameWords "java/lang/System" "arraycopy" 5 + 11) ≤ _; have := am_nfw; omega)
      have e1 : copied (vp_cell (g.2.2.1 t1) (n0, .inl f)) (vp_cell (g.2.2.1 t1) (n1, .inl f')) sp dp z = vp_cell (g.2.2.1 t1) (n1, .inl (va_cpy f f' sp.toNatClampNeg dp.toNatClampNeg z.toNatClampNeg)) := va_copied (fun z => .int z) (g.2.2.1 t1) (g.2.2.1 t1) f f' h4
      rw [e1] at X' step
      have hlt : g.1 + d < H.size := (Array.getElem?_eq_some_iff.mp e1').1
      have hheap : ((T.setVm vm').setCell (g.1 + d) (vp_cell (g.2.2.1 t1) (n1, .inl (va_cpy f f' sp.toNatClampNeg dp.toNatClampNeg z.toNatClampNeg)))).heap = H.setIfInBounds (g.1 + d) (vp_cell (g.2.2.1 t1) (n1, .inl (va_cpy f f' sp.toNatClampNeg dp.toNatClampNeg z.toNatClampNeg))) := by rw [← hT]; rfl
      have oq : ∀ q : Nat, q ≠ g.1 + d → (H.setIfInBounds (g.1 + d) (vp_cell (g.2.2.1 t1) (n1, .inl (va_cpy f f' sp.toNatClampNeg dp.toNatClampNeg z.toNatClampNeg))))[q]? = H[q]? := fun q hq => by simp [Array.getElem?_setIfInBounds, Ne.symm hq]
      obtain ⟨f1, f2⟩ := am_R.set (k := 0) (c' := .inl (t1, n1, .inl (va_cpy f f' sp.toNatClampNeg dp.toNatClampNeg z.toNatClampNeg))) hR hS hc1 (show (H.setIfInBounds (g.1 + d) _)[g.1 + d]? = some _ by simp [Array.getElem?_setIfInBounds, hlt]) (by simp) oq
      obtain ⟨tt, b1, b2⟩ := hkk _ _ _ _ h7 _ _ ls f1 ⟨f2.1, f2.2.1, fun q hq => by
          rcases List.mem_append.mp hq with h | h
          · exact hS.2.2 q h
          · obtain ⟨z, -, hz⟩ := List.mem_map.mp h
            rw [← hz]
            exact Nat.le_add_right _ _⟩ hl hu _ hheap X'
      exact ⟨tt, step tt b1, b2⟩
    · exact hs.elim
  · exact hs.elim
/-- a switch by a table -/
def am_ts (pc n : Nat) (dflt lo hi : Int) (offs : Array Int) (t : List (Nat × Nat)) : Prop := (pc : Int) + dflt = (n : Int) ∧ lo + (t.length : Int) = hi + 1 ∧ ∀ i : Nat, i < t.length → ∃ q off, t[i]? = some q ∧ (q.1 : Int) = lo + (i : Int) ∧ q.1 < 2 ^ 31 ∧ offs[i]? = some off ∧ (pc : Int) + off = (q.2 : Int)
theorem am_x_table {k : am_K} {d0 : Int} {a0 : Array (Int × Int)} {dflt lo hi : Int} {offs : Array Int} {len : Nat} (hx : p.tables.exec = Jvm.exec) (hb : c.code = cc) (ht : am_ts pc n dflt lo hi offs t) (hd : decode cc pc = .ok (.tableswitch dflt lo hi offs, len)) (hs : am_s O C (am_Jm p l e R s m args below meth c Q g nL bud) P bud k (.lookupswitch d0 a0) v n t u L st h) : (am_Jm p l e R s m args below meth c Q g nL bud) pc u L st h := by
  intro H locs ls hR hS hl hu
  simp only [am_s] at hs
  split at hs
  · rename_i x r
    obtain ⟨t1, t2, t3⟩ := ht
    rcases am_sw_elim hs with ⟨q, hq, hxq, hk⟩ | ⟨hq, hk⟩
    · obtain ⟨i, hi'⟩ := List.getElem?_of_mem hq
      have hil : i < t.length := (List.getElem?_eq_some_iff.mp hi').1
      obtain ⟨q', off, e1, e2, e3, e4, e5⟩ := t3 i hil
      cases hi'.symm.trans e1
      have hxi : x.toInt = (q.1 : Int) := by rw [hxq, nI_toInt e3]
      exact lv_tableIn hx hb hd (by omega) (by omega) (off := off) (by rw [show (x.toInt - lo).toNat = i by omega]; exact e4) e5 (hk H locs ls hR hS hl hu)
    · refine lv_tableOut hx hb hd ?_ t1 (hk H locs ls hR hS hl hu)
      by_cases h1 : x.toInt < lo
      · exact Or.inl h1
      · by_cases h2 : hi < x.toInt
        · exact Or.inr h2
        · have hil : (x.toInt - lo).toNat < t.length := by omega
          obtain ⟨q', off, e1, e2, e3, e4, e5⟩ := t3 _ hil
          refine absurd ?_ (hq q' (List.mem_of_getElem? e1))
          apply Int32.toInt_inj.mp
          rw [nI_toInt e3]
          omega
  · exact hs.elim
/-- a switch by pairs -/
def am_lk (pc n : Nat) (dflt : Int) (ps : Array (Int × Int)) (t : List (Nat × Nat)) : Prop := (pc : Int) + dflt = (n : Int) ∧ (ps.toList.zip (ps.toList.drop 1)).all (fun (a, next) => a.1 < next.1) = true ∧ (∀ q ∈ t, q.1 < 2 ^ 31 ∧ (pc : Int) + Op.lookupswitch.offset ps.toList dflt (q.1 : Int) = (q.2 : Int)) ∧ ∀ r ∈ ps.toList, ∃ q ∈ t, (q.1 : Int) = r.1
theorem am_off {ps : List (Int × Int)} {d k : Int} (h : ∀ r ∈ ps, ¬ r.1 = k) : Op.lookupswitch.offset ps d k = d := by
  induction ps with
  | nil => rfl
  | cons r ps ih =>
    obtain ⟨a, o⟩ := r
    rw [Op.lookupswitch.offset_cons, if_neg (h (a, o) List.mem_cons_self)]
    exact ih fun r hr => h r (List.mem_cons_of_mem _ hr)
theorem am_x_lookup {k : am_K} {d0 : Int} {a0 : Array (Int × Int)} {dflt : Int} {ps : Array (Int × Int)} {len : Nat} (hx : p.tables.exec = Jvm.exec) (hb : c.code = cc) (ht : am_lk pc n dflt ps t) (hd : decode cc pc = .ok (.lookupswitch dflt ps, len)) (hs : am_s O C (am_Jm p l e R s m args below meth c Q g nL bud) P bud k (.lookupswitch d0 a0) v n t u L st h) : (am_Jm p l e R s m args below meth c Q g nL bud) pc u L st h := by
  intro H locs ls hR hS hl hu
  simp only [am_s] at hs
  split at hs
  · rename_i x r
    obtain ⟨t1, t2, t3, t4⟩ := ht
    rcases am_sw_elim hs with ⟨q, hq, hxq, hk⟩ | ⟨hq, hk⟩
    · obtain ⟨e1, e2⟩ := t3 q hq
      exact lv_lookup hx hb hd t2 (off := Op.lookupswitch.offset ps.toList dflt (q.1 : Int)) (by rw [hxq, nI_toInt e1]) e2 (hk H locs ls hR hS hl hu)
    · refine lv_lookup hx hb hd t2 (off := dflt) (am_off fun r' hr => ?_) t1 (hk H locs ls hR hS hl hu)
      intro e
      obtain ⟨q, q1, q2⟩ := t4 r' hr
      refine hq q q1 (Int32.toInt_inj.mp ?_)
      rw [nI_toInt (t3 q q1).1, q2, e]
  · exact hs.elim
/-- the real return that fits an answer -/
def am_rk (cc : ByteArray) (ret : Option FieldType) (pc : Nat) (r : Option Value) : Prop := match r with
  | none => decode cc pc = .ok (.return_, 1) ∧ ret = none
  | some (.int x) => decode cc pc = .ok (.ireturn, 1) ∧ ∃ ty, ret = some ty ∧ narrow ty (.int x) = .int x
  | some (.long _) => decode cc pc = .ok (.lreturn, 1) ∧ ret = some .long
  | some (.ref _) => decode cc pc = .ok (.areturn, 1) ∧ ∃ k, ret = some (.object k)
  | some .null => decode cc pc = .ok (.areturn, 1) ∧ ∃ k, ret = some (.object k)
  | _ => False
def am_rt (p : Program) (l : Launch) (e : Env) (R : Room) (s : State) (m : MethodId) (args : Array Value) (below : List Frame) (meth : Method) (c : Code) (Q : State → Prop) (g : am_G) (cc : ByteArray) (ret : Option FieldType) (bud : Nat) (P : am_P) : Prop := ∀ (u : Nat) (h : am_H) (r : Option Value) (H : Heap) (locs : List Loc) (ls : Array Slot) (pc : Nat), u ≤ bud → P r h → am_R g h H → va_S (am_A0 g) s.heap H locs → am_rk cc ret pc r → W p l e R s m args below meth c H locs u (2200 * u) Q (F0 m pc ls (r.map (am_v g)).toList)
/-- a method's own end -/
theorem am_rt_met (hx : p.tables.exec = Jvm.exec) (hb : c.code = cc) {ret : Option FieldType} (hr : meth.sig.returnType = ret) (hlocks : meth.locks = false) : am_rt p l e R s m args below meth c (MQ below (am_Q g P) args s bud (2200 * bud) (am_A0 g)) g cc ret bud P := by
  intro u h r H locs ls pc hu hP hR hS hk
  refine W.widen (k := bud) (n := 2200 * bud) hu (by omega) ?_
  have fin : ∀ tt : State, tt.heap = H → s.WarmedH tt.vm → am_Q g P args s (.returned (r.map (am_v g))) tt := fun tt ht _ => ⟨r, h, rfl, hP, by rw [ht]; exact hR, hS.F ht⟩
  unfold am_rk at hk
  split at hk
  · exact W.vret hx hb (hr.trans hk.2) fin hS.2.2 hk.1
  · obtain ⟨hd, ty, h1, h2⟩ := hk
    exact W.zret hx hb (hr.trans h1) h2 fin hS.2.2 hd
  · exact W.lret hx hb (hr.trans hk.2) fin hS.2.2 hk.1
  · obtain ⟨hd, k, h1⟩ := hk
    exact W.aret hx hb (hr.trans h1) (Or.inl ⟨_, rfl⟩) (Or.inr ⟨_, rfl⟩) fin hS.2.2 hd
  · obtain ⟨hd, k, h1⟩ := hk
    exact W.aret hx hb (hr.trans h1) (Or.inl ⟨_, rfl⟩) (Or.inl rfl) fin hS.2.2 hd
  · exact hk.elim
theorem am_x_ireturn {k : am_K} {ret : Option FieldType} (hrt : am_rt p l e R s m args below meth c Q g cc ret bud P) (hr : ret = some .int) (hd : decode cc pc = .ok (.ireturn, 1)) (hs : am_s O C (am_Jm p l e R s m args below meth c Q g nL bud) P bud k .ireturn v n t u L st h) : (am_Jm p l e R s m args below meth c Q g nL bud) pc u L st h := by
  intro H locs ls hR hS hl hu
  simp only [am_s] at hs
  split at hs
  · exact hrt u h _ H locs ls pc hu hs hR hS ⟨hd, _, hr, rfl⟩
  · exact hs.elim
theorem am_x_zreturn {k : am_K} {ret : Option FieldType} (hrt : am_rt p l e R s m args below meth c Q g cc ret bud P) (hr : ret = some .boolean) (hd : decode cc pc = .ok (.ireturn, 1)) (hs : am_s O C (am_Jm p l e R s m args below meth c Q g nL bud) P bud k .freturn v n t u L st h) : (am_Jm p l e R s m args below meth c Q g nL bud) pc u L st h := by
  intro H locs ls hR hS hl hu
  simp only [am_s] at hs
  split at hs
  · refine hrt u h _ H locs ls pc hu hs.2 hR hS ⟨hd, _, hr, ?_⟩
    rcases hs.1 with rfl | rfl <;> decide +kernel
  · exact hs.elim
theorem am_x_creturn {k : am_K} {ret : Option FieldType} (hrt : am_rt p l e R s m args below meth c Q g cc ret bud P) (hr : n = 0 ∧ ret = some .byte ∨ n ≠ 0 ∧ ret = some .char) (hd : decode cc pc = .ok (.ireturn, 1)) (hs : am_s O C (am_Jm p l e R s m args below meth c Q g nL bud) P bud k .dreturn v n t u L st h) : (am_Jm p l e R s m args below meth c Q g nL bud) pc u L st h := by
  intro H locs ls hR hS hl hu
  simp only [am_s] at hs
  split at hs
  · obtain ⟨h1, h2⟩ := hs
    rcases hr with ⟨hn, hr⟩ | ⟨hn, hr⟩
    · rw [if_pos hn] at h1
      exact hrt u h _ H locs ls pc hu h2 hR hS ⟨hd, _, hr, h1⟩
    · rw [if_neg hn] at h1
      exact hrt u h _ H locs ls pc hu h2 hR hS ⟨hd, _, hr, h1⟩
  · exact hs.elim
theorem am_x_lreturn {k : am_K} {ret : Option FieldType} (hrt : am_rt p l e R s m args below meth c Q g cc ret bud P) (hr : ret = some .long) (hd : decode cc pc = .ok (.lreturn, 1)) (hs : am_s O C (am_Jm p l e R s m args below meth c Q g nL bud) P bud k .lreturn v n t u L st h) : (am_Jm p l e R s m args below meth c Q g nL bud) pc u L st h := by
  intro H locs ls hR hS hl hu
  simp only [am_s] at hs
  split at hs
  · exact hrt u h _ H locs ls pc hu hs hR hS ⟨hd, hr⟩
  · exact hs.elim
theorem am_x_areturn {k : am_K} {ret : Option FieldType} {nm : String} (hrt : am_rt p l e R s m args below meth c Q g cc ret bud P) (hr : ret = some (.object nm)) (hd : decode cc pc = .ok (.areturn, 1)) (hs : am_s O C (am_Jm p l e R s m args below meth c Q g nL bud) P bud k .areturn v n t u L st h) : (am_Jm p l e R s m args below meth c Q g nL bud) pc u L st h := by
  intro H locs ls hR hS hl hu
  simp only [am_s] at hs
  split at hs
  · exact hrt u h _ H locs ls pc hu hs hR hS ⟨hd, _, hr⟩
  · exact hrt u h _ H locs ls pc hu hs hR hS ⟨hd, _, hr⟩
  · exact hs.elim
theorem am_x_return {k : am_K} {ret : Option FieldType} (hrt : am_rt p l e R s m args below meth c Q g cc ret bud P) (hr : ret = none) (hd : decode cc pc = .ok (.return_, 1)) (hs : am_s O C (am_Jm p l e R s m args below meth c Q g nL bud) P bud k .return_ v n t u L st h) : (am_Jm p l e R s m args below meth c Q g nL bud) pc u L st h := by
  intro H locs ls hR hS hl hu
  simp only [am_s] at hs
  split at hs
  · exact hrt u h _ H locs ls pc hu hs hR hS ⟨hd, hr⟩
  · exact hs.elim
/-- Object's constructor -/
theorem am_x_objinit {idx : Nat} (hx : p.tables.exec = Jvm.exec) (hb : c.code = cc) (hml : c.maxLocals = nL) (hown : s.vm.findClass own = some m.cls) (hw1 : (Cond.methodLink own idx objectInit).before args s = true) (hw2 : (Cond.instanceMethod objectInit).before args s = true) (hw3 : (Cond.code objectInit ⟨#[0xb1]⟩ 1 none).before args s = true) (hRf : 1 ≤ R.frames) (hRl : 80 ≤ R.locals) (hd : decode cc pc = .ok (.invokespecial idx, 3)) {k0 : am_K} (hkk : ∀ (u : Nat) (L : am_L) (st : List Value) (h : am_H), k0 u L st h → (am_Jm p l e R s m args below meth c Q g nL bud) (pc + 3) u L st h) (hs : am_s O C (am_Jm p l e R s m args below meth c Q g nL bud) P bud k0 .pop2 v n t u L st h) : (am_Jm p l e R s m args below meth c Q g nL bud) pc u L st h := by
  intro H locs ls hR hS hl hu
  simp only [am_s] at hs
  split at hs
  · rename_i a r
    have hcat := am_cat4 g r
    refine W.objInit hx hb hown hw1 hw2 hw3 rfl (by rw [hml]; exact hl.1) rfl hd hRf (by show 2 * 0 + _ + 12 ≤ _; have := hs.1; omega) ?_
    exact hkk _ _ _ _ hs.2 H locs ls hR hS hl hu
  · exact hs.elim

end AMV
