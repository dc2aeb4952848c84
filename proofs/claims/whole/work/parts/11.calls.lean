/-! Calls. -/
/-- a method: its name, its bytes, what it returns -/
abbrev am_D : Type := Nat → MethodName × ByteArray × Option FieldType
def am_ws (md : am_D) (pg : Nat → am_M) (i : Nat) : List Cond := Cond.code (md i).1 (md i).2.1 (pg i).1 (md i).2.2 :: am_tb
def am_rm (d b : Nat) : Room := { frames := d, cells := b, slots := 2200 * b, locals := 80 * d }
/-- what a callee's contract says -/
def am_met (l : Launch) (g : am_G) (O : am_O) (md : am_D) (pg : Nat → am_M) (d : Nat) (C : am_C) : Prop := ∀ (i : Nat) (as : List Value) (h : am_H) (P : am_P), C i as h P → Met l (md i).1 (am_ws md pg i) (am_rm d (pg i).2.1) (am_Pc g O as h) (am_Q g P) (pg i).2.1 (2200 * (pg i).2.1) (am_A0 g)
/-- what the tables say of a method -/
def am_mk (md : am_D) (pg : Nat → am_M) (i : Nat) : Prop := Cond.code (md i).1 (md i).2.1 (pg i).1 (md i).2.2 ∈ am_tb ∧ Cond.initialized (md i).1.cls ∈ am_tb ∧ ((md i).1.cls ≠ "java/lang/invoke/MethodHandle" ∧ (md i).1.cls ≠ "java/lang/invoke/VarHandle") ∧ (pg i).1 ≤ 60
theorem am_good {w : Cond} (h : w ∈ am_tb) : (w.onTables && w.keeps) = true ∨ ∃ ty, w = .arrayClass ty := good_of_word (List.mem_filter.mp h).2
theorem am_ws_good {md : am_D} {pg : Nat → am_M} {i : Nat} (hk : am_mk md pg i) : GoodIn am_tb (am_ws md pg i) := by
  intro w hw
  rcases List.mem_cons.mp hw with rfl | hw
  · exact ⟨hk.1, am_good hk.1⟩
  · exact ⟨hw, am_good hw⟩
theorem am_good_app {a b : List Cond} (ha : ∀ w ∈ a, w ∈ am_tb) (hb : GoodIn am_tb b) : GoodIn am_tb (a ++ b) := fun w h => (List.mem_append.mp h).elim (fun h => ⟨ha w h, am_good (ha w h)⟩) (hb w)
section AMC
variable {p : Program} {l : Launch} {e : Env} {R : Room} {s : State} {m : MethodId} {args : Array Value} {below : List Frame} {meth : Method} {c : Code} {Q : State → Prop} {g : am_G} {O : am_O} {cc : ByteArray} {nL bud pc : Nat} {C : am_C} {P : am_P} {v : Value} {n : Nat} {t : List (Nat × Nat)} {u : Nat} {L : am_L} {st : List Value} {h : am_H} {own : String} {md : am_D} {pg : Nat → am_M} {d : Nat}
theorem am_call_go {b : Nat} {P' : am_P} {a : Array Value} {ls : Array Slot} {st0 rest : List Value} {H : Heap} {locs : List Loc} (hr : va_Run p l e R s m args below meth c H locs u (2200 * u) b (2200 * b) (F0 m pc ls st0) rest (am_Q g P' a) (am_A0 g)) (hS : va_S (am_A0 g) s.heap H locs)
    (kk : ∀ (r : Option Value) (h' : am_H) (H1 : Heap) (locs1 : List Loc), P' r h' → am_R g h' H1 → va_S (am_A0 g) s.heap H1 locs1 → W p l e R s m args below meth c H1 locs1 (u + b) (2200 * (u + b)) Q (F0 m (pc + 3) ls ((r.map (am_v g)).toList ++ rest))) : W p l e R s m args below meth c H locs u (2200 * u) Q (F0 m pc ls st0) := by
  intro T hT X
  obtain ⟨v, st₀, t, T', L, h0, X', hL, e1, e2, ⟨r, h', hv, hp, hR', hz, hk⟩, st⟩ := hr T hT X
  cases hv
  rw [h0] at hz hk
  rw [← Nat.mul_add] at X'
  obtain ⟨t2, a1, b1⟩ := kk r h' T'.heap (locs ++ L) hp (by rw [e1]; exact hR')
    ⟨Nat.le_trans hS.1 (by rw [e1]; exact hz), fun q h1 h2 => by rw [e1, hk q (Nat.lt_of_lt_of_le h1 hS.1) h2]; exact hS.2.1 q h1 h2, fun q hq => by
      rcases List.mem_append.mp hq with h | h
      · exact hS.2.2 q h
      · exact hL q h⟩ T' rfl X'
  exact ⟨t2, st t2 a1, b1⟩
theorem am_kont {b i : Nat} {r : List Value} {H : Heap} {locs : List Loc} {ls : Array Slot} {st0 : List Value} {a : Array Value} {k : am_K} (hkk : ∀ (u : Nat) (L : am_L) (st : List Value) (h : am_H), k u L st h → (am_Jm p l e R s m args below meth c Q g nL bud) (pc + 3) u L st h) (hl : am_lr g ls nL L) (hb : b = (pg i).2.1) (hc : u + b ≤ bud) (hS : va_S (am_A0 g) s.heap H locs) (hr : va_Run p l e R s m args below meth c H locs u (2200 * u) (pg i).2.1 (2200 * (pg i).2.1) (F0 m pc ls st0) (r.map (am_v g)) (am_Q g (fun x h' => k (u + b) L (x.toList ++ r) h') a) (am_A0 g)) : W p l e R s m args below meth c H locs u (2200 * u) Q (F0 m pc ls st0) := by
  subst hb
  refine am_call_go hr hS fun x h' H1 locs1 h1 h2 h3 => ?_
  have hk := hkk _ _ _ _ h1 H1 locs1 ls h2 h3 hl hc
  rw [List.map_append] at hk
  cases x <;> exact hk
theorem am_preS {as : List Value} {H : Heap} {locs : List Loc} (hR : am_R g h H) (hS : va_S (am_A0 g) s.heap H locs) (hF1 : am_F1 g O s s.heap) (hF2 : am_F2 g s) : PreS s H (am_Pc g O as h) (as.map (am_v g)) := ⟨am_blind g O as h, fun U hU hW => am_Pc_at hR hS hF1 hF2 hU hW⟩
theorem am_w8 {r : List Value} {ls : Array Slot} {st0 : List Value} (hr : r.length ≤ 4) : 2 * (F0 m pc ls st0).monitorRoom + ((r.map (am_v g)).map fun v => v.category).sum ≤ 8 := lv_room (by have := am_cat4 g r; omega)
theorem am_roomOK {i : Nat} (hM : am_mk md pg i) (hRf : d + 1 ≤ R.frames) (hRl : 80 * (d + 1) ≤ R.locals) : (am_rm d (pg i).2.1).frames + 1 ≤ R.frames ∧ 8 + ((pg i).1 + 11) + (am_rm d (pg i).2.1).locals ≤ R.locals := ⟨hRf, by show 8 + ((pg i).1 + 11) + 80 * d ≤ _; have := hM.2.2.2; omega⟩
/-- a static method -/
theorem am_x_static {i0 idx i : Nat} {b : Nat} (hx : p.tables.exec = Jvm.exec) (hb : c.code = cc) (hml : c.maxLocals = nL) (hown : s.vm.findClass own = some m.cls) (hts : ∀ w ∈ am_tb, w.before args s = true) (hF1 : am_F1 g O s s.heap) (hF2 : am_F2 g s) (hRc : bud ≤ R.cells) (hRs : 2200 * bud ≤ R.slots) (hRf : d + 1 ≤ R.frames) (hRl : 80 * (d + 1) ≤ R.locals) (hC : am_met l g O md pg d C) (hM : am_mk md pg i) (ht : t = [(i0, i)]) (hv : v = .retAddr b) (hbu : b = (pg i).2.1)
    (hw1 : Cond.methodLink own idx (md i).1 ∈ am_tb) (hw2 : Cond.static (md i).1 ∈ am_tb) (hnp : (parseMethodDescriptor (md i).1.desc).map (fun d => d.parameters.length) = some n) {i1 : Nat} (hd : decode cc pc = .ok (.invokestatic idx, 3)) {k0 : am_K} (hkk : ∀ (u : Nat) (L : am_L) (st : List Value) (h : am_H), k0 u L st h → (am_Jm p l e R s m args below meth c Q g nL bud) (pc + 3) u L st h) (hs : am_s O C (am_Jm p l e R s m args below meth c Q g nL bud) P bud k0 (.invokestatic i1) v n t u L st h) : (am_Jm p l e R s m args below meth c Q g nL bud) pc u L st h := by
  subst ht; subst hv
  intro H locs ls hR hS hl hu
  simp only [am_s] at hs
  obtain ⟨as, r, rfl, hn, h1, h2, h3⟩ := am_pop_spec hs
  have hcw := va_cwS (R := R) (rm := am_rm d (pg i).2.1) (mc := (pg i).2.1) (ms := 2200 * (pg i).2.1) (Ts := am_tb) (ws := am_ws md pg i) (own := own) (index := idx) n hts (am_good_app (by
    intro w hw
    simp only [List.mem_cons, List.not_mem_nil, or_false] at hw
    rcases hw with rfl | rfl | rfl
    · exact hw1
    · exact hw2
    · exact hM.2.1) (am_ws_good hM)) rfl rfl rfl ⟨hM.2.2.1.1, hM.2.2.1.2, hnp⟩ (am_roomOK hM hRf hRl)
  have hrun := va_runS (e := e) (below := below) (meth := meth) (locs := locs) (cells := u) (slots := 2200 * u) (g := F0 m pc ls ((as.reverse ++ r).map (am_v g))) (rest := r.map (am_v g)) (As := as.map (am_v g)) ⟨hx, hb, hml, hown, hts⟩ (hC i as h _ h3) hcw (am_preS hR hS hF1 hF2) rfl (by rw [List.length_map]; exact hn) hl.1 (by show List.map _ _ = _; rw [List.map_append, List.map_reverse]) (am_w8 h2) hd ⟨by omega, by omega⟩
  exact am_kont hkk hl hbu h1 hS hrun
/-- a constructor -/
theorem am_x_init {i0 idx i : Nat} {b : Nat} (hx : p.tables.exec = Jvm.exec) (hb : c.code = cc) (hml : c.maxLocals = nL) (hown : s.vm.findClass own = some m.cls) (hts : ∀ w ∈ am_tb, w.before args s = true) (hF1 : am_F1 g O s s.heap) (hF2 : am_F2 g s) (hRc : bud ≤ R.cells) (hRs : 2200 * bud ≤ R.slots) (hRf : d + 1 ≤ R.frames) (hRl : 80 * (d + 1) ≤ R.locals) (hC : am_met l g O md pg d C) (hM : am_mk md pg i) (ht : t = [(i0, i)]) (hv : v = .retAddr b) (hbu : b = (pg i).2.1)
    (hw1 : Cond.methodLink own idx (md i).1 ∈ am_tb ∨ ∃ host, Cond.methodLinkNest own idx (md i).1 host ∈ am_nm) (hw2 : Cond.instanceMethod (md i).1 ∈ am_tb) (hret : (md i).2.2 = none) (hnm : (md i).1.name = "<init>") {k : Nat} (hnk : n = k + 1) (hnp : (parseMethodDescriptor (md i).1.desc).map (fun d => d.parameters.length) = some k) {i1 : Nat} (hd : decode cc pc = .ok (.invokespecial idx, 3)) {k0 : am_K} (hkk : ∀ (u : Nat) (L : am_L) (st : List Value) (h : am_H), k0 u L st h → (am_Jm p l e R s m args below meth c Q g nL bud) (pc + 3) u L st h) (hs : am_s O C (am_Jm p l e R s m args below meth c Q g nL bud) P bud k0 (.invokespecial i1) v n t u L st h) : (am_Jm p l e R s m args below meth c Q g nL bud) pc u L st h := by
  subst ht; subst hv
  intro H locs ls hR hS hl hu
  simp only [am_s] at hs
  obtain ⟨as, r, hst0, hn, hs'⟩ := am_pop_spec hs
  clear hs
  subst hst0
  revert hs'
  intro hs
  split at hs
  · rename_i a as
    split at hs
    case h_2 => exact hs.elim
    rename_i hc ht
    cases ht
    obtain ⟨h1, h2, h3⟩ := hs
    have hR0 := am_roomOK (R := R) hM hRf hRl
    have hst : ((Value.ref a :: as).reverse ++ r).map (am_v g) = (as.map (am_v g)).reverse ++ .ref (g.1 + a) :: r.map (am_v g) := by
      rw [List.reverse_cons, List.map_append, List.map_append, List.map_reverse, List.append_assoc]; rfl
    have hws : am_ws md pg i = Cond.code (md i).1 (md i).2.1 (pg i).1 none :: am_tb := by rw [← hret]; rfl
    have hlen : (as.map (am_v g)).length = k := by rw [List.length_map]; simp at hn; omega
    rcases hw1 with hw1 | ⟨host, hw1⟩
    · have hrun := va_runI (e := e) (below := below) (meth := meth) (locs := locs) (cells := u) (slots := 2200 * u) (b := g.1 + a) (g := F0 m pc ls (((Value.ref a :: as).reverse ++ r).map (am_v g))) (rest := r.map (am_v g)) (As := as.map (am_v g)) (R := R) ⟨hx, hb, hml, hown, hts⟩ (hC i _ h _ h3) (cwI (own := own) (index := idx) k hts (am_ws_good hM) hws rfl rfl (hts _ hM.2.1) (hts _ hw1) (hts _ hw2) hnm ⟨hM.2.2.1.1, hM.2.2.1.2, hnp⟩ hR0) (am_preS hR hS hF1 hF2) rfl hlen hl.1 hst (am_w8 h2) hd ⟨by omega, by omega⟩
      exact am_kont hkk hl hbu h1 hS hrun
    · have hrun := va_runIN (e := e) (below := below) (meth := meth) (locs := locs) (cells := u) (slots := 2200 * u) (b := g.1 + a) (g := F0 m pc ls (((Value.ref a :: as).reverse ++ r).map (am_v g))) (rest := r.map (am_v g)) (As := as.map (am_v g)) (R := R) ⟨hx, hb, hml, hown, hts⟩ (hC i _ h _ h3) ⟨va_cnB (own := own) (index := idx) k hts (am_ws_good hM) hws rfl rfl (hF2.2.2.1 _ hw1) (hts _ hM.2.1) ⟨hM.2.2.1.1, hM.2.2.1.2, hnp⟩ hR0, hnm, hts _ hw2⟩ (am_preS hR hS hF1 hF2) rfl hlen hl.1 hst (am_w8 h2) hd ⟨by omega, by omega⟩
      exact am_kont hkk hl hbu h1 hS hrun
  · exact hs.elim
theorem am_sub1 {vm : Vm} {a b : ClassId} {k : Class} (h1 : vm.classes[a]? = some k) (h2 : k.super = some b) : vm.isSubclass a b = true := by
  have hlt : a < vm.classes.size := (Array.getElem?_eq_some_iff.mp h1).1
  obtain ⟨n, hn⟩ := Nat.exists_eq_succ_of_ne_zero (Nat.ne_of_gt (Nat.lt_of_le_of_lt (Nat.zero_le _) hlt))
  simp [Vm.isSubclass, Vm.isSubclassAux, hn, h1, h2]
/-- super.m(..): the direct superclass x.cls has it, or its own superclass -/
theorem am_callSU {T : State} {locs : List Loc} {cells slots : Nat} (X : Stand p l e R s m args below meth c T locs cells slots) (hexec : p.tables.exec = Jvm.exec) {index : Nat} {x y : MethodName} {bytes : ByteArray} {maxL : Nat} {ret : Option FieldType}
    (hown : s.vm.findClass own = some m.cls) (hlink : (Cond.methodLink own index x).before args s = true) (hsame : (Cond.sameMethod x.cls y.cls y.name y.desc).before args s = true) (hxn : x.name = y.name) (hxd : x.desc = y.desc) (hsup : (Cond.superclass own x.cls).before args s = true) (hsup2 : x.cls = y.cls ∨ (Cond.superclass x.cls y.cls).before args s = true)
    (hinst : (Cond.instanceMethod y).before args s = true) (hcode : (Cond.code y bytes maxL ret).before args s = true) (hno : y.name ≠ "<init>")
    {W : Nat} {Pre : Pt → Array Value → Prop} {Post : Pt → Array Value → Option Value → Pt → Prop} (hK : Back l R p e below s args y 3 W Pre Post)
    {b : Addr} {cellB : Cell} {kB : Class} (hcell : T.heap[b]? = some cellB) (hobj : cellB.vm.isStatics = false) (hkB : s.vm.classes[cellB.cls]? = some kB)
    {fr : JFrame} (hg : fr.method = m) (hsize : fr.locals.size = c.maxLocals) {argsL rest : List Value} (hlen : ∀ sig, parseMethodDescriptor y.desc = some sig → argsL.length = sig.parameters.length)
    (hstack : fr.stack = argsL.reverse ++ .ref b :: rest) (hW : 2 * fr.monitorRoom + (rest.map fun v => v.category).sum ≤ W) (hdg : decode c.code fr.pc = .ok (.invokespecial index, 3))
    (hpre : ∀ vm₁, s.WarmedH vm₁ → Pre ⟨T.setVm vm₁, locs, cells, slots⟩ (Value.ref b :: argsL).toArray) :
    ∃ (v : Option Value) (vm₁ : Vm) (B : Pt), s.WarmedH vm₁ ∧ Stand p l e R s m args below meth c B.U B.locs B.cells B.slots ∧ Post ⟨T.setVm vm₁, locs, cells, slots⟩ (Value.ref b :: argsL).toArray v B ∧
      ∀ target, Steps p.tables e below (B.U.setTop { fr with pc := fr.pc + 3, stack := v.toList ++ rest }) target → Steps p.tables e below (T.setTop fr) target := by
  obtain ⟨mk, methM, hnamed, hmethM, hstM, habM⟩ := Cond.instanceMethod_spec hinst
  obtain ⟨methM', cM, hmethM', -, -, -, -, -, -, hsigM⟩ := Cond.code_spec hnamed hcode
  cases hmethM.symm.trans hmethM'
  obtain ⟨ps, dk, kp, hps, hdk, hkp, hsuper, -, -, hnid⟩ := Cond.superclass_spec hown hsup
  have hn : s.methodNamed? ⟨y.cls, x.name, x.desc⟩ = some mk := by rw [hxn, hxd]; exact hnamed
  have hmc : s.vm.findClass y.cls = some mk.cls := findClass_of_methodNamed hnamed
  have hsub : s.vm.isSubclass ps mk.cls = true := by
    rcases hsup2 with e | h2
    · have hpm : ps = mk.cls := by
        rw [e] at hps
        exact Option.some.inj (hps.symm.trans hmc)
      rw [hpm]; simp [Vm.isSubclass, Vm.isSubclassAux]
    · obtain ⟨pp, kk, kpp, h3, h4, -, h5, -⟩ := Cond.superclass_spec hps h2
      cases hmc.symm.trans h3
      exact am_sub1 h4 h5
  obtain ⟨vm₁, X₁, hstep₁⟩ := X.invokespecialUp hexec hown hlink (by rw [hxn, hxd]; exact hsame) hn hmethM hstM habM (by rw [hxn]; exact hno) hdk hnid hps hsuper hsub (a := b) (cell := cellB) hcell
    (fun z h => by rw [h] at hobj; cases hobj) hkB (g := fr) hg (argsL := argsL) (rest := rest) (hlen _ hsigM) hstack hdg
  obtain ⟨v, B, X', hpost, hsteps⟩ := hK m meth c ⟨T.setVm vm₁, locs, cells, slots⟩ { fr with stack := rest } (.invokespecial index) mk (Value.ref b :: argsL).toArray X₁ hg hsize hdg hW (X₁.named hnamed) (hpre vm₁ X₁.warmed)
  exact ⟨v, vm₁, B, X₁.warmed, X', hpost, fun target h => hstep₁ _ (by rw [doInvoke_state]; exact hsteps.trans h)⟩
theorem am_x_super {i0 idx i : Nat} {b : Nat} {x : MethodName} (hx : p.tables.exec = Jvm.exec) (hb : c.code = cc) (hml : c.maxLocals = nL) (hown : s.vm.findClass own = some m.cls) (hts : ∀ w ∈ am_tb, w.before args s = true) (hF1 : am_F1 g O s s.heap) (hF2 : am_F2 g s) (hRc : bud ≤ R.cells) (hRs : 2200 * bud ≤ R.slots) (hRf : d + 1 ≤ R.frames) (hRl : 80 * (d + 1) ≤ R.locals) (hC : am_met l g O md pg d C) (hM : am_mk md pg i) (ht : t = [(i0, i)]) (hv : v = .retAddr b) (hbu : b = (pg i).2.1)
    (hw1 : Cond.methodLink own idx x ∈ am_tb) (hw2 : Cond.instanceMethod (md i).1 ∈ am_tb) (hw3 : Cond.sameMethod x.cls (md i).1.cls (md i).1.name (md i).1.desc ∈ am_tb) (hxn : x.name = (md i).1.name) (hxd : x.desc = (md i).1.desc) (hw4 : Cond.superclass own x.cls ∈ am_tb) (hw5 : x.cls = (md i).1.cls ∨ Cond.superclass x.cls (md i).1.cls ∈ am_tb) (hnm : (md i).1.name ≠ "<init>") {k : Nat} (hnk : n = k + 1) (hnp : (parseMethodDescriptor (md i).1.desc).map (fun d => d.parameters.length) = some k) {i1 : Nat} (hd : decode cc pc = .ok (.invokespecial idx, 3)) {k0 : am_K} (hkk : ∀ (u : Nat) (L : am_L) (st : List Value) (h : am_H), k0 u L st h → (am_Jm p l e R s m args below meth c Q g nL bud) (pc + 3) u L st h) (hs : am_s O C (am_Jm p l e R s m args below meth c Q g nL bud) P bud k0 (.invokespecial i1) v n t u L st h) : (am_Jm p l e R s m args below meth c Q g nL bud) pc u L st h := by
  subst ht; subst hv
  intro H locs ls hR hS hl hu
  simp only [am_s] at hs
  obtain ⟨as, r, hst0, hn, hs'⟩ := am_pop_spec hs
  clear hs
  subst hst0
  revert hs'
  intro hs
  split at hs
  · rename_i a as
    split at hs
    case h_2 => exact hs.elim
    rename_i ci fs c' m' hc ht
    cases ht
    obtain ⟨h1, h2, h3⟩ := hs
    have hR0 := am_roomOK (R := R) hM hRf hRl
    have hst : ((Value.ref a :: as).reverse ++ r).map (am_v g) = (as.map (am_v g)).reverse ++ .ref (g.1 + a) :: r.map (am_v g) := by
      rw [List.reverse_cons, List.map_append, List.map_append, List.map_reverse, List.append_assoc]; rfl
    have hlen : (as.map (am_v g)).length = k := by rw [List.length_map]; simp at hn; omega
    obtain ⟨cq, g1, -⟩ := hR.2 a _ (am_at hc)
    obtain ⟨cellB, hcB, hoB, hclB⟩ := va_recv hF2.1 hR.2 g1 (am_at hc)
    obtain ⟨hfc, kB, hkB, -⟩ := (hF2.1.1 ci _ g1).2
    have hce : g.2.2.2.1 ci = cellB.cls := Option.some.inj (hfc.symm.trans hclB)
    rw [hce] at hkB
    have hini := hts _ hM.2.1
    have hK : Back l R p e below s args (md i).1 3 8 (PreOf R (pg i).2.1 (2200 * (pg i).2.1) (am_Pc g O (.ref a :: as) h)) (PostOf (am_Q g _) (pg i).2.1 (2200 * (pg i).2.1) (am_A0 g)) := back_of (bytes := (md i).2.1) (maxL := (pg i).1) (ret := (md i).2.2) (hC i _ h _ h3) (am_blind g O _ h) rfl rfl hR0.1 hR0.2 (pay_in hts (am_ws_good hM)) List.mem_cons_self (fun a' U hW => word_at hW (Or.inl (by first | rfl | simp [Cond.onTables, Cond.keeps, Cond.steady])) hini)
    refine am_kont hkk hl hbu h1 hS (a := (Value.ref (g.1 + a) :: as.map (am_v g)).toArray) (r := r) ?_
    intro T hT X
    obtain ⟨v, vm₁, ⟨U', l2, c2, s2⟩, hW₁, X', ⟨g', mk, tt, L', e1, e2, hq, q1, hL, q2, q3⟩, stp⟩ := am_callSU X hx (bytes := (md i).2.1) (maxL := (pg i).1) (ret := (md i).2.2) hown (hts _ hw1) (hts _ hw3) hxn hxd (hts _ hw4) (hw5.imp id (hts _)) (hts _ hw2) (hts _ hM.1) hnm hK (by rw [hT]; exact hcB) hoB hkB (fr := F0 m pc ls (((Value.ref a :: as).reverse ++ r).map (am_v g))) rfl (by rw [hml]; exact hl.1) (argsL := as.map (am_v g)) (rest := r.map (am_v g)) (fun sig h => by rw [h] at hnp; exact hlen.trans (Option.some.inj hnp).symm) hst (am_w8 h2) (by rw [hb]; exact hd)
      (fun vm₁ hW₁ => ⟨show u + (pg i).2.1 ≤ R.cells by omega, show 2200 * u + 2200 * (pg i).2.1 ≤ R.slots by omega, am_Pc_at (as := .ref a :: as) hR hS hF1 hF2 (U := T.setVm vm₁) hT hW₁⟩)
    dsimp only [Pt.U, Pt.locs, Pt.cells, Pt.slots] at X' e1 e2 q1 q2 q3 stp
    subst q1; subst q2; subst q3
    exact ⟨v, (T.setVm vm₁).calling g' mk _, tt, U', L', hT, X', hL, e1, e2, hq, stp⟩
  · exact hs.elim
/-- what an invokevirtual asks, by the receiver's class and the method that is selected -/
def am_vs (md : am_D) (own : String) (idx k : Nat) (C0 : String) (i : Nat) : Prop :=
  ((md i).1.cls = C0 ∧ Cond.methodLink own idx (md i).1 ∈ am_tb ∧ Cond.instanceMethod (md i).1 ∈ am_tb ∧ Cond.selects C0 (md i).1 (md i).1 ∈ am_tb ∧ (parseMethodDescriptor (md i).1.desc).map (fun d => d.parameters.length) = some k) ∨
  ∃ (x : MethodName) (owner : String) (b0 : ByteArray) (m0 : Nat) (r0 : Option FieldType), Cond.methodLink own idx x ∈ am_tb ∧ Cond.sameMethod x.cls owner x.name x.desc ∈ am_tb ∧ Cond.instanceMethod ⟨owner, x.name, x.desc⟩ ∈ am_tb ∧ Cond.selects C0 x (md i).1 ∈ am_tb ∧ Cond.instanceMethod (md i).1 ∈ am_tb ∧ Cond.code ⟨owner, x.name, x.desc⟩ b0 m0 r0 ∈ am_tb ∧ owner ≠ "java/lang/invoke/MethodHandle" ∧ owner ≠ "java/lang/invoke/VarHandle" ∧ (parseMethodDescriptor x.desc).map (fun d => d.parameters.length) = some k
theorem am_virt {idx i k b : Nat} {C0 : String} {as r : List Value} {x : Value} {a : Nat} {H : Heap} {locs : List Loc} {ls : Array Slot} (hx : p.tables.exec = Jvm.exec) (hb : c.code = cc) (hml : c.maxLocals = nL) (hown : s.vm.findClass own = some m.cls) (hts : ∀ w ∈ am_tb, w.before args s = true) (hF1 : am_F1 g O s s.heap) (hF2 : am_F2 g s) (hRc : bud ≤ R.cells) (hRs : 2200 * bud ≤ R.slots) (hRf : d + 1 ≤ R.frames) (hRl : 80 * (d + 1) ≤ R.locals) (hC : am_met l g O md pg d C) (hM : am_mk md pg i) (hbu : b = (pg i).2.1)
    (hw : am_vs md own idx k C0 i) (hxa : am_v g x = .ref a) (hrv : ∃ cell : Cell, H[a]? = some cell ∧ cell.vm.isStatics = false ∧ s.vm.findClass C0 = some cell.cls) (hlen : as.length = k) (hd : decode cc pc = .ok (.invokevirtual idx, 3)) (hR : am_R g h H) (hS : va_S (am_A0 g) s.heap H locs) (hl : am_lr g ls nL L) {k0 : am_K} (hkk : ∀ (u : Nat) (L : am_L) (st : List Value) (h : am_H), k0 u L st h → (am_Jm p l e R s m args below meth c Q g nL bud) (pc + 3) u L st h) (hs : am_call C bud b i k0 u L (x :: as) r h) : W p l e R s m args below meth c H locs u (2200 * u) Q (F0 m pc ls (((x :: as).reverse ++ r).map (am_v g))) := by
  obtain ⟨h1, h2, h3⟩ := hs
  have hR0 := am_roomOK (R := R) hM hRf hRl
  have hst : ((x :: as).reverse ++ r).map (am_v g) = (as.map (am_v g)).reverse ++ .ref a :: r.map (am_v g) := by
    rw [List.reverse_cons, List.map_append, List.map_append, List.map_reverse, List.append_assoc, ← hxa]; rfl
  have hlen' : (as.map (am_v g)).length = k := by rw [List.length_map]; exact hlen
  have hpre : PreV s H C0 a (am_Pc g O (x :: as) h) (as.map (am_v g)) := ⟨am_blind g O _ h, hrv, fun U hU hW => by
    have := am_Pc_at (as := x :: as) hR hS hF1 hF2 hU hW
    rw [List.map_cons, hxa] at this
    exact this⟩
  rcases hw with ⟨w1, w2, w3, w4, w5⟩ | ⟨y, owner, b0, m0, r0, w1, w2, w3, w4, w5, w6, w7, w8, w9⟩
  · have hini : Cond.initialized C0 ∈ am_tb := by rw [← w1]; exact hM.2.1
    have hrun := va_runV (e := e) (below := below) (meth := meth) (locs := locs) (cells := u) (slots := 2200 * u) (b := a) (g := F0 m pc ls (((x :: as).reverse ++ r).map (am_v g))) (rest := r.map (am_v g)) (As := as.map (am_v g)) (R := R) (C := C0) ⟨hx, hb, hml, hown, hts⟩ (hC i _ h _ h3) (cwV (own := own) (index := idx) (ws := am_ws md pg i) k hts (am_good_app (by
      intro w hw
      simp only [List.mem_cons, List.not_mem_nil, or_false] at hw
      rcases hw with rfl | rfl | rfl | rfl
      · exact w2
      · exact w3
      · exact w4
      · exact hini) (am_ws_good hM)) rfl rfl rfl ⟨w1, hM.2.2.1.1, hM.2.2.1.2, w5⟩ hR0) hpre rfl hlen' hl.1 hst (am_w8 h2) hd ⟨by omega, by omega⟩
    exact am_kont hkk hl hbu h1 hS hrun
  · have hrun := va_runU (e := e) (below := below) (meth := meth) (locs := locs) (cells := u) (slots := 2200 * u) (b := a) (g := F0 m pc ls (((x :: as).reverse ++ r).map (am_v g))) (rest := r.map (am_v g)) (As := as.map (am_v g)) (R := R) (C := C0) ⟨hx, hb, hml, hown, hts⟩ (hC i _ h _ h3) (va_cwO (own := own) (index := idx) (x := y) (owner := owner) (ws := am_ws md pg i) k hts (am_good_app (by
      intro w hw
      simp only [List.mem_cons, List.not_mem_nil, or_false] at hw
      rcases hw with rfl | rfl | rfl | rfl | rfl | rfl
      · exact w1
      · exact w2
      · exact w3
      · exact w4
      · exact w5
      · exact hM.2.1) (am_ws_good hM)) rfl rfl rfl w6 ⟨w7, w8, w9⟩ hR0) hpre rfl hlen' hl.1 hst (am_w8 h2) hd ⟨by omega, by omega⟩
    exact am_kont hkk hl hbu h1 hS hrun
theorem am_x_virtual {i1 idx : Nat} {k b : Nat} (hx : p.tables.exec = Jvm.exec) (hb : c.code = cc) (hml : c.maxLocals = nL) (hown : s.vm.findClass own = some m.cls) (hts : ∀ w ∈ am_tb, w.before args s = true) (hF1 : am_F1 g O s s.heap) (hF2 : am_F2 g s) (hRc : bud ≤ R.cells) (hRs : 2200 * bud ≤ R.slots) (hRf : d + 1 ≤ R.frames) (hRl : 80 * (d + 1) ≤ R.locals) (hC : am_met l g O md pg d C) (hv : v = .retAddr b) (hnk : n = k + 1)
    (hq : ∀ q ∈ t, am_mk md pg q.2 ∧ b = (pg q.2).2.1 ∧ (q.1 = 99 ∧ am_vs md own idx k "java/lang/String" q.2 ∨ ∃ r, am_cl[q.1]? = some r ∧ am_vs md own idx k r.1 q.2)) (hd : decode cc pc = .ok (.invokevirtual idx, 3)) {k0 : am_K} (hkk : ∀ (u : Nat) (L : am_L) (st : List Value) (h : am_H), k0 u L st h → (am_Jm p l e R s m args below meth c Q g nL bud) (pc + 3) u L st h) (hs : am_s O C (am_Jm p l e R s m args below meth c Q g nL bud) P bud k0 (.invokevirtual i1) v n t u L st h) : (am_Jm p l e R s m args below meth c Q g nL bud) pc u L st h := by
  subst hv
  intro H locs ls hR hS hl hu
  simp only [am_s] at hs
  obtain ⟨as, r, hst0, hn, hs'⟩ := am_pop_spec hs
  clear hs
  subst hst0
  revert hs'
  intro hs
  split at hs
  · rename_i a as
    split at hs
    · rename_i ci fs hc
      split at hs
      · rename_i i hi
        obtain ⟨q1, q2, q3⟩ := hq _ (am_look_mem hi)
        rcases q3 with ⟨e, -⟩ | ⟨cq, g1, g2⟩
        · exfalso
          have e : ci = 99 := e
          obtain ⟨cr, g1, -⟩ := hR.2 a _ (am_at hc)
          rw [e] at g1
          cases g1
        · exact am_virt hx hb hml hown hts hF1 hF2 hRc hRs hRf hRl hC q1 q2 g2 rfl (va_recv hF2.1 hR.2 g1 (am_at hc)) (by simp at hn; omega) hd hR hS hl hkk hs
      · exact hs.elim
    · exact hs.elim
  · rename_i q as
    obtain ⟨hq12, hs⟩ := hs
    split at hs
    · rename_i i hi
      obtain ⟨q1, q2, q3⟩ := hq _ (am_look_mem hi)
      obtain ⟨a, b', a1, -, a3, -⟩ := hF1.1 q hq12
      rcases q3 with ⟨-, g2⟩ | ⟨cq, g1, g2⟩
      · obtain ⟨cell, c1, c2, c3, -⟩ := a3.kept hS.2.1
        exact am_virt hx hb hml hown hts hF1 hF2 hRc hRs hRf hRl hC q1 q2 g2 a1 ⟨cell, c1, c2, c3⟩ (by simp at hn; omega) hd hR hS hl hkk hs
      · cases g1
    · exact hs.elim
  · exact hs.elim
end AMC
