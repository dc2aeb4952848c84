/-! The check of a method: its abstract instructions are its bytes'. -/
def am_in (j : Nat) (w : Cond) : Bool := decide (lw_tbl[j]? = some w) && goodWord w
theorem am_in_mem {j : Nat} {w : Cond} (h : am_in j w = true) : w ∈ am_tb := by
  simp only [am_in, Bool.and_eq_true, decide_eq_true_eq] at h
  exact am_tb_in (List.mem_of_getElem? h.1) h.2
/-- a constant -/
def am_kc (own : String) (len : Nat) (j : Instr) (v : Value) (ct : List Nat) : Bool := match j with
  | .iconst k => decide (len = 1 ∧ v = .int (Int32.ofInt k))
  | .bipush k => decide (len = 2 ∧ v = .int (Int8.ofInt k).toInt32)
  | .sipush k => decide (len = 3 ∧ v = .int (Int16.ofInt k).toInt32)
  | .lconst k => decide (len = 1 ∧ v = .long (Int64.ofNat (k : Nat)))
  | .aconst_null => decide (len = 1 ∧ v = .null)
  | .ldc k => decide (len = 2) && (match v with
    | .int x => am_in (ct.getD 0 0) (.constant own k x)
    | .retAddr i => (match am_st[i]? with
      | some q => decide (q.1 = own ∧ q.2.1 = k)
      | none => false)
    | _ => false)
  | .ldc2_w k => decide (len = 3) && (match v with
    | .long x => am_in (ct.getD 0 0) (.constantLong own k x)
    | _ => false)
  | .getstatic k => decide (len = 3) && (match v with
    | .int x => decide (x = 1) && am_in (ct.getD 0 0) (.fieldLink own k "java/lang/String" "COMPACT_STRINGS" "Z")
    | .retAddr 40 => decide (Cond.fieldLinkNest own k "OverFence" "AT_FIRST" "[I" "OverFence" ∈ am_nf)
    | .retAddr 41 => am_in (ct.getD 0 0) (.fieldLink own k "OverFence" "BY_HAND_MOST" "[I")
    | .retAddr 42 => am_in (ct.getD 0 0) (.fieldLink own k "jdk/internal/util/Preconditions" "SIOOBE_FORMATTER" "Ljava/util/function/BiFunction;")
    | .retAddr 44 => am_in (ct.getD 0 0) (.fieldLink own k "OverFence$Yard" "NO_TEXT" "[B")
    | _ => false)
  | _ => false
def am_kfd (own : String) (idx ci k j0 j1 : Nat) : Bool := match am_cl[ci]?, lw_tbl[j0]? with
  | some q, some (.fieldLink o i r nm ds) => decide (k < q.2.2 ∧ o = own ∧ i = idx ∧ nm = (q.2.1 k).2.1 ∧ ds = (q.2.1 k).2.2.1) && (decide (r = (q.2.1 k).1) || am_in j1 (.sameField r (q.2.1 k).1 (q.2.1 k).2.1 (q.2.1 k).2.2.1))
  | _, _ => false
theorem am_kfd_ok {args : Array Value} {s : State} (hts : ∀ w ∈ am_tb, w.before args s = true) {own : String} {idx ci k j0 j1 : Nat} (h : am_kfd own idx ci k j0 j1 = true) : am_fd args s own idx ci k := by
  unfold am_kfd at h
  split at h
  · rename_i q o i r nm ds hq hw
    simp only [Bool.and_eq_true, Bool.or_eq_true, decide_eq_true_eq] at h
    obtain ⟨⟨h1, rfl, rfl, rfl, rfl⟩, h2⟩ := h
    exact ⟨q, r, hq, h1, hts _ (am_tb_in (List.mem_of_getElem? hw) rfl), h2.imp id (fun h => hts _ (am_in_mem h))⟩
  · cases h
def am_kpf (own nm : String) (idx ci k tag j0 j1 : Nat) : Bool := am_kfd own idx ci k j0 j1 && am_tag (am_tt ci k) tag && (match am_cl[ci]? with
  | some q => !(q.2.1 k).2.2.2 || decide (nm = "<init>" ∧ (q.2.1 k).1 = own)
  | none => false)
theorem am_kpf_ok {args : Array Value} {s : State} (hts : ∀ w ∈ am_tb, w.before args s = true) {own nm : String} {idx ci k tag j0 j1 : Nat} (h : am_kpf own nm idx ci k tag j0 j1 = true) : am_fd args s own idx ci k ∧ am_tag (am_tt ci k) tag = true ∧ ∀ r, am_cl[ci]? = some r → (r.2.1 k).2.2.2 = true → nm = "<init>" ∧ (r.2.1 k).1 = own := by
  simp only [am_kpf, Bool.and_eq_true] at h
  obtain ⟨⟨h1, h2⟩, h3⟩ := h
  refine ⟨am_kfd_ok hts h1, h2, fun r hr hf => ?_⟩
  rw [hr] at h3
  simp only [hf, Bool.not_true, Bool.false_or, decide_eq_true_eq] at h3
  exact h3
def am_kts (pc n : Nat) (dflt lo hi : Int) (offs : Array Int) (t : List (Nat × Nat)) : Bool := decide ((pc : Int) + dflt = (n : Int) ∧ lo + (t.length : Int) = hi + 1) && (List.range t.length).all fun i => match t[i]?, offs[i]? with
  | some q, some off => decide ((q.1 : Int) = lo + (i : Int) ∧ q.1 < 2 ^ 31 ∧ (pc : Int) + off = (q.2 : Int))
  | _, _ => false
theorem am_kts_ok {pc n : Nat} {dflt lo hi : Int} {offs : Array Int} {t : List (Nat × Nat)} (h : am_kts pc n dflt lo hi offs t = true) : am_ts pc n dflt lo hi offs t := by
  simp only [am_kts, Bool.and_eq_true, decide_eq_true_eq, List.all_eq_true, List.mem_range] at h
  obtain ⟨⟨h1, h2⟩, h3⟩ := h
  refine ⟨h1, h2, fun i hi => ?_⟩
  have := h3 i hi
  split at this
  · rename_i q off hq ho
    obtain ⟨a1, a2, a3⟩ := of_decide_eq_true this
    exact ⟨q, off, hq, a1, a2, ho, a3⟩
  · cases this
def am_klk (pc n : Nat) (dflt : Int) (ps : Array (Int × Int)) (t : List (Nat × Nat)) : Bool := decide ((pc : Int) + dflt = (n : Int)) && (ps.toList.zip (ps.toList.drop 1)).all (fun (a, next) => a.1 < next.1) && (t.all fun q => decide (q.1 < 2 ^ 31 ∧ (pc : Int) + Op.lookupswitch.offset ps.toList dflt (q.1 : Int) = (q.2 : Int))) && (ps.toList.all fun r => t.any fun q => decide ((q.1 : Int) = r.1))
theorem am_klk_ok {pc n : Nat} {dflt : Int} {ps : Array (Int × Int)} {t : List (Nat × Nat)} (h : am_klk pc n dflt ps t = true) : am_lk pc n dflt ps t := by
  simp only [am_klk, Bool.and_eq_true] at h
  obtain ⟨⟨⟨h1, h2⟩, h3⟩, h4⟩ := h
  refine ⟨of_decide_eq_true h1, h2, fun q hq => of_decide_eq_true (List.all_eq_true.mp h3 q hq), fun r hr => ?_⟩
  obtain ⟨q, q1, q2⟩ := List.any_eq_true.mp (List.all_eq_true.mp h4 r hr)
  exact ⟨q, q1, of_decide_eq_true q2⟩
/-- an invokevirtual: by its row (three places of words), or by an inherited one's (six) -/
def am_kvs (md : am_D) (own : String) (idx k : Nat) (C0 : String) (i : Nat) (ct : List Nat) : Bool := match ct with
  | [a, b, d] => decide ((md i).1.cls = C0) && am_in a (.methodLink own idx (md i).1) && am_in b (.instanceMethod (md i).1) && am_in d (.selects C0 (md i).1 (md i).1) && decide ((parseMethodDescriptor (md i).1.desc).map (fun d => d.parameters.length) = some k)
  | [a, b, d, e, f, w] => (match lw_tbl[a]?, lw_tbl[b]?, lw_tbl[w]? with
    | some (.methodLink o i0 x), some (.sameMethod r owner nm ds), some (.code y b0 m0 r0) => decide (o = own ∧ i0 = idx ∧ r = x.cls ∧ nm = x.name ∧ ds = x.desc ∧ y = ⟨owner, x.name, x.desc⟩ ∧ owner ≠ "java/lang/invoke/MethodHandle" ∧ owner ≠ "java/lang/invoke/VarHandle" ∧ (parseMethodDescriptor x.desc).map (fun d => d.parameters.length) = some k) && am_in d (.instanceMethod ⟨owner, x.name, x.desc⟩) && am_in e (.selects C0 x (md i).1) && am_in f (.instanceMethod (md i).1)
    | _, _, _ => false)
  | _ => false
theorem am_kvs_ok {md : am_D} {own : String} {idx k : Nat} {C0 : String} {i : Nat} {ct : List Nat} (h : am_kvs md own idx k C0 i ct = true) : am_vs md own idx k C0 i := by
  unfold am_kvs at h
  split at h
  · simp only [Bool.and_eq_true, decide_eq_true_eq] at h
    obtain ⟨⟨⟨⟨h1, h2⟩, h3⟩, h4⟩, h5⟩ := h
    exact Or.inl ⟨h1, am_in_mem h2, am_in_mem h3, am_in_mem h4, h5⟩
  · split at h
    · rename_i o i0 x r owner nm ds y b0 m0 r0 w1 w2 w3
      simp only [Bool.and_eq_true, decide_eq_true_eq] at h
      obtain ⟨⟨⟨⟨rfl, rfl, rfl, rfl, rfl, rfl, g1, g2, g3⟩, h2⟩, h3⟩, h4⟩ := h
      exact Or.inr ⟨x, owner, b0, m0, r0, am_tb_in (List.mem_of_getElem? w1) rfl, am_tb_in (List.mem_of_getElem? w2) rfl, am_in_mem h2, am_in_mem h3, am_in_mem h4, am_tb_in (List.mem_of_getElem? w3) rfl, g1, g2, g3⟩
    · cases h
  · cases h
/-- one instruction -/
def am_mt (md : am_D) (pg : Nat → am_M) (NM : Nat) (own nm : String) (ret : Option FieldType) (nL pc len : Nat) (j : Instr) (a : am_A) (ct : List (List Nat)) : Bool := match a.1 with
  | .nop => am_kc own len j a.2.1 (ct.headD [])
  | .iload k => decide (j = .iload k ∧ len = 2) || (match j with
    | .iload_n q => decide ((q : Nat) = k ∧ len = 1)
    | _ => false)
  | .lload k => decide (j = .lload k ∧ len = 2) || (match j with
    | .lload_n q => decide ((q : Nat) = k ∧ len = 1)
    | _ => false)
  | .aload k => decide (j = .aload k ∧ len = 2) || (match j with
    | .aload_n q => decide ((q : Nat) = k ∧ len = 1)
    | _ => false)
  | .istore k => decide (k < nL) && (decide (j = .istore k ∧ len = 2) || (match j with
    | .istore_n q => decide ((q : Nat) = k ∧ len = 1)
    | _ => false))
  | .lstore k => decide (k + 1 < nL) && (decide (j = .lstore k ∧ len = 2) || (match j with
    | .lstore_n q => decide ((q : Nat) = k ∧ len = 1)
    | _ => false))
  | .astore k => decide (k < nL) && (decide (j = .astore k ∧ len = 2) || (match j with
    | .astore_n q => decide ((q : Nat) = k ∧ len = 1)
    | _ => false))
  | .iinc k _ => (match j with
    | .iinc k' z => decide (k' = k ∧ len = 3 ∧ k < nL ∧ a.2.1 = .int (Int32.ofInt z))
    | _ => false)

  | .iadd => decide (j = .iadd ∧ len = 1)
  | .isub => decide (j = .isub ∧ len = 1)
  | .imul => decide (j = .imul ∧ len = 1)
  | .iand => decide (j = .iand ∧ len = 1)
  | .ior => decide (j = .ior ∧ len = 1)
  | .ixor => decide (j = .ixor ∧ len = 1)
  | .ishl => decide (j = .ishl ∧ len = 1)
  | .ishr => decide (j = .ishr ∧ len = 1)
  | .iushr => decide (j = .iushr ∧ len = 1)
  | .ineg => decide (j = .ineg ∧ len = 1)
  | .idiv => decide (j = .idiv ∧ len = 1)
  | .irem => decide (j = .irem ∧ len = 1)
  | .i2l => decide (j = .i2l ∧ len = 1)
  | .i2b => decide (j = .i2b ∧ len = 1)
  | .i2c => decide (j = .i2c ∧ len = 1)
  | .ladd => decide (j = .ladd ∧ len = 1)
  | .lmul => decide (j = .lmul ∧ len = 1)
  | .ldiv => decide (j = .ldiv ∧ len = 1)
  | .lrem => decide (j = .lrem ∧ len = 1)
  | .lcmp => decide (j = .lcmp ∧ len = 1)
  | .dup => decide (j = .dup ∧ len = 1)
  | .dup2 => decide (j = .dup2 ∧ len = 1)
  | .pop => decide (j = .pop ∧ len = 1)
  | .iaload => decide (j = .iaload ∧ len = 1)
  | .laload => decide (j = .laload ∧ len = 1)
  | .aaload => decide (j = .aaload ∧ len = 1)
  | .iastore => decide (j = .iastore ∧ len = 1)
  | .lastore => decide (j = .lastore ∧ len = 1)
  | .aastore => decide (j = .aastore ∧ len = 1)
  | .arraylength => decide (j = .arraylength ∧ len = 1)
  | .goto _ => (match j with
    | .goto off => decide (len = 3 ∧ (pc : Int) + off = (a.2.2.1 : Int))
    | _ => false)
  | .if_icmp q _ => (match j with
    | .if_icmp q' off => decide (q' = q ∧ len = 3 ∧ (pc : Int) + off = (a.2.2.1 : Int))
    | _ => false)
  | .ifCond q _ => (match j with
    | .ifCond q' off => decide (q' = q ∧ len = 3 ∧ (pc : Int) + off = (a.2.2.1 : Int))
    | _ => false)
  | .ifnull _ => (match j with
    | .ifnull off => decide (len = 3 ∧ (pc : Int) + off = (a.2.2.1 : Int))
    | _ => false)
  | .ifnonnull _ => (match j with
    | .ifnonnull off => decide (len = 3 ∧ (pc : Int) + off = (a.2.2.1 : Int))
    | _ => false)
  | .lookupswitch _ _ => (match j with
    | .tableswitch d lo hi offs => am_kts pc a.2.2.1 d lo hi offs a.2.2.2
    | .lookupswitch d ps => am_klk pc a.2.2.1 d ps a.2.2.2
    | _ => false)
  | .getfield _ => decide (len = 3) && (match j with
    | .getfield idx => a.2.2.2.all fun q => am_kfd own idx q.1 a.2.2.1 ((ct.headD []).getD 0 0) ((ct.headD []).getD 1 0)
    | _ => false)
  | .caload => decide (len = 3) && (match j with
    | .getfield idx => am_in ((ct.headD []).getD 0 0) (.fieldLink own idx "java/lang/String" "value" "[B")
    | _ => false)
  | .saload => decide (len = 3) && (match j with
    | .getfield idx => am_in ((ct.headD []).getD 0 0) (.fieldLink own idx "java/lang/String" "coder" "B")
    | _ => false)
  | .putfield _ => decide (len = 3) && (match j with
    | .putfield idx => a.2.2.2.all fun q => am_kpf own nm idx q.1 a.2.2.1 q.2 ((ct.headD []).getD 0 0) ((ct.headD []).getD 1 0)
    | _ => false)
  | .putstatic _ => decide (len = 3) && (match j with
    | .putfield idx => a.2.2.2.all fun q => am_kpf own nm idx q.1 a.2.2.1 0 ((ct.headD []).getD 0 0) ((ct.headD []).getD 1 0)
    | _ => false)
  | .baload => decide (j = .baload ∧ len = 1 ∧ (a.2.2.1 = 1 ∨ a.2.2.1 = 2))
  | .bastore => decide (j = .bastore ∧ len = 1 ∧ (a.2.2.1 = 1 ∨ a.2.2.1 = 2))
  | .castore => decide (j = .arraylength ∧ len = 1)
  | .faload => decide (len = 1 ∧ (j = .iaload ∧ a.2.2.1 = 0 ∨ j = .baload ∧ a.2.2.1 = 1))
  | .newarray _ => decide (j = .newarray (am_at_ a.2.2.1) ∧ len = 2 ∧ a.2.2.1 < 4) && am_in ((ct.headD []).getD 0 0) (.arrayClass (newarray.typeOf (am_at_ a.2.2.1)))
  | .anewarray _ => decide (len = 3) && (match j with
    | .anewarray idx => am_in ((ct.headD []).getD 0 0) (.classLink own idx "OverFence$Kick")
    | _ => false)
  | .new _ => decide (len = 3) && (match j, am_cl[a.2.2.1]? with
    | .new idx, some q => decide (q.2.2 ≤ 2200) && am_in ((ct.headD []).getD 0 0) (.classLink own idx q.1) && am_in ((ct.headD []).getD 1 0) (.instantiable q.1 q.2.2) && am_in ((ct.headD []).getD 2 0) (.initialized q.1)
    | _, _ => false)
  | .fastore => decide (len = 3) && (match j with
    | .invokevirtual idx => am_in ((ct.headD []).getD 0 0) (.methodLink own idx ⟨"[I", "clone", "()Ljava/lang/Object;"⟩) && am_in ((ct.headD []).getD 1 0) (.sameMethod "[I" "java/lang/Object" "clone" "()Ljava/lang/Object;") && am_in ((ct.headD []).getD 2 0) (.native ⟨"java/lang/Object", "clone", "()Ljava/lang/Object;"⟩) && am_in ((ct.headD []).getD 3 0) (.instanceMethod ⟨"java/lang/Object", "clone", "()Ljava/lang/Object;"⟩) && am_in ((ct.headD []).getD 4 0) (.selects "[I" ⟨"[I", "clone", "()Ljava/lang/Object;"⟩ ⟨"java/lang/Object", "clone", "()Ljava/lang/Object;"⟩) && decide (Cond.castable "[I" "java/lang/Cloneable" ∈ am_ca)
    | _ => false)
  | .invokevirtual _ => decide (len = 3 ∧ 0 < a.2.2.1) && (match j, a.2.1 with
    | .invokevirtual idx, .retAddr b => (a.2.2.2.zip ct).all (fun x => decide (x.1.2 < NM ∧ b = (pg x.1.2).2.1) && ((decide (x.1.1 = 99) && am_kvs md own idx (a.2.2.1 - 1) "java/lang/String" x.1.2 x.2) || (match am_cl[x.1.1]? with
      | some q => am_kvs md own idx (a.2.2.1 - 1) q.1 x.1.2 x.2
      | none => false))) && decide (a.2.2.2.length ≤ ct.length)
    | _, _ => false)
  | .invokestatic _ => decide (len = 3) && (match j, a.2.1, a.2.2.2 with
    | .invokestatic idx, .retAddr b, [(_, i)] => decide (i < NM ∧ b = (pg i).2.1) && am_in ((ct.headD []).getD 0 0) (.methodLink own idx (md i).1) && am_in ((ct.headD []).getD 1 0) (.static (md i).1) && decide ((parseMethodDescriptor (md i).1.desc).map (fun d => d.parameters.length) = some a.2.2.1)
    | _, _, _ => false)
  | .invokespecial _ => decide (len = 3 ∧ 0 < a.2.2.1) && (match j, a.2.1, a.2.2.2 with
    | .invokespecial idx, .retAddr b, [(_, i)] => decide (i < NM ∧ b = (pg i).2.1 ∧ (parseMethodDescriptor (md i).1.desc).map (fun d => d.parameters.length) = some (a.2.2.1 - 1)) && am_in ((ct.headD []).getD 1 0) (.instanceMethod (md i).1) && ((decide ((md i).2.2 = none ∧ (md i).1.name = "<init>") && (am_in ((ct.headD []).getD 0 0) (.methodLink own idx (md i).1) || decide (Cond.methodLinkNest own idx (md i).1 "OverFence" ∈ am_nm))) || (match lw_tbl[(ct.headD []).getD 0 0]? with
      | some (.methodLink o i0 x) => decide (o = own ∧ i0 = idx ∧ x.name = (md i).1.name ∧ x.desc = (md i).1.desc ∧ (md i).1.name ≠ "<init>") && am_in ((ct.headD []).getD 2 0) (.sameMethod x.cls (md i).1.cls (md i).1.name (md i).1.desc) && am_in ((ct.headD []).getD 3 0) (.superclass own x.cls) && (decide (x.cls = (md i).1.cls) || am_in ((ct.headD []).getD 4 0) (.superclass x.cls (md i).1.cls))
      | _ => false))
    | _, _, _ => false)
  | .pop2 => decide (len = 3) && (match j with
    | .invokespecial idx => am_in ((ct.headD []).getD 0 0) (.methodLink own idx objectInit) && am_in ((ct.headD []).getD 1 0) (.instanceMethod objectInit) && am_in ((ct.headD []).getD 2 0) (.code objectInit ⟨#[0xb1]⟩ 1 none)
    | _ => false)
  | .instanceof _ => decide (len = 3) && (match j, lw_tbl[(ct.headD []).getD 0 0]? with
    | .instanceof idx, some (.classLink o i0 cn) => decide (o = own ∧ i0 = idx) && a.2.2.2.all fun q => (match am_cl[q.1]? with
      | some r => (decide (q.2 = 1) && (decide (r.1 = cn) || decide (Cond.castable r.1 cn ∈ am_ca))) || decide (q.2 = 0 ∧ (r.1, cn) ∈ am_nc)
      | none => false)
    | _, _ => false)
  | .checkcast _ => decide (len = 3) && (match j with
    | .checkcast idx => am_in ((ct.headD []).getD 0 0) (.classLink own idx "[I")
    | _ => false)
  | .monitorenter => decide (len = 3 ∧ (a.2.2.1 = 0 ∨ a.2.2.1 = 1)) && (match j with
    | .invokestatic idx => am_in ((ct.headD []).getD 0 0) (.methodLink own idx arraycopyName) && am_in ((ct.headD []).getD 1 0) (.native arraycopyName) && am_in ((ct.headD []).getD 2 0) (.static arraycopyName) && am_in ((ct.headD []).getD 3 0) (.initialized "java/lang/System")
    | _ => false)
  | .ireturn => decide (j = .ireturn ∧ len = 1 ∧ ret = some .int)
  | .freturn => decide (j = .ireturn ∧ len = 1 ∧ ret = some .boolean)
  | .dreturn => decide (j = .ireturn ∧ len = 1 ∧ (a.2.2.1 = 0 ∧ ret = some .byte ∨ a.2.2.1 ≠ 0 ∧ ret = some .char))
  | .lreturn => decide (j = .lreturn ∧ len = 1 ∧ ret = some .long)
  | .areturn => decide (j = .areturn ∧ len = 1) && (match ret with
    | some (.object _) => true
    | _ => false)
  | .return_ => decide (j = .return_ ∧ len = 1 ∧ ret = none)
  | .athrow => true
  | _ => false

section AMS
variable {p : Program} {l : Launch} {e : Env} {R : Room} {s : State} {m : MethodId} {args : Array Value} {below : List Frame} {meth : Method} {c : Code} {Q : State → Prop} {g : am_G} {O : am_O} {cc : ByteArray} {nL bud pc : Nat} {C : am_C} {P : am_P} {u : Nat} {L : am_L} {st : List Value} {h : am_H} {own nm : String} {md : am_D} {pg : Nat → am_M} {d NM : Nat} {ret : Option FieldType}
theorem am_kc_sound {v : Value} {n len : Nat} {t : List (Nat × Nat)} {j : Instr} {ct : List Nat} (hx : p.tables.exec = Jvm.exec) (hb : c.code = cc) (hml : c.maxLocals = nL) (hown : s.vm.findClass own = some m.cls) (hnm : meth.name = nm) (hts : ∀ w ∈ am_tb, w.before args s = true) (ho : am_ov g) (hF1 : am_F1 g O s s.heap) (hF2 : am_F2 g s) (hO : ∀ q, (O q).1 < 2 ^ 31) (hO40 : (O 40).1 ≤ 2200) (hRc : bud ≤ R.cells) (hRs : 2200 * bud ≤ R.slots) (hRf : d + 1 ≤ R.frames) (hRl : 80 * (d + 1) ≤ R.locals) (hC : am_met l g O md pg d C) (hMk : ∀ i, i < NM → am_mk md pg i) (hrt : am_rt p l e R s m args below meth c Q g cc ret bud P) (hd : decode cc pc = .ok (j, len)) (hk : am_kc own len j v ct = true) {k0 : am_K} (hkk : ∀ (u : Nat) (L : am_L) (st : List Value) (h : am_H), k0 u L st h → (am_Jm p l e R s m args below meth c Q g nL bud) (pc + len) u L st h) (hs : am_s O C (am_Jm p l e R s m args below meth c Q g nL bud) P bud k0 .nop v n t u L st h) : (am_Jm p l e R s m args below meth c Q g nL bud) pc u L st h := by
  unfold am_kc at hk
  split at hk
  · obtain ⟨rfl, hv⟩ := of_decide_eq_true hk
    exact am_x_c_iconst hx hb hd hv hkk hs
  · obtain ⟨rfl, hv⟩ := of_decide_eq_true hk
    exact am_x_c_bipush hx hb hd hv hkk hs
  · obtain ⟨rfl, hv⟩ := of_decide_eq_true hk
    exact am_x_c_sipush hx hb hd hv hkk hs
  · obtain ⟨rfl, hv⟩ := of_decide_eq_true hk
    exact am_x_c_lconst hx hb hd hv hkk hs
  · obtain ⟨rfl, hv⟩ := of_decide_eq_true hk
    exact am_x_c_null hx hb hd hv hkk hs
  · rw [Bool.and_eq_true] at hk
    obtain ⟨h1, h2⟩ := hk
    have h1 := of_decide_eq_true h1
    subst h1
    split at h2
    · exact am_x_c_ldc hx hb hown (hts _ (am_in_mem h2)) hd rfl hkk hs
    · split at h2
      · rename_i q hq
        obtain ⟨o1, o2, o3⟩ := q
        obtain ⟨e1, e2⟩ := of_decide_eq_true h2
        have e1 : o1 = own := e1
        have e2 : o2 = _ := e2
        subst e1; subst e2
        exact am_x_c_ldcS hx hb hown hF2 hq hd rfl hkk hs
      · cases h2
    · cases h2
  · rw [Bool.and_eq_true] at hk
    obtain ⟨h1, h2⟩ := hk
    have h1 := of_decide_eq_true h1
    subst h1
    split at h2
    · exact am_x_c_ldc2 hx hb hown (hts _ (am_in_mem h2)) hd rfl hkk hs
    · cases h2
  · rw [Bool.and_eq_true] at hk
    obtain ⟨h1, h2⟩ := hk
    have h1 := of_decide_eq_true h1
    subst h1
    split at h2
    · rw [Bool.and_eq_true] at h2
      have e1 := of_decide_eq_true h2.1
      subst e1
      exact am_x_c_gets (v := .int 1) hx hb hown (hts _ (am_in_mem h2.2)) hF1.2.2.2.1 hd hkk hs
    · obtain ⟨a, a1, a2, -⟩ := hF1.2.1
      exact am_x_c_getsN hx hb hown (va_Nw.use rfl (hF2.2.2.2.1 _ (of_decide_eq_true h2))) (by show va_Z _ _ _ (g.2.1 40) _ _ _; rw [a1]; exact a2) hd hkk hs
    · obtain ⟨a, a1, a2, -⟩ := hF1.2.2.1
      exact am_x_c_gets hx hb hown (hts _ (am_in_mem h2)) (by show va_Z _ _ _ (g.2.1 41) _ _ _; rw [a1]; exact a2) hd hkk hs
    · exact am_x_c_gets (v := .retAddr 42) hx hb hown (hts _ (am_in_mem h2)) hF1.2.2.2.2.1 hd hkk hs
    · exact am_x_c_gets (v := .retAddr 44) hx hb hown (hts _ (am_in_mem h2)) hF1.2.2.2.2.2.1 hd hkk hs
    · cases h2
  · cases hk
theorem am_mt_sound {a : am_A} {len : Nat} {j : Instr} {ct : List (List Nat)} (hx : p.tables.exec = Jvm.exec) (hb : c.code = cc) (hml : c.maxLocals = nL) (hown : s.vm.findClass own = some m.cls) (hnm : meth.name = nm) (hts : ∀ w ∈ am_tb, w.before args s = true) (ho : am_ov g) (hF1 : am_F1 g O s s.heap) (hF2 : am_F2 g s) (hO : ∀ q, (O q).1 < 2 ^ 31) (hO40 : (O 40).1 ≤ 2200) (hRc : bud ≤ R.cells) (hRs : 2200 * bud ≤ R.slots) (hRf : d + 1 ≤ R.frames) (hRl : 80 * (d + 1) ≤ R.locals) (hC : am_met l g O md pg d C) (hMk : ∀ i, i < NM → am_mk md pg i) (hrt : am_rt p l e R s m args below meth c Q g cc ret bud P) (hd : decode cc pc = .ok (j, len)) (hk : am_mt md pg NM own nm ret nL pc len j a ct = true) {k0 : am_K} (hkk : ∀ (u : Nat) (L : am_L) (st : List Value) (h : am_H), k0 u L st h → (am_Jm p l e R s m args below meth c Q g nL bud) (pc + len) u L st h) (hs : am_s O C (am_Jm p l e R s m args below meth c Q g nL bud) P bud k0 a.1 a.2.1 a.2.2.1 a.2.2.2 u L st h) : (am_Jm p l e R s m args below meth c Q g nL bud) pc u L st h := by
  obtain ⟨i, v, n, t⟩ := a
  cases i
  case nop => exact am_kc_sound hx hb hml hown hnm hts ho hF1 hF2 hO hO40 hRc hRs hRf hRl hC hMk hrt hd hk hkk hs
  case iload k =>
    rcases Bool.or_eq_true_iff.mp hk with hk | hk
    · obtain ⟨rfl, rfl⟩ := of_decide_eq_true hk
      exact am_x_iload hx hb (Or.inl ⟨hd, rfl⟩) hkk hs
    · split at hk
      · obtain ⟨e1, rfl⟩ := of_decide_eq_true hk
        exact am_x_iload hx hb (Or.inr ⟨_, hd, e1, rfl⟩) hkk hs
      · cases hk
  case lload k =>
    rcases Bool.or_eq_true_iff.mp hk with hk | hk
    · obtain ⟨rfl, rfl⟩ := of_decide_eq_true hk
      exact am_x_lload hx hb (Or.inl ⟨hd, rfl⟩) hkk hs
    · split at hk
      · obtain ⟨e1, rfl⟩ := of_decide_eq_true hk
        exact am_x_lload hx hb (Or.inr ⟨_, hd, e1, rfl⟩) hkk hs
      · cases hk
  case aload k =>
    rcases Bool.or_eq_true_iff.mp hk with hk | hk
    · obtain ⟨rfl, rfl⟩ := of_decide_eq_true hk
      exact am_x_aload ho hx hb (Or.inl ⟨hd, rfl⟩) hkk hs
    · split at hk
      · obtain ⟨e1, rfl⟩ := of_decide_eq_true hk
        exact am_x_aload ho hx hb (Or.inr ⟨_, hd, e1, rfl⟩) hkk hs
      · cases hk
  case istore k =>
    obtain ⟨hn, hk⟩ := (Bool.and_eq_true _ _ ▸ hk : _ ∧ _)
    have hn := of_decide_eq_true hn
    rcases Bool.or_eq_true_iff.mp hk with hk | hk
    · obtain ⟨rfl, rfl⟩ := of_decide_eq_true hk
      exact am_x_istore ho hx hb hn (Or.inl ⟨hd, rfl⟩) hkk hs
    · split at hk
      · obtain ⟨e1, rfl⟩ := of_decide_eq_true hk
        exact am_x_istore ho hx hb hn (Or.inr ⟨_, hd, e1, rfl⟩) hkk hs
      · cases hk
  case lstore k =>
    obtain ⟨hn, hk⟩ := (Bool.and_eq_true _ _ ▸ hk : _ ∧ _)
    have hn := of_decide_eq_true hn
    rcases Bool.or_eq_true_iff.mp hk with hk | hk
    · obtain ⟨rfl, rfl⟩ := of_decide_eq_true hk
      exact am_x_lstore ho hx hb hn (Or.inl ⟨hd, rfl⟩) hkk hs
    · split at hk
      · obtain ⟨e1, rfl⟩ := of_decide_eq_true hk
        exact am_x_lstore ho hx hb hn (Or.inr ⟨_, hd, e1, rfl⟩) hkk hs
      · cases hk
  case astore k =>
    obtain ⟨hn, hk⟩ := (Bool.and_eq_true _ _ ▸ hk : _ ∧ _)
    have hn := of_decide_eq_true hn
    rcases Bool.or_eq_true_iff.mp hk with hk | hk
    · obtain ⟨rfl, rfl⟩ := of_decide_eq_true hk
      exact am_x_astore ho hx hb hn (Or.inl ⟨hd, rfl⟩) hkk hs
    · split at hk
      · obtain ⟨e1, rfl⟩ := of_decide_eq_true hk
        exact am_x_astore ho hx hb hn (Or.inr ⟨_, hd, e1, rfl⟩) hkk hs
      · cases hk
  case iinc k z0 =>
    unfold am_mt at hk
    dsimp only at hk
    split at hk
    · obtain ⟨rfl, rfl, h1, h2⟩ := of_decide_eq_true hk
      exact am_x_iinc ho hx hb h1 h2 hd hkk hs
    · cases hk
  case iadd =>
    obtain ⟨rfl, rfl⟩ := of_decide_eq_true hk
    exact am_x_iadd hx hb hd hkk hs
  case isub =>
    obtain ⟨rfl, rfl⟩ := of_decide_eq_true hk
    exact am_x_isub hx hb hd hkk hs
  case imul =>
    obtain ⟨rfl, rfl⟩ := of_decide_eq_true hk
    exact am_x_imul hx hb hd hkk hs
  case iand =>
    obtain ⟨rfl, rfl⟩ := of_decide_eq_true hk
    exact am_x_iand hx hb hd hkk hs
  case ior =>
    obtain ⟨rfl, rfl⟩ := of_decide_eq_true hk
    exact am_x_ior hx hb hd hkk hs
  case ixor =>
    obtain ⟨rfl, rfl⟩ := of_decide_eq_true hk
    exact am_x_ixor hx hb hd hkk hs
  case ishl =>
    obtain ⟨rfl, rfl⟩ := of_decide_eq_true hk
    exact am_x_ishl hx hb hd hkk hs
  case ishr =>
    obtain ⟨rfl, rfl⟩ := of_decide_eq_true hk
    exact am_x_ishr hx hb hd hkk hs
  case iushr =>
    obtain ⟨rfl, rfl⟩ := of_decide_eq_true hk
    exact am_x_iushr hx hb hd hkk hs
  case ineg =>
    obtain ⟨rfl, rfl⟩ := of_decide_eq_true hk
    exact am_x_ineg hx hb hd hkk hs
  case idiv =>
    obtain ⟨rfl, rfl⟩ := of_decide_eq_true hk
    exact am_x_idiv hx hb hd hkk hs
  case irem =>
    obtain ⟨rfl, rfl⟩ := of_decide_eq_true hk
    exact am_x_irem hx hb hd hkk hs
  case i2l =>
    obtain ⟨rfl, rfl⟩ := of_decide_eq_true hk
    exact am_x_i2l hx hb hd hkk hs
  case i2b =>
    obtain ⟨rfl, rfl⟩ := of_decide_eq_true hk
    exact am_x_i2b hx hb hd hkk hs
  case i2c =>
    obtain ⟨rfl, rfl⟩ := of_decide_eq_true hk
    exact am_x_i2c hx hb hd hkk hs
  case ladd =>
    obtain ⟨rfl, rfl⟩ := of_decide_eq_true hk
    exact am_x_ladd hx hb hd hkk hs
  case lmul =>
    obtain ⟨rfl, rfl⟩ := of_decide_eq_true hk
    exact am_x_lmul hx hb hd hkk hs
  case ldiv =>
    obtain ⟨rfl, rfl⟩ := of_decide_eq_true hk
    exact am_x_ldiv hx hb hd hkk hs
  case lrem =>
    obtain ⟨rfl, rfl⟩ := of_decide_eq_true hk
    exact am_x_lrem hx hb hd hkk hs
  case lcmp =>
    obtain ⟨rfl, rfl⟩ := of_decide_eq_true hk
    exact am_x_lcmp hx hb hd hkk hs
  case dup =>
    obtain ⟨rfl, rfl⟩ := of_decide_eq_true hk
    exact am_x_dup hx hb hd hkk hs
  case dup2 =>
    obtain ⟨rfl, rfl⟩ := of_decide_eq_true hk
    exact am_x_dup2 hx hb hd hkk hs
  case pop =>
    obtain ⟨rfl, rfl⟩ := of_decide_eq_true hk
    exact am_x_pop hx hb hd hkk hs
  case iaload =>
    obtain ⟨rfl, rfl⟩ := of_decide_eq_true hk
    exact am_x_iaload hx hb hF2 hd hkk hs
  case laload =>
    obtain ⟨rfl, rfl⟩ := of_decide_eq_true hk
    exact am_x_laload hx hb hF2 hd hkk hs
  case aaload =>
    obtain ⟨rfl, rfl⟩ := of_decide_eq_true hk
    exact am_x_aaload hx hb hF2 hd hkk hs
  case iastore =>
    obtain ⟨rfl, rfl⟩ := of_decide_eq_true hk
    exact am_x_iastore hx hb hF2 hd hkk hs
  case lastore =>
    obtain ⟨rfl, rfl⟩ := of_decide_eq_true hk
    exact am_x_lastore hx hb hF2 hd hkk hs
  case aastore =>
    obtain ⟨rfl, rfl⟩ := of_decide_eq_true hk
    exact am_x_aastore hx hb hF2 hd hkk hs
  case arraylength =>
    obtain ⟨rfl, rfl⟩ := of_decide_eq_true hk
    exact am_x_arraylength hx hb hF2 hd hkk hs
  case goto z0 =>
    unfold am_mt at hk
    dsimp only at hk
    split at hk
    · obtain ⟨rfl, h1⟩ := of_decide_eq_true hk
      exact am_x_goto hx hb hd h1 hs
    · cases hk
  case if_icmp q z0 =>
    unfold am_mt at hk
    dsimp only at hk
    split at hk
    · rename_i q2 off
      obtain ⟨hq2, rfl, h1⟩ := of_decide_eq_true hk
      subst hq2
      cases q2
      · exact am_x_icmp_eq hx hb hd h1 hkk hs
      · exact am_x_icmp_ne hx hb hd h1 hkk hs
      · exact am_x_icmp_lt hx hb hd h1 hkk hs
      · exact am_x_icmp_ge hx hb hd h1 hkk hs
      · exact am_x_icmp_gt hx hb hd h1 hkk hs
      · exact am_x_icmp_le hx hb hd h1 hkk hs
    · cases hk
  case ifCond q z0 =>
    unfold am_mt at hk
    dsimp only at hk
    split at hk
    · rename_i q2 off
      obtain ⟨hq2, rfl, h1⟩ := of_decide_eq_true hk
      subst hq2
      cases q2
      · exact am_x_if_eq hx hb hd h1 hkk hs
      · exact am_x_if_ne hx hb hd h1 hkk hs
      · exact am_x_if_lt hx hb hd h1 hkk hs
      · exact am_x_if_ge hx hb hd h1 hkk hs
      · exact am_x_if_gt hx hb hd h1 hkk hs
      · exact am_x_if_le hx hb hd h1 hkk hs
    · cases hk
  case ifnull z0 =>
    unfold am_mt at hk
    dsimp only at hk
    split at hk
    · obtain ⟨rfl, h1⟩ := of_decide_eq_true hk
      exact am_x_ifnull hx hb hd h1 hkk hs
    · cases hk
  case ifnonnull z0 =>
    unfold am_mt at hk
    dsimp only at hk
    split at hk
    · obtain ⟨rfl, h1⟩ := of_decide_eq_true hk
      exact am_x_ifnonnull hx hb hd h1 hkk hs
    · cases hk
  case lookupswitch z0 a0 =>
    unfold am_mt at hk
    dsimp only at hk
    split at hk
    · exact am_x_table hx hb (am_kts_ok hk) hd hs
    · exact am_x_lookup hx hb (am_klk_ok hk) hd hs
    · cases hk
  case getfield z0 =>
    unfold am_mt at hk
    dsimp only at hk
    rw [Bool.and_eq_true] at hk
    obtain ⟨h1, h2⟩ := hk
    have h1 := of_decide_eq_true h1
    subst h1
    split at h2
    · exact am_x_getfield hx hb hown hts hF2 (fun q hq => am_kfd_ok hts (List.all_eq_true.mp h2 q hq)) hd hkk hs
    · cases h2
  case caload =>
    unfold am_mt at hk
    dsimp only at hk
    rw [Bool.and_eq_true] at hk
    obtain ⟨h1, h2⟩ := hk
    have h1 := of_decide_eq_true h1
    subst h1
    split at h2
    · exact am_x_sval hx hb hown hF1 (hts _ (am_in_mem h2)) hd hkk hs
    · cases h2
  case saload =>
    unfold am_mt at hk
    dsimp only at hk
    rw [Bool.and_eq_true] at hk
    obtain ⟨h1, h2⟩ := hk
    have h1 := of_decide_eq_true h1
    subst h1
    split at h2
    · exact am_x_scod hx hb hown hF1 (hts _ (am_in_mem h2)) hd hkk hs
    · cases h2
  case putfield z0 =>
    unfold am_mt at hk
    dsimp only at hk
    rw [Bool.and_eq_true] at hk
    obtain ⟨h1, h2⟩ := hk
    have h1 := of_decide_eq_true h1
    subst h1
    split at h2
    · exact am_x_putfield hx hb hown hnm ho hts hF2 (fun q hq => am_kpf_ok hts (List.all_eq_true.mp h2 q hq)) hd hkk hs
    · cases h2
  case putstatic z0 =>
    unfold am_mt at hk
    dsimp only at hk
    rw [Bool.and_eq_true] at hk
    obtain ⟨h1, h2⟩ := hk
    have h1 := of_decide_eq_true h1
    subst h1
    split at h2
    · exact am_x_putF hx hb hown hnm ho hts hF2 (fun q hq => am_kpf_ok hts (List.all_eq_true.mp h2 q hq)) hd hkk hs
    · cases h2
  case baload =>
    obtain ⟨rfl, rfl, h1⟩ := of_decide_eq_true hk
    exact am_x_baload h1 hx hb hF2 hd hkk hs
  case bastore =>
    obtain ⟨rfl, rfl, h1⟩ := of_decide_eq_true hk
    exact am_x_bastore h1 hx hb hF2 hd hkk hs
  case castore =>
    obtain ⟨rfl, rfl⟩ := of_decide_eq_true hk
    exact am_x_olen hx hb hF1 hO hd hkk hs
  case faload =>
    obtain ⟨rfl, h1⟩ := of_decide_eq_true hk
    refine am_x_old hx hb hF1 hO ?_ hkk hs
    rcases h1 with ⟨rfl, h1⟩ | ⟨rfl, h1⟩
    · exact Or.inl ⟨hd, h1⟩
    · exact Or.inr ⟨hd, h1⟩
  case newarray z0 =>
    unfold am_mt at hk
    dsimp only at hk
    rw [Bool.and_eq_true] at hk
    obtain ⟨h1, h2⟩ := hk
    obtain ⟨rfl, rfl, h3⟩ := of_decide_eq_true h1
    exact am_x_newarray h3 hx hb hF2 (hts _ (am_in_mem h2)) hRc hRs hd hkk hs
  case anewarray z0 =>
    unfold am_mt at hk
    dsimp only at hk
    rw [Bool.and_eq_true] at hk
    obtain ⟨h1, h2⟩ := hk
    have h1 := of_decide_eq_true h1
    subst h1
    split at h2
    · exact am_x_anewarray hx hb hown hF2 (hts _ (am_in_mem h2)) hRc hRs hd hkk hs
    · cases h2
  case new z0 =>
    unfold am_mt at hk
    dsimp only at hk
    rw [Bool.and_eq_true] at hk
    obtain ⟨h1, h2⟩ := hk
    have h1 := of_decide_eq_true h1
    subst h1
    split at h2
    · rename_i idx q hq
      simp only [Bool.and_eq_true] at h2
      obtain ⟨⟨⟨a1, a2⟩, a3⟩, a4⟩ := h2
      exact am_x_new hx hb hown hts hF2 hq (of_decide_eq_true a1) (hts _ (am_in_mem a2)) (hts _ (am_in_mem a3)) (hts _ (am_in_mem a4)) hRc hRs hd hkk hs
    · cases h2
  case fastore =>
    unfold am_mt at hk
    dsimp only at hk
    rw [Bool.and_eq_true] at hk
    obtain ⟨h1, h2⟩ := hk
    have h1 := of_decide_eq_true h1
    subst h1
    split at h2
    · simp only [Bool.and_eq_true] at h2
      obtain ⟨⟨⟨⟨⟨a1, a2⟩, a3⟩, a4⟩, a5⟩, a6⟩ := h2
      exact am_x_clone hx hb hml hown hF1 hF2 hO40 (hts _ (am_in_mem a1)) (hts _ (am_in_mem a2)) (hts _ (am_in_mem a3)) (hts _ (am_in_mem a4)) (hts _ (am_in_mem a5)) (of_decide_eq_true a6) (by omega) (by omega) hRc hRs ho hd hkk hs
    · cases h2
  case invokevirtual z0 =>
    unfold am_mt at hk
    dsimp only at hk
    rw [Bool.and_eq_true] at hk
    obtain ⟨h1, h2⟩ := hk
    obtain ⟨rfl, hn0⟩ := of_decide_eq_true h1
    have hn0 : 0 < n := hn0
    split at h2
    · rename_i idx b
      rw [Bool.and_eq_true] at h2
      obtain ⟨h2, h3⟩ := h2
      have h3 := of_decide_eq_true h3
      refine am_x_virtual (k := n - 1) hx hb hml hown hts hF1 hF2 hRc hRs hRf hRl hC rfl (show n = n - 1 + 1 by omega) (fun q hq => ?_) hd hkk hs
      obtain ⟨i, hi⟩ := List.getElem?_of_mem hq
      have hil : i < t.length := (List.getElem?_eq_some_iff.mp hi).1
      obtain ⟨y, hy⟩ : ∃ y, ct[i]? = some y := ⟨_, List.getElem?_eq_getElem (by omega)⟩
      have hz : (q, y) ∈ t.zip ct := List.mem_of_getElem? (i := i) (by rw [List.getElem?_zip_eq_some]; exact ⟨hi, hy⟩)
      have h4 := List.all_eq_true.mp h2 _ hz
      rw [Bool.and_eq_true] at h4
      obtain ⟨h5, h6⟩ := h4
      obtain ⟨h7, h8⟩ := of_decide_eq_true h5
      refine ⟨hMk _ h7, h8, ?_⟩
      rcases Bool.or_eq_true_iff.mp h6 with h6 | h6
      · rw [Bool.and_eq_true] at h6
        exact Or.inl ⟨of_decide_eq_true h6.1, am_kvs_ok h6.2⟩
      · split at h6
        · rename_i r hr
          exact Or.inr ⟨r, hr, am_kvs_ok h6⟩
        · cases h6
    · cases h2
  case invokestatic z0 =>
    unfold am_mt at hk
    dsimp only at hk
    rw [Bool.and_eq_true] at hk
    obtain ⟨h1, h2⟩ := hk
    have h1 := of_decide_eq_true h1
    subst h1
    split at h2
    · simp only [Bool.and_eq_true] at h2
      obtain ⟨⟨⟨a1, a2⟩, a3⟩, a4⟩ := h2
      obtain ⟨b1, b2⟩ := of_decide_eq_true a1
      exact am_x_static hx hb hml hown hts hF1 hF2 hRc hRs hRf hRl hC (hMk _ b1) rfl rfl b2 (am_in_mem a2) (am_in_mem a3) (of_decide_eq_true a4) hd hkk hs
    · cases h2
  case invokespecial z0 =>
    unfold am_mt at hk
    dsimp only at hk
    rw [Bool.and_eq_true] at hk
    obtain ⟨h1, h2⟩ := hk
    obtain ⟨rfl, hn0⟩ := of_decide_eq_true h1
    have hn0 : 0 < n := hn0
    split at h2
    · rw [Bool.and_eq_true, Bool.and_eq_true] at h2
      obtain ⟨⟨a1, a2⟩, a3⟩ := h2
      obtain ⟨b1, b2, b3⟩ := of_decide_eq_true a1
      rcases Bool.or_eq_true_iff.mp a3 with a3 | a3
      · rw [Bool.and_eq_true] at a3
        obtain ⟨c1, c2⟩ := a3
        obtain ⟨d1, d2⟩ := of_decide_eq_true c1
        refine am_x_init hx hb hml hown hts hF1 hF2 hRc hRs hRf hRl hC (hMk _ b1) rfl rfl b2 ?_ (am_in_mem a2) d1 d2 (k := n - 1) (show n = n - 1 + 1 by omega) b3 hd hkk hs
        rcases Bool.or_eq_true_iff.mp c2 with c2 | c2
        · exact Or.inl (am_in_mem c2)
        · exact Or.inr ⟨_, of_decide_eq_true c2⟩
      · split at a3
        · rename_i o i0 x hw
          simp only [Bool.and_eq_true] at a3
          obtain ⟨⟨⟨e1, e2⟩, e3⟩, e4⟩ := a3
          obtain ⟨rfl, rfl, f1, f2, f3⟩ := of_decide_eq_true e1
          refine am_x_super hx hb hml hown hts hF1 hF2 hRc hRs hRf hRl hC (hMk _ b1) rfl rfl b2 (am_tb_in (List.mem_of_getElem? hw) rfl) (am_in_mem a2) (am_in_mem e2) f1 f2 (am_in_mem e3) ?_ f3 (k := n - 1) (show n = n - 1 + 1 by omega) b3 hd hkk hs
          rcases Bool.or_eq_true_iff.mp e4 with e4 | e4
          · exact Or.inl (of_decide_eq_true e4)
          · exact Or.inr (am_in_mem e4)
        · cases a3
    · cases h2
  case pop2 =>
    unfold am_mt at hk
    dsimp only at hk
    rw [Bool.and_eq_true] at hk
    obtain ⟨h1, h2⟩ := hk
    have h1 := of_decide_eq_true h1
    subst h1
    split at h2
    · simp only [Bool.and_eq_true] at h2
      obtain ⟨⟨a1, a2⟩, a3⟩ := h2
      exact am_x_objinit hx hb hml hown (hts _ (am_in_mem a1)) (hts _ (am_in_mem a2)) (hts _ (am_in_mem a3)) (by omega) (by omega) hd hkk hs
    · cases h2
  case instanceof z0 =>
    unfold am_mt at hk
    dsimp only at hk
    rw [Bool.and_eq_true] at hk
    obtain ⟨h1, h2⟩ := hk
    have h1 := of_decide_eq_true h1
    subst h1
    split at h2
    · rename_i idx o i0 cn hw
      rw [Bool.and_eq_true] at h2
      obtain ⟨a1, a2⟩ := h2
      obtain ⟨rfl, rfl⟩ := of_decide_eq_true a1
      refine am_x_instanceof hx hb hown hF2 (hts _ (am_tb_in (List.mem_of_getElem? hw) rfl)) (fun q hq => ?_) hd hkk hs
      have h3 := List.all_eq_true.mp a2 q hq
      split at h3
      · rename_i r hr
        refine ⟨r, hr, ?_⟩
        rcases Bool.or_eq_true_iff.mp h3 with h3 | h3
        · rw [Bool.and_eq_true] at h3
          obtain ⟨b1, b2⟩ := h3
          refine Or.inl ⟨of_decide_eq_true b1, ?_⟩
          rcases Bool.or_eq_true_iff.mp b2 with b2 | b2
          · exact Or.inl (of_decide_eq_true b2)
          · exact Or.inr (of_decide_eq_true b2)
        · exact Or.inr (of_decide_eq_true h3)
      · cases h3
    · cases h2
  case checkcast z0 =>
    unfold am_mt at hk
    dsimp only at hk
    rw [Bool.and_eq_true] at hk
    obtain ⟨h1, h2⟩ := hk
    have h1 := of_decide_eq_true h1
    subst h1
    split at h2
    · exact am_x_checkcast hx hb hown hF2 (hts _ (am_in_mem h2)) hd hkk hs
    · cases h2
  case monitorenter =>
    unfold am_mt at hk
    dsimp only at hk
    rw [Bool.and_eq_true] at hk
    obtain ⟨h1, h2⟩ := hk
    obtain ⟨rfl, h3⟩ := of_decide_eq_true h1
    split at h2
    · simp only [Bool.and_eq_true] at h2
      obtain ⟨⟨⟨a1, a2⟩, a3⟩, a4⟩ := h2
      exact am_x_copy h3 hx hb hml hown hF2 (hts _ (am_in_mem a1)) (hts _ (am_in_mem a2)) (hts _ (am_in_mem a3)) (hts _ (am_in_mem a4)) (by omega) (by omega) hd hkk hs
    · cases h2
  case ireturn =>
    obtain ⟨rfl, rfl, h1⟩ := of_decide_eq_true hk
    exact am_x_ireturn hrt h1 hd hs
  case freturn =>
    obtain ⟨rfl, rfl, h1⟩ := of_decide_eq_true hk
    exact am_x_zreturn hrt h1 hd hs
  case dreturn =>
    obtain ⟨rfl, rfl, h1⟩ := of_decide_eq_true hk
    exact am_x_creturn hrt h1 hd hs
  case lreturn =>
    obtain ⟨rfl, rfl, h1⟩ := of_decide_eq_true hk
    exact am_x_lreturn hrt h1 hd hs
  case areturn =>
    unfold am_mt at hk
    dsimp only at hk
    rw [Bool.and_eq_true] at hk
    obtain ⟨h1, h2⟩ := hk
    obtain ⟨rfl, rfl⟩ := of_decide_eq_true h1
    split at h2
    · exact am_x_areturn hrt rfl hd hs
    · cases h2
  case return_ =>
    obtain ⟨rfl, rfl, h1⟩ := of_decide_eq_true hk
    exact am_x_return hrt h1 hd hs
  all_goals exact False.elim hs
/-- a block -/
def am_bk (md : am_D) (pg : Nat → am_M) (NM : Nat) (own nm : String) (ret : Option FieldType) (nL : Nat) (cc : ByteArray) (nx : Nat) : Nat → List am_A → List (Nat × List (List Nat)) → Bool
  | pc, [], [] => decide (pc = nx)
  | pc, a :: is, (len, ct) :: cs => (match decode cc pc with
    | .ok (j, l) => decide (l = len) && am_mt md pg NM own nm ret nL pc len j a ct
    | .error _ => false) && am_bk md pg NM own nm ret nL cc nx (pc + len) is cs
  | _, _, _ => false
theorem am_bk_sound {nx : Nat} (hx : p.tables.exec = Jvm.exec) (hb : c.code = cc) (hml : c.maxLocals = nL) (hown : s.vm.findClass own = some m.cls) (hnm : meth.name = nm) (hts : ∀ w ∈ am_tb, w.before args s = true) (ho : am_ov g) (hF1 : am_F1 g O s s.heap) (hF2 : am_F2 g s) (hO : ∀ q, (O q).1 < 2 ^ 31) (hO40 : (O 40).1 ≤ 2200) (hRc : bud ≤ R.cells) (hRs : 2200 * bud ≤ R.slots) (hRf : d + 1 ≤ R.frames) (hRl : 80 * (d + 1) ≤ R.locals) (hC : am_met l g O md pg d C) (hMk : ∀ i, i < NM → am_mk md pg i) (hrt : am_rt p l e R s m args below meth c Q g cc ret bud P) : ∀ {is : List am_A} {cs : List (Nat × List (List Nat))} {pc : Nat}, am_bk md pg NM own nm ret nL cc nx pc is cs = true → ∀ {u : Nat} {L : am_L} {st : List Value} {h : am_H}, am_B O C (am_Jm p l e R s m args below meth c Q g nL bud) P bud nx is u L st h → (am_Jm p l e R s m args below meth c Q g nL bud) pc u L st h
  | [], [], pc, hk, u, L, st, h, hs => by
    have e := of_decide_eq_true hk
    subst e
    exact hs
  | (i, v, n, t) :: is, (len, ct) :: cs, pc, hk, u, L, st, h, hs => by
    unfold am_bk at hk
    rw [Bool.and_eq_true] at hk
    obtain ⟨h1, h2⟩ := hk
    split at h1
    · rename_i j l' hd
      rw [Bool.and_eq_true] at h1
      obtain ⟨h3, h4⟩ := h1
      have e := of_decide_eq_true h3
      subst e
      have ih : ∀ (u : Nat) (L : am_L) (st : List Value) (h : am_H), am_B O C (am_Jm p l e R s m args below meth c Q g nL bud) P bud nx is u L st h → (am_Jm p l e R s m args below meth c Q g nL bud) (pc + l') u L st h := fun u L st h hs => am_bk_sound hx hb hml hown hnm hts ho hF1 hF2 hO hO40 hRc hRs hRf hRl hC hMk hrt h2 hs
      exact am_mt_sound (a := (i, v, n, t)) hx hb hml hown hnm hts ho hF1 hF2 hO hO40 hRc hRs hRf hRl hC hMk hrt hd h4 ih hs
    · cases h1
  | [], _ :: _, _, hk, _, _, _, _, _ => by cases hk
  | _ :: _, [], _, hk, _, _, _, _, _ => by cases hk
end AMS
