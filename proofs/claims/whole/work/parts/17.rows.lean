/-! Rows of the abstract instructions, for simp. -/
section AME
variable {O : am_O} {C : am_C} {J : am_J} {P : am_P} {bud nx : Nat} {k : am_K} {v : Value} {n : Nat} {t : List (Nat × Nat)} {u : Nat} {L : am_L} {st r : List Value} {h : am_H} {x y : Int32} {p q : Int64} {b : Nat}
theorem e_cons {i : Instr} {is : List am_A} : am_B O C J P bud nx ((i, v, n, t) :: is) u L st h = am_s O C J P bud (am_B O C J P bud nx is) i v n t u L st h := rfl
theorem e_nil : am_B O C J P bud nx [] u L st h = J nx u L st h := rfl
theorem e_nop : am_s O C J P bud k (.nop) v n t u L (st) h = k u L (v :: st) h := rfl
theorem e_iload {j : Nat} : am_s O C J P bud k (.iload j) v n t u L (st) h = (match am_lg L j with | some (.int x) => k u L (.int x :: st) h | _ => False) := rfl
theorem e_lload {j : Nat} : am_s O C J P bud k (.lload j) v n t u L (st) h = (match am_lg L j with | some (.long x) => k u L (.long x :: st) h | _ => False) := rfl
theorem e_aload {j : Nat} : am_s O C J P bud k (.aload j) v n t u L (st) h = (match am_lg L j with | some x => am_ref x ∧ k u L (x :: st) h | _ => False) := rfl
theorem e_istore {j : Nat} : am_s O C J P bud k (.istore j) v n t u L (.int x :: r) h = k u (am_l1 L j (.int x)) r h := rfl
theorem e_lstore {j : Nat} : am_s O C J P bud k (.lstore j) v n t u L (.long p :: r) h = k u (am_l2 L j (.long p)) r h := rfl
theorem e_astore {j : Nat} {w : Value} : am_s O C J P bud k (.astore j) v n t u L (w :: r) h = (am_ref w ∧ k u (am_l1 L j w) r h) := rfl
theorem e_iinc {j : Nat} {z : Int} {c : Int32} : am_s O C J P bud k (.iinc j z) (.int c) n t u L st h = (match am_lg L j with | some (.int x) => k u (am_l1 L j (.int (x + c))) st h | _ => False) := by cases hj : am_lg L j with | none => simp [am_s, hj] | some w => cases w <;> simp [am_s, hj]
theorem e_iadd : am_s O C J P bud k (.iadd) v n t u L (.int y :: .int x :: r) h = k u L (.int (x + y) :: r) h := rfl
theorem e_isub : am_s O C J P bud k (.isub) v n t u L (.int y :: .int x :: r) h = k u L (.int (x - y) :: r) h := rfl
theorem e_imul : am_s O C J P bud k (.imul) v n t u L (.int y :: .int x :: r) h = k u L (.int (x * y) :: r) h := rfl
theorem e_iand : am_s O C J P bud k (.iand) v n t u L (.int y :: .int x :: r) h = k u L (.int (x &&& y) :: r) h := rfl
theorem e_ior : am_s O C J P bud k (.ior) v n t u L (.int y :: .int x :: r) h = k u L (.int (x ||| y) :: r) h := rfl
theorem e_ixor : am_s O C J P bud k (.ixor) v n t u L (.int y :: .int x :: r) h = k u L (.int (x ^^^ y) :: r) h := rfl
theorem e_ishl : am_s O C J P bud k (.ishl) v n t u L (.int y :: .int x :: r) h = k u L (.int (x <<< (y &&& 31)) :: r) h := rfl
theorem e_ishr : am_s O C J P bud k (.ishr) v n t u L (.int y :: .int x :: r) h = k u L (.int (x >>> (y &&& 31)) :: r) h := rfl
theorem e_ineg : am_s O C J P bud k (.ineg) v n t u L (.int x :: r) h = k u L (.int (-x) :: r) h := rfl
theorem e_idiv : am_s O C J P bud k (.idiv) v n t u L (.int y :: .int x :: r) h = (¬ y = 0 ∧ k u L (.int (x / y) :: r) h) := rfl
theorem e_irem : am_s O C J P bud k (.irem) v n t u L (.int y :: .int x :: r) h = (¬ y = 0 ∧ k u L (.int (x - x / y * y) :: r) h) := rfl
theorem e_i2l : am_s O C J P bud k (.i2l) v n t u L (.int x :: r) h = k u L (.long x.toInt64 :: r) h := rfl
theorem e_i2b : am_s O C J P bud k (.i2b) v n t u L (.int x :: r) h = k u L (.int x.toInt8.toInt32 :: r) h := rfl
theorem e_i2c : am_s O C J P bud k (.i2c) v n t u L (.int x :: r) h = k u L (.int (x.toUInt32 % 65536).toInt32 :: r) h := rfl
theorem e_ladd : am_s O C J P bud k (.ladd) v n t u L (.long q :: .long p :: r) h = k u L (.long (p + q) :: r) h := rfl
theorem e_lmul : am_s O C J P bud k (.lmul) v n t u L (.long q :: .long p :: r) h = k u L (.long (p * q) :: r) h := rfl
theorem e_ldiv : am_s O C J P bud k (.ldiv) v n t u L (.long q :: .long p :: r) h = (¬ q = 0 ∧ k u L (.long (p / q) :: r) h) := rfl
theorem e_lrem : am_s O C J P bud k (.lrem) v n t u L (.long q :: .long p :: r) h = (¬ q = 0 ∧ k u L (.long (p - p / q * q) :: r) h) := rfl
theorem e_lcmp : am_s O C J P bud k (.lcmp) v n t u L (.long q :: .long p :: r) h = k u L (.int (lg_cmp p q) :: r) h := rfl
theorem e_dup_i : am_s O C J P bud k (.dup) v n t u L (.int x :: r) h = k u L (.int x :: .int x :: r) h := rfl
theorem e_dup_r : am_s O C J P bud k (.dup) v n t u L (.ref b :: r) h = k u L (.ref b :: .ref b :: r) h := rfl
theorem e_dup2_l : am_s O C J P bud k (.dup2) v n t u L (.long p :: r) h = k u L (.long p :: .long p :: r) h := rfl
theorem e_dup2_i : am_s O C J P bud k (.dup2) v n t u L (.int y :: .ref b :: r) h = k u L (.int y :: .ref b :: .int y :: .ref b :: r) h := rfl
theorem e_pop : am_s O C J P bud k (.pop) v n t u L (.int x :: r) h = k u L r h := rfl
theorem e_goto {z : Int} : am_s O C J P bud k (.goto z) v n t u L (st) h = J n u L st h := rfl
theorem e_icmp_eq {z : Int} : am_s O C J P bud k (.if_icmp .eq z) v n t u L (.int y :: .int x :: r) h = ((x = y → J n u L r h) ∧ (¬ x = y → k u L r h)) := rfl
theorem e_icmp_ne {z : Int} : am_s O C J P bud k (.if_icmp .ne z) v n t u L (.int y :: .int x :: r) h = ((¬ x = y → J n u L r h) ∧ (x = y → k u L r h)) := rfl
theorem e_icmp_lt {z : Int} : am_s O C J P bud k (.if_icmp .lt z) v n t u L (.int y :: .int x :: r) h = ((x < y → J n u L r h) ∧ (¬ x < y → k u L r h)) := rfl
theorem e_icmp_ge {z : Int} : am_s O C J P bud k (.if_icmp .ge z) v n t u L (.int y :: .int x :: r) h = ((y ≤ x → J n u L r h) ∧ (¬ y ≤ x → k u L r h)) := rfl
theorem e_icmp_gt {z : Int} : am_s O C J P bud k (.if_icmp .gt z) v n t u L (.int y :: .int x :: r) h = ((y < x → J n u L r h) ∧ (¬ y < x → k u L r h)) := rfl
theorem e_icmp_le {z : Int} : am_s O C J P bud k (.if_icmp .le z) v n t u L (.int y :: .int x :: r) h = ((x ≤ y → J n u L r h) ∧ (¬ x ≤ y → k u L r h)) := rfl
theorem e_if_eq {z : Int} : am_s O C J P bud k (.ifCond .eq z) v n t u L (.int x :: r) h = ((x = 0 → J n u L r h) ∧ (¬ x = 0 → k u L r h)) := rfl
theorem e_if_ne {z : Int} : am_s O C J P bud k (.ifCond .ne z) v n t u L (.int x :: r) h = ((¬ x = 0 → J n u L r h) ∧ (x = 0 → k u L r h)) := rfl
theorem e_if_lt {z : Int} : am_s O C J P bud k (.ifCond .lt z) v n t u L (.int x :: r) h = ((x < 0 → J n u L r h) ∧ (¬ x < 0 → k u L r h)) := rfl
theorem e_if_ge {z : Int} : am_s O C J P bud k (.ifCond .ge z) v n t u L (.int x :: r) h = ((0 ≤ x → J n u L r h) ∧ (¬ 0 ≤ x → k u L r h)) := rfl
theorem e_if_gt {z : Int} : am_s O C J P bud k (.ifCond .gt z) v n t u L (.int x :: r) h = ((0 < x → J n u L r h) ∧ (¬ 0 < x → k u L r h)) := rfl
theorem e_if_le {z : Int} : am_s O C J P bud k (.ifCond .le z) v n t u L (.int x :: r) h = ((x ≤ 0 → J n u L r h) ∧ (¬ x ≤ 0 → k u L r h)) := rfl
theorem e_ifnull_n {z : Int} : am_s O C J P bud k (.ifnull z) v n t u L (.null :: r) h = J n u L r h := rfl
theorem e_ifnull_r {z : Int} : am_s O C J P bud k (.ifnull z) v n t u L (.ref b :: r) h = k u L r h := rfl
theorem e_ifnonnull_n {z : Int} : am_s O C J P bud k (.ifnonnull z) v n t u L (.null :: r) h = k u L r h := rfl
theorem e_ifnonnull_r {z : Int} : am_s O C J P bud k (.ifnonnull z) v n t u L (.ref b :: r) h = J n u L r h := rfl
theorem e_switch {z : Int} {zs : Array (Int × Int)} : am_s O C J P bud k (.lookupswitch z zs) v n t u L (.int x :: r) h = am_sw (fun p => J p u L r h) n x t := rfl
theorem e_getfield {z : Nat} : am_s O C J P bud k (.getfield z) v n t u L (.ref b :: r) h = am_gf h b n t fun x => k u L (x :: r) h := rfl
theorem e_sval : am_s O C J P bud k (.caload) v n t u L (.retAddr b :: r) h = (b < 12 ∧ k u L (.retAddr (b + 16) :: r) h) := rfl
theorem e_scod : am_s O C J P bud k (.saload) v n t u L (.retAddr b :: r) h = (b < 12 ∧ k u L (.int 0 :: r) h) := rfl
theorem e_putfield {z : Nat} {w : Value} : am_s O C J P bud k (.putfield z) v n t u L (w :: .ref b :: r) h = am_pf h b n w t fun h' => k u L r h' := rfl
theorem e_putF {z : Nat} {w : Value} : am_s O C J P bud k (.putstatic z) v n t u L (w :: .ref b :: r) h = am_pF h b n w t fun h' => k u L r h' := rfl
theorem e_iaload : am_s O C J P bud k (.iaload) v n t u L (.int x :: .ref b :: r) h = am_ia h b 0 x fun x => k u L (.int x :: r) h := rfl
theorem e_baload : am_s O C J P bud k (.baload) v n t u L (.int x :: .ref b :: r) h = am_ia h b n x fun x => k u L (.int x :: r) h := rfl
theorem e_laload : am_s O C J P bud k (.laload) v n t u L (.int x :: .ref b :: r) h = am_la h b x fun x => k u L (.long x :: r) h := rfl
theorem e_aaload : am_s O C J P bud k (.aaload) v n t u L (.int x :: .ref b :: r) h = am_aa h b x fun x => k u L (x :: r) h := rfl
theorem e_iastore : am_s O C J P bud k (.iastore) v n t u L (.int y :: .int x :: .ref b :: r) h = am_is h b 0 x y fun h' => k u L r h' := rfl
theorem e_bastore : am_s O C J P bud k (.bastore) v n t u L (.int y :: .int x :: .ref b :: r) h = am_is h b n x (if n = 1 then vp_nar .byte y else vp_nar .boolean y) fun h' => k u L r h' := rfl
theorem e_lastore : am_s O C J P bud k (.lastore) v n t u L (.long p :: .int x :: .ref b :: r) h = am_lS h b x p fun h' => k u L r h' := rfl
theorem e_aastore {w : Value} : am_s O C J P bud k .aastore v n t u L (w :: .int x :: .ref b :: r) h = am_aS h b x w fun h' => k u L r h' := rfl
theorem e_arraylength : am_s O C J P bud k (.arraylength) v n t u L (.ref b :: r) h = am_al h b fun x => k u L (.int x :: r) h := rfl
theorem e_olen : am_s O C J P bud k (.castore) v n t u L (.retAddr b :: r) h = (am_oa b = true ∧ k u L (.int (Int32.ofNat (O b).1) :: r) h) := rfl
theorem e_old : am_s O C J P bud k (.faload) v n t u L (.int x :: .retAddr b :: r) h = (am_oa b = true ∧ ((n = 0 → 28 ≤ b) ∧ (n = 1 → b < 28)) ∧ vp_in x (O b).1 ∧ k u L (.int ((O b).2 x.toNatClampNeg) :: r) h) := rfl
theorem e_virt {z : Nat} {a : Nat} {as : List Value} {c : Nat} {fs : List Value} {m : Nat} (hc : am_hg h a = some (.inr (c, fs))) (hm : am_look t c = some m) : (match (.ref a :: as : List Value) with
    | .ref a :: _ => (match am_hg h a with
      | some (.inr (c, _)) => (match am_look t c with
        | some m => am_call C bud b m k u L (.ref a :: as) r h
        | none => False)
      | _ => False)
    | _ => False) = am_call C bud b m k u L (.ref a :: as) r h := by simp only [hc, hm]
theorem e_virt1 {z a c m : Nat} {fs : List Value}  (hc : am_hg h a = some (.inr (c, fs))) (hm : am_look t c = some m) : am_s O C J P bud k (.invokevirtual z) (.retAddr b) 1 t u L (.ref a :: r) h = am_call C bud b m k u L [.ref a] r h := by simp only [am_s, am_pop, hc, hm]
theorem e_vstr1 {z a m : Nat}  (hm : am_look t 99 = some m) : am_s O C J P bud k (.invokevirtual z) (.retAddr b) 1 t u L (.retAddr a :: r) h = (a < 12 ∧ am_call C bud b m k u L [.retAddr a] r h) := by simp only [am_s, am_pop, hm]
theorem e_spec1 {z a c m i0 : Nat} {fs : List Value}  (hc : am_hg h a = some (.inr (c, fs))) : am_s O C J P bud k (.invokespecial z) (.retAddr b) 1 [(i0, m)] u L (.ref a :: r) h = am_call C bud b m k u L [.ref a] r h := by simp only [am_s, am_pop, hc]
theorem e_virt2 {z a c m : Nat} {fs : List Value} {v1 : Value} (hc : am_hg h a = some (.inr (c, fs))) (hm : am_look t c = some m) : am_s O C J P bud k (.invokevirtual z) (.retAddr b) 2 t u L (v1 :: .ref a :: r) h = am_call C bud b m k u L [.ref a, v1] r h := by simp only [am_s, am_pop, hc, hm]
theorem e_vstr2 {z a m : Nat} {v1 : Value} (hm : am_look t 99 = some m) : am_s O C J P bud k (.invokevirtual z) (.retAddr b) 2 t u L (v1 :: .retAddr a :: r) h = (a < 12 ∧ am_call C bud b m k u L [.retAddr a, v1] r h) := by simp only [am_s, am_pop, hm]
theorem e_spec2 {z a c m i0 : Nat} {fs : List Value} {v1 : Value} (hc : am_hg h a = some (.inr (c, fs))) : am_s O C J P bud k (.invokespecial z) (.retAddr b) 2 [(i0, m)] u L (v1 :: .ref a :: r) h = am_call C bud b m k u L [.ref a, v1] r h := by simp only [am_s, am_pop, hc]
theorem e_virt3 {z a c m : Nat} {fs : List Value} {v1 : Value} {v2 : Value} (hc : am_hg h a = some (.inr (c, fs))) (hm : am_look t c = some m) : am_s O C J P bud k (.invokevirtual z) (.retAddr b) 3 t u L (v2 :: v1 :: .ref a :: r) h = am_call C bud b m k u L [.ref a, v1, v2] r h := by simp only [am_s, am_pop, hc, hm]
theorem e_vstr3 {z a m : Nat} {v1 : Value} {v2 : Value} (hm : am_look t 99 = some m) : am_s O C J P bud k (.invokevirtual z) (.retAddr b) 3 t u L (v2 :: v1 :: .retAddr a :: r) h = (a < 12 ∧ am_call C bud b m k u L [.retAddr a, v1, v2] r h) := by simp only [am_s, am_pop, hm]
theorem e_spec3 {z a c m i0 : Nat} {fs : List Value} {v1 : Value} {v2 : Value} (hc : am_hg h a = some (.inr (c, fs))) : am_s O C J P bud k (.invokespecial z) (.retAddr b) 3 [(i0, m)] u L (v2 :: v1 :: .ref a :: r) h = am_call C bud b m k u L [.ref a, v1, v2] r h := by simp only [am_s, am_pop, hc]
theorem e_virt4 {z a c m : Nat} {fs : List Value} {v1 : Value} {v2 : Value} {v3 : Value} (hc : am_hg h a = some (.inr (c, fs))) (hm : am_look t c = some m) : am_s O C J P bud k (.invokevirtual z) (.retAddr b) 4 t u L (v3 :: v2 :: v1 :: .ref a :: r) h = am_call C bud b m k u L [.ref a, v1, v2, v3] r h := by simp only [am_s, am_pop, hc, hm]
theorem e_vstr4 {z a m : Nat} {v1 : Value} {v2 : Value} {v3 : Value} (hm : am_look t 99 = some m) : am_s O C J P bud k (.invokevirtual z) (.retAddr b) 4 t u L (v3 :: v2 :: v1 :: .retAddr a :: r) h = (a < 12 ∧ am_call C bud b m k u L [.retAddr a, v1, v2, v3] r h) := by simp only [am_s, am_pop, hm]
theorem e_spec4 {z a c m i0 : Nat} {fs : List Value} {v1 : Value} {v2 : Value} {v3 : Value} (hc : am_hg h a = some (.inr (c, fs))) : am_s O C J P bud k (.invokespecial z) (.retAddr b) 4 [(i0, m)] u L (v3 :: v2 :: v1 :: .ref a :: r) h = am_call C bud b m k u L [.ref a, v1, v2, v3] r h := by simp only [am_s, am_pop, hc]
theorem e_virt5 {z a c m : Nat} {fs : List Value} {v1 : Value} {v2 : Value} {v3 : Value} {v4 : Value} (hc : am_hg h a = some (.inr (c, fs))) (hm : am_look t c = some m) : am_s O C J P bud k (.invokevirtual z) (.retAddr b) 5 t u L (v4 :: v3 :: v2 :: v1 :: .ref a :: r) h = am_call C bud b m k u L [.ref a, v1, v2, v3, v4] r h := by simp only [am_s, am_pop, hc, hm]
theorem e_vstr5 {z a m : Nat} {v1 : Value} {v2 : Value} {v3 : Value} {v4 : Value} (hm : am_look t 99 = some m) : am_s O C J P bud k (.invokevirtual z) (.retAddr b) 5 t u L (v4 :: v3 :: v2 :: v1 :: .retAddr a :: r) h = (a < 12 ∧ am_call C bud b m k u L [.retAddr a, v1, v2, v3, v4] r h) := by simp only [am_s, am_pop, hm]
theorem e_spec5 {z a c m i0 : Nat} {fs : List Value} {v1 : Value} {v2 : Value} {v3 : Value} {v4 : Value} (hc : am_hg h a = some (.inr (c, fs))) : am_s O C J P bud k (.invokespecial z) (.retAddr b) 5 [(i0, m)] u L (v4 :: v3 :: v2 :: v1 :: .ref a :: r) h = am_call C bud b m k u L [.ref a, v1, v2, v3, v4] r h := by simp only [am_s, am_pop, hc]
theorem e_virt6 {z a c m : Nat} {fs : List Value} {v1 : Value} {v2 : Value} {v3 : Value} {v4 : Value} {v5 : Value} (hc : am_hg h a = some (.inr (c, fs))) (hm : am_look t c = some m) : am_s O C J P bud k (.invokevirtual z) (.retAddr b) 6 t u L (v5 :: v4 :: v3 :: v2 :: v1 :: .ref a :: r) h = am_call C bud b m k u L [.ref a, v1, v2, v3, v4, v5] r h := by simp only [am_s, am_pop, hc, hm]
theorem e_vstr6 {z a m : Nat} {v1 : Value} {v2 : Value} {v3 : Value} {v4 : Value} {v5 : Value} (hm : am_look t 99 = some m) : am_s O C J P bud k (.invokevirtual z) (.retAddr b) 6 t u L (v5 :: v4 :: v3 :: v2 :: v1 :: .retAddr a :: r) h = (a < 12 ∧ am_call C bud b m k u L [.retAddr a, v1, v2, v3, v4, v5] r h) := by simp only [am_s, am_pop, hm]
theorem e_spec6 {z a c m i0 : Nat} {fs : List Value} {v1 : Value} {v2 : Value} {v3 : Value} {v4 : Value} {v5 : Value} (hc : am_hg h a = some (.inr (c, fs))) : am_s O C J P bud k (.invokespecial z) (.retAddr b) 6 [(i0, m)] u L (v5 :: v4 :: v3 :: v2 :: v1 :: .ref a :: r) h = am_call C bud b m k u L [.ref a, v1, v2, v3, v4, v5] r h := by simp only [am_s, am_pop, hc]
variable {rr : Nat → Int32} {a : Nat → Nat → Int32} {kk : Nat → Nat → Option Nat} {ll : Nat → Nat → Int64} {w : Int64} {tt : Value} {o1 o2 : Nat} {BB : am_H}
theorem e_v0_1 {z m : Nat} : am_s O C J P bud k (.invokevirtual z) (.retAddr b) 1 [(11, m)] u L (.ref 0 :: r) (wd rr a kk ll w tt o1 o2 BB) = am_call C bud b m k u L [.ref 0] r (wd rr a kk ll w tt o1 o2 BB) := rfl
theorem e_v0_2 {v1 : Value} {z m : Nat} : am_s O C J P bud k (.invokevirtual z) (.retAddr b) 2 [(11, m)] u L (v1 :: .ref 0 :: r) (wd rr a kk ll w tt o1 o2 BB) = am_call C bud b m k u L [.ref 0, v1] r (wd rr a kk ll w tt o1 o2 BB) := rfl
theorem e_v0_3 {v1 v2 : Value} {z m : Nat} : am_s O C J P bud k (.invokevirtual z) (.retAddr b) 3 [(11, m)] u L (v2 :: v1 :: .ref 0 :: r) (wd rr a kk ll w tt o1 o2 BB) = am_call C bud b m k u L [.ref 0, v1, v2] r (wd rr a kk ll w tt o1 o2 BB) := rfl
theorem e_v0_4 {v1 v2 v3 : Value} {z m : Nat} : am_s O C J P bud k (.invokevirtual z) (.retAddr b) 4 [(11, m)] u L (v3 :: v2 :: v1 :: .ref 0 :: r) (wd rr a kk ll w tt o1 o2 BB) = am_call C bud b m k u L [.ref 0, v1, v2, v3] r (wd rr a kk ll w tt o1 o2 BB) := rfl
theorem e_v0_5 {v1 v2 v3 v4 : Value} {z m : Nat} : am_s O C J P bud k (.invokevirtual z) (.retAddr b) 5 [(11, m)] u L (v4 :: v3 :: v2 :: v1 :: .ref 0 :: r) (wd rr a kk ll w tt o1 o2 BB) = am_call C bud b m k u L [.ref 0, v1, v2, v3, v4] r (wd rr a kk ll w tt o1 o2 BB) := rfl
theorem e_v0_6 {v1 v2 v3 v4 v5 : Value} {z m : Nat} : am_s O C J P bud k (.invokevirtual z) (.retAddr b) 6 [(11, m)] u L (v5 :: v4 :: v3 :: v2 :: v1 :: .ref 0 :: r) (wd rr a kk ll w tt o1 o2 BB) = am_call C bud b m k u L [.ref 0, v1, v2, v3, v4, v5] r (wd rr a kk ll w tt o1 o2 BB) := rfl
theorem e_v1_1 {z m : Nat} : am_s O C J P bud k (.invokevirtual z) (.retAddr b) 1 [(6, m)] u L (.ref 1 :: r) (wd rr a kk ll w tt o1 o2 BB) = am_call C bud b m k u L [.ref 1] r (wd rr a kk ll w tt o1 o2 BB) := rfl
theorem e_v1_2 {v1 : Value} {z m : Nat} : am_s O C J P bud k (.invokevirtual z) (.retAddr b) 2 [(6, m)] u L (v1 :: .ref 1 :: r) (wd rr a kk ll w tt o1 o2 BB) = am_call C bud b m k u L [.ref 1, v1] r (wd rr a kk ll w tt o1 o2 BB) := rfl
theorem e_v1_3 {v1 v2 : Value} {z m : Nat} : am_s O C J P bud k (.invokevirtual z) (.retAddr b) 3 [(6, m)] u L (v2 :: v1 :: .ref 1 :: r) (wd rr a kk ll w tt o1 o2 BB) = am_call C bud b m k u L [.ref 1, v1, v2] r (wd rr a kk ll w tt o1 o2 BB) := rfl
theorem e_v1_4 {v1 v2 v3 : Value} {z m : Nat} : am_s O C J P bud k (.invokevirtual z) (.retAddr b) 4 [(6, m)] u L (v3 :: v2 :: v1 :: .ref 1 :: r) (wd rr a kk ll w tt o1 o2 BB) = am_call C bud b m k u L [.ref 1, v1, v2, v3] r (wd rr a kk ll w tt o1 o2 BB) := rfl
theorem e_v1_5 {v1 v2 v3 v4 : Value} {z m : Nat} : am_s O C J P bud k (.invokevirtual z) (.retAddr b) 5 [(6, m)] u L (v4 :: v3 :: v2 :: v1 :: .ref 1 :: r) (wd rr a kk ll w tt o1 o2 BB) = am_call C bud b m k u L [.ref 1, v1, v2, v3, v4] r (wd rr a kk ll w tt o1 o2 BB) := rfl
theorem e_v1_6 {v1 v2 v3 v4 v5 : Value} {z m : Nat} : am_s O C J P bud k (.invokevirtual z) (.retAddr b) 6 [(6, m)] u L (v5 :: v4 :: v3 :: v2 :: v1 :: .ref 1 :: r) (wd rr a kk ll w tt o1 o2 BB) = am_call C bud b m k u L [.ref 1, v1, v2, v3, v4, v5] r (wd rr a kk ll w tt o1 o2 BB) := rfl
theorem e_v13_1 {z m : Nat} : am_s O C J P bud k (.invokevirtual z) (.retAddr b) 1 [(6, m)] u L (.ref 13 :: r) (wd rr a kk ll w tt o1 o2 BB) = am_call C bud b m k u L [.ref 13] r (wd rr a kk ll w tt o1 o2 BB) := rfl
theorem e_v13_2 {v1 : Value} {z m : Nat} : am_s O C J P bud k (.invokevirtual z) (.retAddr b) 2 [(6, m)] u L (v1 :: .ref 13 :: r) (wd rr a kk ll w tt o1 o2 BB) = am_call C bud b m k u L [.ref 13, v1] r (wd rr a kk ll w tt o1 o2 BB) := rfl
theorem e_v13_3 {v1 v2 : Value} {z m : Nat} : am_s O C J P bud k (.invokevirtual z) (.retAddr b) 3 [(6, m)] u L (v2 :: v1 :: .ref 13 :: r) (wd rr a kk ll w tt o1 o2 BB) = am_call C bud b m k u L [.ref 13, v1, v2] r (wd rr a kk ll w tt o1 o2 BB) := rfl
theorem e_v13_4 {v1 v2 v3 : Value} {z m : Nat} : am_s O C J P bud k (.invokevirtual z) (.retAddr b) 4 [(6, m)] u L (v3 :: v2 :: v1 :: .ref 13 :: r) (wd rr a kk ll w tt o1 o2 BB) = am_call C bud b m k u L [.ref 13, v1, v2, v3] r (wd rr a kk ll w tt o1 o2 BB) := rfl
theorem e_v13_5 {v1 v2 v3 v4 : Value} {z m : Nat} : am_s O C J P bud k (.invokevirtual z) (.retAddr b) 5 [(6, m)] u L (v4 :: v3 :: v2 :: v1 :: .ref 13 :: r) (wd rr a kk ll w tt o1 o2 BB) = am_call C bud b m k u L [.ref 13, v1, v2, v3, v4] r (wd rr a kk ll w tt o1 o2 BB) := rfl
theorem e_v13_6 {v1 v2 v3 v4 v5 : Value} {z m : Nat} : am_s O C J P bud k (.invokevirtual z) (.retAddr b) 6 [(6, m)] u L (v5 :: v4 :: v3 :: v2 :: v1 :: .ref 13 :: r) (wd rr a kk ll w tt o1 o2 BB) = am_call C bud b m k u L [.ref 13, v1, v2, v3, v4, v5] r (wd rr a kk ll w tt o1 o2 BB) := rfl
theorem e_v25_1 {z m : Nat} : am_s O C J P bud k (.invokevirtual z) (.retAddr b) 1 [(6, m)] u L (.ref 25 :: r) (wd rr a kk ll w tt o1 o2 BB) = am_call C bud b m k u L [.ref 25] r (wd rr a kk ll w tt o1 o2 BB) := rfl
theorem e_v25_2 {v1 : Value} {z m : Nat} : am_s O C J P bud k (.invokevirtual z) (.retAddr b) 2 [(6, m)] u L (v1 :: .ref 25 :: r) (wd rr a kk ll w tt o1 o2 BB) = am_call C bud b m k u L [.ref 25, v1] r (wd rr a kk ll w tt o1 o2 BB) := rfl
theorem e_v25_3 {v1 v2 : Value} {z m : Nat} : am_s O C J P bud k (.invokevirtual z) (.retAddr b) 3 [(6, m)] u L (v2 :: v1 :: .ref 25 :: r) (wd rr a kk ll w tt o1 o2 BB) = am_call C bud b m k u L [.ref 25, v1, v2] r (wd rr a kk ll w tt o1 o2 BB) := rfl
theorem e_v25_4 {v1 v2 v3 : Value} {z m : Nat} : am_s O C J P bud k (.invokevirtual z) (.retAddr b) 4 [(6, m)] u L (v3 :: v2 :: v1 :: .ref 25 :: r) (wd rr a kk ll w tt o1 o2 BB) = am_call C bud b m k u L [.ref 25, v1, v2, v3] r (wd rr a kk ll w tt o1 o2 BB) := rfl
theorem e_v25_5 {v1 v2 v3 v4 : Value} {z m : Nat} : am_s O C J P bud k (.invokevirtual z) (.retAddr b) 5 [(6, m)] u L (v4 :: v3 :: v2 :: v1 :: .ref 25 :: r) (wd rr a kk ll w tt o1 o2 BB) = am_call C bud b m k u L [.ref 25, v1, v2, v3, v4] r (wd rr a kk ll w tt o1 o2 BB) := rfl
theorem e_v25_6 {v1 v2 v3 v4 v5 : Value} {z m : Nat} : am_s O C J P bud k (.invokevirtual z) (.retAddr b) 6 [(6, m)] u L (v5 :: v4 :: v3 :: v2 :: v1 :: .ref 25 :: r) (wd rr a kk ll w tt o1 o2 BB) = am_call C bud b m k u L [.ref 25, v1, v2, v3, v4, v5] r (wd rr a kk ll w tt o1 o2 BB) := rfl
theorem e_v7_1 {z m : Nat} : am_s O C J P bud k (.invokevirtual z) (.retAddr b) 1 [(10, m)] u L (.ref 7 :: r) (wd rr a kk ll w tt o1 o2 BB) = am_call C bud b m k u L [.ref 7] r (wd rr a kk ll w tt o1 o2 BB) := rfl
theorem e_v7_2 {v1 : Value} {z m : Nat} : am_s O C J P bud k (.invokevirtual z) (.retAddr b) 2 [(10, m)] u L (v1 :: .ref 7 :: r) (wd rr a kk ll w tt o1 o2 BB) = am_call C bud b m k u L [.ref 7, v1] r (wd rr a kk ll w tt o1 o2 BB) := rfl
theorem e_v7_3 {v1 v2 : Value} {z m : Nat} : am_s O C J P bud k (.invokevirtual z) (.retAddr b) 3 [(10, m)] u L (v2 :: v1 :: .ref 7 :: r) (wd rr a kk ll w tt o1 o2 BB) = am_call C bud b m k u L [.ref 7, v1, v2] r (wd rr a kk ll w tt o1 o2 BB) := rfl
theorem e_v7_4 {v1 v2 v3 : Value} {z m : Nat} : am_s O C J P bud k (.invokevirtual z) (.retAddr b) 4 [(10, m)] u L (v3 :: v2 :: v1 :: .ref 7 :: r) (wd rr a kk ll w tt o1 o2 BB) = am_call C bud b m k u L [.ref 7, v1, v2, v3] r (wd rr a kk ll w tt o1 o2 BB) := rfl
theorem e_v7_5 {v1 v2 v3 v4 : Value} {z m : Nat} : am_s O C J P bud k (.invokevirtual z) (.retAddr b) 5 [(10, m)] u L (v4 :: v3 :: v2 :: v1 :: .ref 7 :: r) (wd rr a kk ll w tt o1 o2 BB) = am_call C bud b m k u L [.ref 7, v1, v2, v3, v4] r (wd rr a kk ll w tt o1 o2 BB) := rfl
theorem e_v7_6 {v1 v2 v3 v4 v5 : Value} {z m : Nat} : am_s O C J P bud k (.invokevirtual z) (.retAddr b) 6 [(10, m)] u L (v5 :: v4 :: v3 :: v2 :: v1 :: .ref 7 :: r) (wd rr a kk ll w tt o1 o2 BB) = am_call C bud b m k u L [.ref 7, v1, v2, v3, v4, v5] r (wd rr a kk ll w tt o1 o2 BB) := rfl
theorem e_v19_1 {z m : Nat} : am_s O C J P bud k (.invokevirtual z) (.retAddr b) 1 [(10, m)] u L (.ref 19 :: r) (wd rr a kk ll w tt o1 o2 BB) = am_call C bud b m k u L [.ref 19] r (wd rr a kk ll w tt o1 o2 BB) := rfl
theorem e_v19_2 {v1 : Value} {z m : Nat} : am_s O C J P bud k (.invokevirtual z) (.retAddr b) 2 [(10, m)] u L (v1 :: .ref 19 :: r) (wd rr a kk ll w tt o1 o2 BB) = am_call C bud b m k u L [.ref 19, v1] r (wd rr a kk ll w tt o1 o2 BB) := rfl
theorem e_v19_3 {v1 v2 : Value} {z m : Nat} : am_s O C J P bud k (.invokevirtual z) (.retAddr b) 3 [(10, m)] u L (v2 :: v1 :: .ref 19 :: r) (wd rr a kk ll w tt o1 o2 BB) = am_call C bud b m k u L [.ref 19, v1, v2] r (wd rr a kk ll w tt o1 o2 BB) := rfl
theorem e_v19_4 {v1 v2 v3 : Value} {z m : Nat} : am_s O C J P bud k (.invokevirtual z) (.retAddr b) 4 [(10, m)] u L (v3 :: v2 :: v1 :: .ref 19 :: r) (wd rr a kk ll w tt o1 o2 BB) = am_call C bud b m k u L [.ref 19, v1, v2, v3] r (wd rr a kk ll w tt o1 o2 BB) := rfl
theorem e_v19_5 {v1 v2 v3 v4 : Value} {z m : Nat} : am_s O C J P bud k (.invokevirtual z) (.retAddr b) 5 [(10, m)] u L (v4 :: v3 :: v2 :: v1 :: .ref 19 :: r) (wd rr a kk ll w tt o1 o2 BB) = am_call C bud b m k u L [.ref 19, v1, v2, v3, v4] r (wd rr a kk ll w tt o1 o2 BB) := rfl
theorem e_v19_6 {v1 v2 v3 v4 v5 : Value} {z m : Nat} : am_s O C J P bud k (.invokevirtual z) (.retAddr b) 6 [(10, m)] u L (v5 :: v4 :: v3 :: v2 :: v1 :: .ref 19 :: r) (wd rr a kk ll w tt o1 o2 BB) = am_call C bud b m k u L [.ref 19, v1, v2, v3, v4, v5] r (wd rr a kk ll w tt o1 o2 BB) := rfl
theorem e_v31_1 {z m : Nat} : am_s O C J P bud k (.invokevirtual z) (.retAddr b) 1 [(10, m)] u L (.ref 31 :: r) (wd rr a kk ll w tt o1 o2 BB) = am_call C bud b m k u L [.ref 31] r (wd rr a kk ll w tt o1 o2 BB) := rfl
theorem e_v31_2 {v1 : Value} {z m : Nat} : am_s O C J P bud k (.invokevirtual z) (.retAddr b) 2 [(10, m)] u L (v1 :: .ref 31 :: r) (wd rr a kk ll w tt o1 o2 BB) = am_call C bud b m k u L [.ref 31, v1] r (wd rr a kk ll w tt o1 o2 BB) := rfl
theorem e_v31_3 {v1 v2 : Value} {z m : Nat} : am_s O C J P bud k (.invokevirtual z) (.retAddr b) 3 [(10, m)] u L (v2 :: v1 :: .ref 31 :: r) (wd rr a kk ll w tt o1 o2 BB) = am_call C bud b m k u L [.ref 31, v1, v2] r (wd rr a kk ll w tt o1 o2 BB) := rfl
theorem e_v31_4 {v1 v2 v3 : Value} {z m : Nat} : am_s O C J P bud k (.invokevirtual z) (.retAddr b) 4 [(10, m)] u L (v3 :: v2 :: v1 :: .ref 31 :: r) (wd rr a kk ll w tt o1 o2 BB) = am_call C bud b m k u L [.ref 31, v1, v2, v3] r (wd rr a kk ll w tt o1 o2 BB) := rfl
theorem e_v31_5 {v1 v2 v3 v4 : Value} {z m : Nat} : am_s O C J P bud k (.invokevirtual z) (.retAddr b) 5 [(10, m)] u L (v4 :: v3 :: v2 :: v1 :: .ref 31 :: r) (wd rr a kk ll w tt o1 o2 BB) = am_call C bud b m k u L [.ref 31, v1, v2, v3, v4] r (wd rr a kk ll w tt o1 o2 BB) := rfl
theorem e_v31_6 {v1 v2 v3 v4 v5 : Value} {z m : Nat} : am_s O C J P bud k (.invokevirtual z) (.retAddr b) 6 [(10, m)] u L (v5 :: v4 :: v3 :: v2 :: v1 :: .ref 31 :: r) (wd rr a kk ll w tt o1 o2 BB) = am_call C bud b m k u L [.ref 31, v1, v2, v3, v4, v5] r (wd rr a kk ll w tt o1 o2 BB) := rfl
theorem e_v37_1 {z m : Nat} : am_s O C J P bud k (.invokevirtual z) (.retAddr b) 1 [(10, m)] u L (.ref 37 :: r) (wd rr a kk ll w tt o1 o2 BB) = am_call C bud b m k u L [.ref 37] r (wd rr a kk ll w tt o1 o2 BB) := rfl
theorem e_v37_2 {v1 : Value} {z m : Nat} : am_s O C J P bud k (.invokevirtual z) (.retAddr b) 2 [(10, m)] u L (v1 :: .ref 37 :: r) (wd rr a kk ll w tt o1 o2 BB) = am_call C bud b m k u L [.ref 37, v1] r (wd rr a kk ll w tt o1 o2 BB) := rfl
theorem e_v37_3 {v1 v2 : Value} {z m : Nat} : am_s O C J P bud k (.invokevirtual z) (.retAddr b) 3 [(10, m)] u L (v2 :: v1 :: .ref 37 :: r) (wd rr a kk ll w tt o1 o2 BB) = am_call C bud b m k u L [.ref 37, v1, v2] r (wd rr a kk ll w tt o1 o2 BB) := rfl
theorem e_v37_4 {v1 v2 v3 : Value} {z m : Nat} : am_s O C J P bud k (.invokevirtual z) (.retAddr b) 4 [(10, m)] u L (v3 :: v2 :: v1 :: .ref 37 :: r) (wd rr a kk ll w tt o1 o2 BB) = am_call C bud b m k u L [.ref 37, v1, v2, v3] r (wd rr a kk ll w tt o1 o2 BB) := rfl
theorem e_v37_5 {v1 v2 v3 v4 : Value} {z m : Nat} : am_s O C J P bud k (.invokevirtual z) (.retAddr b) 5 [(10, m)] u L (v4 :: v3 :: v2 :: v1 :: .ref 37 :: r) (wd rr a kk ll w tt o1 o2 BB) = am_call C bud b m k u L [.ref 37, v1, v2, v3, v4] r (wd rr a kk ll w tt o1 o2 BB) := rfl
theorem e_v37_6 {v1 v2 v3 v4 v5 : Value} {z m : Nat} : am_s O C J P bud k (.invokevirtual z) (.retAddr b) 6 [(10, m)] u L (v5 :: v4 :: v3 :: v2 :: v1 :: .ref 37 :: r) (wd rr a kk ll w tt o1 o2 BB) = am_call C bud b m k u L [.ref 37, v1, v2, v3, v4, v5] r (wd rr a kk ll w tt o1 o2 BB) := rfl
theorem e_v40_1 {z m : Nat} : am_s O C J P bud k (.invokevirtual z) (.retAddr b) 1 [(1, m)] u L (.ref 40 :: r) (wd rr a kk ll w tt o1 o2 BB) = am_call C bud b m k u L [.ref 40] r (wd rr a kk ll w tt o1 o2 BB) := rfl
theorem e_v40_2 {v1 : Value} {z m : Nat} : am_s O C J P bud k (.invokevirtual z) (.retAddr b) 2 [(1, m)] u L (v1 :: .ref 40 :: r) (wd rr a kk ll w tt o1 o2 BB) = am_call C bud b m k u L [.ref 40, v1] r (wd rr a kk ll w tt o1 o2 BB) := rfl
theorem e_v40_3 {v1 v2 : Value} {z m : Nat} : am_s O C J P bud k (.invokevirtual z) (.retAddr b) 3 [(1, m)] u L (v2 :: v1 :: .ref 40 :: r) (wd rr a kk ll w tt o1 o2 BB) = am_call C bud b m k u L [.ref 40, v1, v2] r (wd rr a kk ll w tt o1 o2 BB) := rfl
theorem e_v40_4 {v1 v2 v3 : Value} {z m : Nat} : am_s O C J P bud k (.invokevirtual z) (.retAddr b) 4 [(1, m)] u L (v3 :: v2 :: v1 :: .ref 40 :: r) (wd rr a kk ll w tt o1 o2 BB) = am_call C bud b m k u L [.ref 40, v1, v2, v3] r (wd rr a kk ll w tt o1 o2 BB) := rfl
theorem e_v40_5 {v1 v2 v3 v4 : Value} {z m : Nat} : am_s O C J P bud k (.invokevirtual z) (.retAddr b) 5 [(1, m)] u L (v4 :: v3 :: v2 :: v1 :: .ref 40 :: r) (wd rr a kk ll w tt o1 o2 BB) = am_call C bud b m k u L [.ref 40, v1, v2, v3, v4] r (wd rr a kk ll w tt o1 o2 BB) := rfl
theorem e_v40_6 {v1 v2 v3 v4 v5 : Value} {z m : Nat} : am_s O C J P bud k (.invokevirtual z) (.retAddr b) 6 [(1, m)] u L (v5 :: v4 :: v3 :: v2 :: v1 :: .ref 40 :: r) (wd rr a kk ll w tt o1 o2 BB) = am_call C bud b m k u L [.ref 40, v1, v2, v3, v4, v5] r (wd rr a kk ll w tt o1 o2 BB) := rfl
theorem e_v43_1 {z m : Nat} : am_s O C J P bud k (.invokevirtual z) (.retAddr b) 1 [(8, m)] u L (.ref 43 :: r) (wd rr a kk ll w tt o1 o2 BB) = am_call C bud b m k u L [.ref 43] r (wd rr a kk ll w tt o1 o2 BB) := rfl
theorem e_v43_2 {v1 : Value} {z m : Nat} : am_s O C J P bud k (.invokevirtual z) (.retAddr b) 2 [(8, m)] u L (v1 :: .ref 43 :: r) (wd rr a kk ll w tt o1 o2 BB) = am_call C bud b m k u L [.ref 43, v1] r (wd rr a kk ll w tt o1 o2 BB) := rfl
theorem e_v43_3 {v1 v2 : Value} {z m : Nat} : am_s O C J P bud k (.invokevirtual z) (.retAddr b) 3 [(8, m)] u L (v2 :: v1 :: .ref 43 :: r) (wd rr a kk ll w tt o1 o2 BB) = am_call C bud b m k u L [.ref 43, v1, v2] r (wd rr a kk ll w tt o1 o2 BB) := rfl
theorem e_v43_4 {v1 v2 v3 : Value} {z m : Nat} : am_s O C J P bud k (.invokevirtual z) (.retAddr b) 4 [(8, m)] u L (v3 :: v2 :: v1 :: .ref 43 :: r) (wd rr a kk ll w tt o1 o2 BB) = am_call C bud b m k u L [.ref 43, v1, v2, v3] r (wd rr a kk ll w tt o1 o2 BB) := rfl
theorem e_v43_5 {v1 v2 v3 v4 : Value} {z m : Nat} : am_s O C J P bud k (.invokevirtual z) (.retAddr b) 5 [(8, m)] u L (v4 :: v3 :: v2 :: v1 :: .ref 43 :: r) (wd rr a kk ll w tt o1 o2 BB) = am_call C bud b m k u L [.ref 43, v1, v2, v3, v4] r (wd rr a kk ll w tt o1 o2 BB) := rfl
theorem e_v43_6 {v1 v2 v3 v4 v5 : Value} {z m : Nat} : am_s O C J P bud k (.invokevirtual z) (.retAddr b) 6 [(8, m)] u L (v5 :: v4 :: v3 :: v2 :: v1 :: .ref 43 :: r) (wd rr a kk ll w tt o1 o2 BB) = am_call C bud b m k u L [.ref 43, v1, v2, v3, v4, v5] r (wd rr a kk ll w tt o1 o2 BB) := rfl
theorem e_v45_1 {z m : Nat} : am_s O C J P bud k (.invokevirtual z) (.retAddr b) 1 [(12, m)] u L (.ref 45 :: r) (wd rr a kk ll w tt o1 o2 BB) = am_call C bud b m k u L [.ref 45] r (wd rr a kk ll w tt o1 o2 BB) := rfl
theorem e_v45_2 {v1 : Value} {z m : Nat} : am_s O C J P bud k (.invokevirtual z) (.retAddr b) 2 [(12, m)] u L (v1 :: .ref 45 :: r) (wd rr a kk ll w tt o1 o2 BB) = am_call C bud b m k u L [.ref 45, v1] r (wd rr a kk ll w tt o1 o2 BB) := rfl
theorem e_v45_3 {v1 v2 : Value} {z m : Nat} : am_s O C J P bud k (.invokevirtual z) (.retAddr b) 3 [(12, m)] u L (v2 :: v1 :: .ref 45 :: r) (wd rr a kk ll w tt o1 o2 BB) = am_call C bud b m k u L [.ref 45, v1, v2] r (wd rr a kk ll w tt o1 o2 BB) := rfl
theorem e_v45_4 {v1 v2 v3 : Value} {z m : Nat} : am_s O C J P bud k (.invokevirtual z) (.retAddr b) 4 [(12, m)] u L (v3 :: v2 :: v1 :: .ref 45 :: r) (wd rr a kk ll w tt o1 o2 BB) = am_call C bud b m k u L [.ref 45, v1, v2, v3] r (wd rr a kk ll w tt o1 o2 BB) := rfl
theorem e_v45_5 {v1 v2 v3 v4 : Value} {z m : Nat} : am_s O C J P bud k (.invokevirtual z) (.retAddr b) 5 [(12, m)] u L (v4 :: v3 :: v2 :: v1 :: .ref 45 :: r) (wd rr a kk ll w tt o1 o2 BB) = am_call C bud b m k u L [.ref 45, v1, v2, v3, v4] r (wd rr a kk ll w tt o1 o2 BB) := rfl
theorem e_v45_6 {v1 v2 v3 v4 v5 : Value} {z m : Nat} : am_s O C J P bud k (.invokevirtual z) (.retAddr b) 6 [(12, m)] u L (v5 :: v4 :: v3 :: v2 :: v1 :: .ref 45 :: r) (wd rr a kk ll w tt o1 o2 BB) = am_call C bud b m k u L [.ref 45, v1, v2, v3, v4, v5] r (wd rr a kk ll w tt o1 o2 BB) := rfl
theorem e_vs1 {z m q0 : Nat} : am_s O C J P bud k (.invokevirtual z) (.retAddr b) 1 [(99, m)] u L (.retAddr q0 :: r) h = (q0 < 12 ∧ am_call C bud b m k u L [.retAddr q0] r h) := rfl
theorem e_vs2 {v1 : Value} {z m q0 : Nat} : am_s O C J P bud k (.invokevirtual z) (.retAddr b) 2 [(99, m)] u L (v1 :: .retAddr q0 :: r) h = (q0 < 12 ∧ am_call C bud b m k u L [.retAddr q0, v1] r h) := rfl
theorem e_stat0 {z m i0 : Nat}  : am_s O C J P bud k (.invokestatic z) (.retAddr b) 0 [(i0, m)] u L (r) h = am_call C bud b m k u L [] r h := rfl
theorem e_stat1 {z m i0 : Nat} {v0 : Value} : am_s O C J P bud k (.invokestatic z) (.retAddr b) 1 [(i0, m)] u L (v0 :: r) h = am_call C bud b m k u L [v0] r h := rfl
theorem e_stat2 {z m i0 : Nat} {v0 : Value} {v1 : Value} : am_s O C J P bud k (.invokestatic z) (.retAddr b) 2 [(i0, m)] u L (v1 :: v0 :: r) h = am_call C bud b m k u L [v0, v1] r h := rfl
theorem e_stat3 {z m i0 : Nat} {v0 : Value} {v1 : Value} {v2 : Value} : am_s O C J P bud k (.invokestatic z) (.retAddr b) 3 [(i0, m)] u L (v2 :: v1 :: v0 :: r) h = am_call C bud b m k u L [v0, v1, v2] r h := rfl
theorem e_stat4 {z m i0 : Nat} {v0 : Value} {v1 : Value} {v2 : Value} {v3 : Value} : am_s O C J P bud k (.invokestatic z) (.retAddr b) 4 [(i0, m)] u L (v3 :: v2 :: v1 :: v0 :: r) h = am_call C bud b m k u L [v0, v1, v2, v3] r h := rfl
theorem e_stat5 {z m i0 : Nat} {v0 : Value} {v1 : Value} {v2 : Value} {v3 : Value} {v4 : Value} : am_s O C J P bud k (.invokestatic z) (.retAddr b) 5 [(i0, m)] u L (v4 :: v3 :: v2 :: v1 :: v0 :: r) h = am_call C bud b m k u L [v0, v1, v2, v3, v4] r h := rfl
theorem e_obj : am_s O C J P bud k .pop2 v n t u L (.ref b :: r) h = (r.length ≤ 4 ∧ k u L r h) := rfl
theorem e_ireturn : am_s O C J P bud k (.ireturn) v n t u L ([.int x]) h = P (some (.int x)) h := rfl
theorem e_zreturn : am_s O C J P bud k (.freturn) v n t u L ([.int x]) h = ((x = 0 ∨ x = 1) ∧ P (some (.int x)) h) := rfl
theorem e_creturn : am_s O C J P bud k (.dreturn) v n t u L ([.int x]) h = ((if n = 0 then narrow .byte (.int x) = .int x else narrow .char (.int x) = .int x) ∧ P (some (.int x)) h) := rfl
theorem e_lreturn : am_s O C J P bud k (.lreturn) v n t u L ([.long p]) h = P (some (.long p)) h := rfl
theorem e_areturn_r : am_s O C J P bud k (.areturn) v n t u L ([.ref b]) h = P (some (.ref b)) h := rfl
theorem e_areturn_n : am_s O C J P bud k (.areturn) v n t u L ([.null]) h = P (some .null) h := rfl
theorem e_return : am_s O C J P bud k (.return_) v n t u L ([]) h = P none h := rfl
theorem e_lg0 {x0 : Option Value} {l : am_L} : am_lg (x0 :: l) 0 = x0 := rfl
theorem e_l1_0 {x0 : Option Value} {l : am_L} : am_l1 (x0 :: l) 0 v = some v :: l := rfl
theorem e_l2_0 {x0 xx : Option Value} {l : am_L} : am_l2 (x0 :: xx :: l) 0 v = some v :: none :: l := rfl
theorem e_lg1 {x0 x1 : Option Value} {l : am_L} : am_lg (x0 :: x1 :: l) 1 = x1 := rfl
theorem e_l1_1 {x0 x1 : Option Value} {l : am_L} : am_l1 (x0 :: x1 :: l) 1 v = am_c1 x0 :: some v :: l := rfl
theorem e_l2_1 {x0 x1 xx : Option Value} {l : am_L} : am_l2 (x0 :: x1 :: xx :: l) 1 v = am_c1 x0 :: some v :: none :: l := rfl
theorem e_lg2 {x0 x1 x2 : Option Value} {l : am_L} : am_lg (x0 :: x1 :: x2 :: l) 2 = x2 := rfl
theorem e_l1_2 {x0 x1 x2 : Option Value} {l : am_L} : am_l1 (x0 :: x1 :: x2 :: l) 2 v = x0 :: am_c1 x1 :: some v :: l := rfl
theorem e_l2_2 {x0 x1 x2 xx : Option Value} {l : am_L} : am_l2 (x0 :: x1 :: x2 :: xx :: l) 2 v = x0 :: am_c1 x1 :: some v :: none :: l := rfl
theorem e_lg3 {x0 x1 x2 x3 : Option Value} {l : am_L} : am_lg (x0 :: x1 :: x2 :: x3 :: l) 3 = x3 := rfl
theorem e_l1_3 {x0 x1 x2 x3 : Option Value} {l : am_L} : am_l1 (x0 :: x1 :: x2 :: x3 :: l) 3 v = x0 :: x1 :: am_c1 x2 :: some v :: l := rfl
theorem e_l2_3 {x0 x1 x2 x3 xx : Option Value} {l : am_L} : am_l2 (x0 :: x1 :: x2 :: x3 :: xx :: l) 3 v = x0 :: x1 :: am_c1 x2 :: some v :: none :: l := rfl
theorem e_lg4 {x0 x1 x2 x3 x4 : Option Value} {l : am_L} : am_lg (x0 :: x1 :: x2 :: x3 :: x4 :: l) 4 = x4 := rfl
theorem e_l1_4 {x0 x1 x2 x3 x4 : Option Value} {l : am_L} : am_l1 (x0 :: x1 :: x2 :: x3 :: x4 :: l) 4 v = x0 :: x1 :: x2 :: am_c1 x3 :: some v :: l := rfl
theorem e_l2_4 {x0 x1 x2 x3 x4 xx : Option Value} {l : am_L} : am_l2 (x0 :: x1 :: x2 :: x3 :: x4 :: xx :: l) 4 v = x0 :: x1 :: x2 :: am_c1 x3 :: some v :: none :: l := rfl
theorem e_lg5 {x0 x1 x2 x3 x4 x5 : Option Value} {l : am_L} : am_lg (x0 :: x1 :: x2 :: x3 :: x4 :: x5 :: l) 5 = x5 := rfl
theorem e_l1_5 {x0 x1 x2 x3 x4 x5 : Option Value} {l : am_L} : am_l1 (x0 :: x1 :: x2 :: x3 :: x4 :: x5 :: l) 5 v = x0 :: x1 :: x2 :: x3 :: am_c1 x4 :: some v :: l := rfl
theorem e_l2_5 {x0 x1 x2 x3 x4 x5 xx : Option Value} {l : am_L} : am_l2 (x0 :: x1 :: x2 :: x3 :: x4 :: x5 :: xx :: l) 5 v = x0 :: x1 :: x2 :: x3 :: am_c1 x4 :: some v :: none :: l := rfl
theorem e_lg6 {x0 x1 x2 x3 x4 x5 x6 : Option Value} {l : am_L} : am_lg (x0 :: x1 :: x2 :: x3 :: x4 :: x5 :: x6 :: l) 6 = x6 := rfl
theorem e_l1_6 {x0 x1 x2 x3 x4 x5 x6 : Option Value} {l : am_L} : am_l1 (x0 :: x1 :: x2 :: x3 :: x4 :: x5 :: x6 :: l) 6 v = x0 :: x1 :: x2 :: x3 :: x4 :: am_c1 x5 :: some v :: l := rfl
theorem e_l2_6 {x0 x1 x2 x3 x4 x5 x6 xx : Option Value} {l : am_L} : am_l2 (x0 :: x1 :: x2 :: x3 :: x4 :: x5 :: x6 :: xx :: l) 6 v = x0 :: x1 :: x2 :: x3 :: x4 :: am_c1 x5 :: some v :: none :: l := rfl
theorem e_lg7 {x0 x1 x2 x3 x4 x5 x6 x7 : Option Value} {l : am_L} : am_lg (x0 :: x1 :: x2 :: x3 :: x4 :: x5 :: x6 :: x7 :: l) 7 = x7 := rfl
theorem e_l1_7 {x0 x1 x2 x3 x4 x5 x6 x7 : Option Value} {l : am_L} : am_l1 (x0 :: x1 :: x2 :: x3 :: x4 :: x5 :: x6 :: x7 :: l) 7 v = x0 :: x1 :: x2 :: x3 :: x4 :: x5 :: am_c1 x6 :: some v :: l := rfl
theorem e_l2_7 {x0 x1 x2 x3 x4 x5 x6 x7 xx : Option Value} {l : am_L} : am_l2 (x0 :: x1 :: x2 :: x3 :: x4 :: x5 :: x6 :: x7 :: xx :: l) 7 v = x0 :: x1 :: x2 :: x3 :: x4 :: x5 :: am_c1 x6 :: some v :: none :: l := rfl
theorem e_lg8 {x0 x1 x2 x3 x4 x5 x6 x7 x8 : Option Value} {l : am_L} : am_lg (x0 :: x1 :: x2 :: x3 :: x4 :: x5 :: x6 :: x7 :: x8 :: l) 8 = x8 := rfl
theorem e_l1_8 {x0 x1 x2 x3 x4 x5 x6 x7 x8 : Option Value} {l : am_L} : am_l1 (x0 :: x1 :: x2 :: x3 :: x4 :: x5 :: x6 :: x7 :: x8 :: l) 8 v = x0 :: x1 :: x2 :: x3 :: x4 :: x5 :: x6 :: am_c1 x7 :: some v :: l := rfl
theorem e_l2_8 {x0 x1 x2 x3 x4 x5 x6 x7 x8 xx : Option Value} {l : am_L} : am_l2 (x0 :: x1 :: x2 :: x3 :: x4 :: x5 :: x6 :: x7 :: x8 :: xx :: l) 8 v = x0 :: x1 :: x2 :: x3 :: x4 :: x5 :: x6 :: am_c1 x7 :: some v :: none :: l := rfl
theorem e_lg9 {x0 x1 x2 x3 x4 x5 x6 x7 x8 x9 : Option Value} {l : am_L} : am_lg (x0 :: x1 :: x2 :: x3 :: x4 :: x5 :: x6 :: x7 :: x8 :: x9 :: l) 9 = x9 := rfl
theorem e_l1_9 {x0 x1 x2 x3 x4 x5 x6 x7 x8 x9 : Option Value} {l : am_L} : am_l1 (x0 :: x1 :: x2 :: x3 :: x4 :: x5 :: x6 :: x7 :: x8 :: x9 :: l) 9 v = x0 :: x1 :: x2 :: x3 :: x4 :: x5 :: x6 :: x7 :: am_c1 x8 :: some v :: l := rfl
theorem e_l2_9 {x0 x1 x2 x3 x4 x5 x6 x7 x8 x9 xx : Option Value} {l : am_L} : am_l2 (x0 :: x1 :: x2 :: x3 :: x4 :: x5 :: x6 :: x7 :: x8 :: x9 :: xx :: l) 9 v = x0 :: x1 :: x2 :: x3 :: x4 :: x5 :: x6 :: x7 :: am_c1 x8 :: some v :: none :: l := rfl
theorem e_lg10 {x0 x1 x2 x3 x4 x5 x6 x7 x8 x9 x10 : Option Value} {l : am_L} : am_lg (x0 :: x1 :: x2 :: x3 :: x4 :: x5 :: x6 :: x7 :: x8 :: x9 :: x10 :: l) 10 = x10 := rfl
theorem e_l1_10 {x0 x1 x2 x3 x4 x5 x6 x7 x8 x9 x10 : Option Value} {l : am_L} : am_l1 (x0 :: x1 :: x2 :: x3 :: x4 :: x5 :: x6 :: x7 :: x8 :: x9 :: x10 :: l) 10 v = x0 :: x1 :: x2 :: x3 :: x4 :: x5 :: x6 :: x7 :: x8 :: am_c1 x9 :: some v :: l := rfl
theorem e_l2_10 {x0 x1 x2 x3 x4 x5 x6 x7 x8 x9 x10 xx : Option Value} {l : am_L} : am_l2 (x0 :: x1 :: x2 :: x3 :: x4 :: x5 :: x6 :: x7 :: x8 :: x9 :: x10 :: xx :: l) 10 v = x0 :: x1 :: x2 :: x3 :: x4 :: x5 :: x6 :: x7 :: x8 :: am_c1 x9 :: some v :: none :: l := rfl
theorem e_lg11 {x0 x1 x2 x3 x4 x5 x6 x7 x8 x9 x10 x11 : Option Value} {l : am_L} : am_lg (x0 :: x1 :: x2 :: x3 :: x4 :: x5 :: x6 :: x7 :: x8 :: x9 :: x10 :: x11 :: l) 11 = x11 := rfl
theorem e_l1_11 {x0 x1 x2 x3 x4 x5 x6 x7 x8 x9 x10 x11 : Option Value} {l : am_L} : am_l1 (x0 :: x1 :: x2 :: x3 :: x4 :: x5 :: x6 :: x7 :: x8 :: x9 :: x10 :: x11 :: l) 11 v = x0 :: x1 :: x2 :: x3 :: x4 :: x5 :: x6 :: x7 :: x8 :: x9 :: am_c1 x10 :: some v :: l := rfl
theorem e_l2_11 {x0 x1 x2 x3 x4 x5 x6 x7 x8 x9 x10 x11 xx : Option Value} {l : am_L} : am_l2 (x0 :: x1 :: x2 :: x3 :: x4 :: x5 :: x6 :: x7 :: x8 :: x9 :: x10 :: x11 :: xx :: l) 11 v = x0 :: x1 :: x2 :: x3 :: x4 :: x5 :: x6 :: x7 :: x8 :: x9 :: am_c1 x10 :: some v :: none :: l := rfl
theorem e_c1n : am_c1 none = none := rfl
theorem e_c1i : am_c1 (some (.int x)) = some (.int x) := rfl
theorem e_c1r : am_c1 (some (.ref b)) = some (.ref b) := rfl
theorem e_c1o : am_c1 (some (.retAddr b)) = some (.retAddr b) := rfl
theorem e_c10 : am_c1 (some .null) = some .null := rfl
theorem e_c1l : am_c1 (some (.long p)) = none := rfl
theorem e_rfr : am_ref (.ref b) = True := rfl
theorem e_rfn : am_ref .null = True := rfl
theorem e_rfo : am_ref (.retAddr b) = True := rfl
end AME
/-- a method's run from its first block -/
theorem am_go {O : am_O} {d m : Nat} {as : List Value} {h : am_H} {P : am_P} (M : am_M) (hM : am_pg m = M) (hsz : am_sz as ≤ M.1) (hW : ∀ J, am_cld O (am_run O am_pg d) P M J → J 0 0 (am_l0 M.1 as) [] h) : am_run O am_pg (d + 1) m as h P := by
  subst hM
  exact ⟨hsz, hW⟩
