/-! An abstract machine: values name cells by their place in a list (.ref i: the i-th cell that was made since the law began; .retAddr k: something that was there before), the heap is the list of the made cells. Blocks of instructions are predicate transformers. -/
abbrev am_H : Type := List va_E
abbrev am_L : Type := List (Option Value)
abbrev am_K : Type := Nat → am_L → List Value → am_H → Prop
abbrev am_P : Type := Option Value → am_H → Prop
abbrev am_C : Type := Nat → List Value → am_H → am_P → Prop
abbrev am_J : Type := Nat → am_K
abbrev am_O : Type := Nat → Nat × (Nat → Int32)
/-- an instruction: what is done, a constant, a number, a table -/
abbrev am_A : Type := Instr × Value × Nat × List (Nat × Nat)
/-- locals -/
def am_lg : am_L → Nat → Option Value
  | [], _ => none
  | a :: _, 0 => a
  | _ :: l, i + 1 => am_lg l i
def am_c1 (a : Option Value) : Option Value := match a with
  | some (.long _) => none
  | some (.double _) => none
  | a => a
def am_l1 : am_L → Nat → Value → am_L
  | [], _, _ => []
  | _ :: l, 0, v => some v :: l
  | a :: l, i + 1, v => (match i with | 0 => am_c1 a | _ + 1 => a) :: am_l1 l i v
def am_l2 : am_L → Nat → Value → am_L
  | [], _, _ => []
  | _ :: l, 0, v => some v :: (match l with | [] => [] | _ :: r => none :: r)
  | a :: l, i + 1, v => (match i with | 0 => am_c1 a | _ + 1 => a) :: am_l2 l i v
/-- locals at a method's entry -/
def am_l0 : Nat → List Value → am_L
  | n, [] => List.replicate n none
  | n, .long x :: r => some (.long x) :: none :: am_l0 (n - 2) r
  | n, .double x :: r => some (.double x) :: none :: am_l0 (n - 2) r
  | n, v :: r => some v :: am_l0 (n - 1) r
def am_hg (h : am_H) (a : Nat) : Option va_E := h[a]?
def am_hs (h : am_H) (a : Nat) (c : va_E) : am_H := h.set a c
def am_hp (h : am_H) (c : va_E) : am_H := h ++ [c]
def am_hl (h : am_H) : Nat := h.length
/-- reading and writing cells -/
def am_gf (h : am_H) (a n : Nat) (t : List (Nat × Nat)) (k : Value → Prop) : Prop := match am_hg h a with
  | some (.inr (c, fs)) => (t.any fun q => q.1 == c) = true ∧ match fs[n]? with
    | some v => k v
    | none => False
  | _ => False
/-- 0 int, 1 boolean, 2 long, 3 a reference -/
def am_fit (t : Nat) (v : Value) : Prop := match t, v with
  | 0, .int _ => True
  | 1, .int x => x = 0 ∨ x = 1
  | 2, .long _ => True
  | 3, .null => True
  | 3, .ref _ => True
  | 3, .retAddr _ => True
  | _, _ => False
def am_pf (h : am_H) (a n : Nat) (v : Value) (t : List (Nat × Nat)) (k : am_H → Prop) : Prop := match am_hg h a, t with
  | some (.inr (c, fs)), [(c', g)] => c' = c ∧ n < fs.length ∧ am_fit g v ∧ k (am_hs h a (.inr (c, fs.set n v)))
  | _, _ => False
/-- a constructor writes a final field of an object of any of its subclasses -/
def am_pF (h : am_H) (a n : Nat) (v : Value) (t : List (Nat × Nat)) (k : am_H → Prop) : Prop := match am_hg h a with
  | some (.inr (c, fs)) => (t.any fun q => q.1 == c) = true ∧ n < fs.length ∧ am_fit 0 v ∧ k (am_hs h a (.inr (c, fs.set n v)))
  | _ => False
def am_ia (h : am_H) (a tc : Nat) (i : Int32) (k : Int32 → Prop) : Prop := match am_hg h a with
  | some (.inl (t, n, .inl f)) => t = tc ∧ vp_in i n ∧ k (f i.toNatClampNeg)
  | _ => False
def am_is (h : am_H) (a tc : Nat) (i x : Int32) (k : am_H → Prop) : Prop := match am_hg h a with
  | some (.inl (t, n, .inl f)) => t = tc ∧ vp_in i n ∧ k (am_hs h a (.inl (t, n, .inl (upd f i.toNatClampNeg x))))
  | _ => False
def am_la (h : am_H) (a : Nat) (i : Int32) (k : Int64 → Prop) : Prop := match am_hg h a with
  | some (.inl (t, n, .inr (.inl f))) => t = 3 ∧ vp_in i n ∧ k (f i.toNatClampNeg)
  | _ => False
def am_lS (h : am_H) (a : Nat) (i : Int32) (x : Int64) (k : am_H → Prop) : Prop := match am_hg h a with
  | some (.inl (t, n, .inr (.inl f))) => t = 3 ∧ vp_in i n ∧ k (am_hs h a (.inl (t, n, .inr (.inl (vp_updL f i.toNatClampNeg x)))))
  | _ => False
def am_rv (r : Option Nat) : Value := match r with
  | none => .null
  | some a => .ref a
def am_aa (h : am_H) (a : Nat) (i : Int32) (k : Value → Prop) : Prop := match am_hg h a with
  | some (.inl (t, n, .inr (.inr (.inr (.inr f))))) => t = 4 ∧ vp_in i n ∧ k (am_rv (f i.toNatClampNeg))
  | _ => False
/-- the kinds of boys: classes 0, 2, 3, 4, 5, 7, 9 -/
def am_kd (c : Nat) : Bool := [3, 2, 4, 7, 9, 0, 5].any fun q => q == c
def am_aS (h : am_H) (a : Nat) (i : Int32) (x : Value) (k : am_H → Prop) : Prop := match am_hg h a with
  | some (.inl (t, n, .inr (.inr (.inr (.inr f))))) => t = 4 ∧ vp_in i n ∧ match x with
    | .null => k (am_hs h a (.inl (t, n, .inr (.inr (.inr (.inr (va_up f i.toNatClampNeg none)))))))
    | .ref q => (match am_hg h q with
      | some (.inr (c, _)) => am_kd c = true
      | _ => False) ∧ k (am_hs h a (.inl (t, n, .inr (.inr (.inr (.inr (va_up f i.toNatClampNeg (some q))))))))
    | _ => False
  | _ => False
def am_al (h : am_H) (a : Nat) (k : Int32 → Prop) : Prop := match am_hg h a with
  | some (.inl (t, n, _)) => t < 5 ∧ k (Int32.ofNat n)
  | _ => False
/-- a new array of zeros: 0 int, 1 byte, 2 boolean, 3 long -/
def am_nz (tc n : Nat) : va_E := if tc = 3 then .inl (3, n, .inr (.inl fun _ => 0)) else .inl (tc, n, .inl fun _ => 0)
def am_cp (h : am_H) (a d tc : Nat) (sp dp n : Int32) (k : am_H → Prop) : Prop := match am_hg h a, am_hg h d with
  | some (.inl (t0, n0, .inl f)), some (.inl (t1, n1, .inl g)) => t0 = tc ∧ t1 = tc ∧ ¬ sp < 0 ∧ ¬ dp < 0 ∧ ¬ n < 0 ∧ sp.toNatClampNeg + n.toNatClampNeg ≤ n0 ∧ dp.toNatClampNeg + n.toNatClampNeg ≤ n1 ∧ (tc = 1 → ∀ i, i < n.toNatClampNeg → fits .byte (.int (f (sp.toNatClampNeg + i))) = true) ∧ k (am_hs h d (.inl (t1, n1, .inl (va_cpy f g sp.toNatClampNeg dp.toNatClampNeg n.toNatClampNeg))))
  | _, _ => False
/-- arguments off the stack -/
def am_pop (n : Nat) (st : List Value) (k : List Value → List Value → Prop) : Prop := match n, st with
  | 0, r => k [] r
  | 1, a :: r => k [a] r
  | 2, b :: a :: r => k [a, b] r
  | 3, c :: b :: a :: r => k [a, b, c] r
  | 4, d :: c :: b :: a :: r => k [a, b, c, d] r
  | 5, e :: d :: c :: b :: a :: r => k [a, b, c, d, e] r
  | 6, f :: e :: d :: c :: b :: a :: r => k [a, b, c, d, e, f] r
  | _, _ => False
def am_call (C : am_C) (bud b mno : Nat) (k : am_K) (u : Nat) (L : am_L) (as r : List Value) (h : am_H) : Prop :=
  u + b ≤ bud ∧ r.length ≤ 4 ∧ C mno as h fun x h' => k (u + b) L (x.toList ++ r) h'
def am_look : List (Nat × Nat) → Nat → Option Nat
  | [], _ => none
  | (c, m) :: t, i => if c = i then some m else am_look t i
/-- a table of jumps -/
def am_sw (J : Nat → Prop) (d : Nat) (x : Int32) : List (Nat × Nat) → Prop
  | [] => J d
  | (c, p) :: t => (x = nI c → J p) ∧ (¬ x = nI c → am_sw J d x t)
/-- an old array, by its number: a text's bytes, a static array, the script -/
def am_oa (q : Nat) : Bool := (16 ≤ q && q < 28) || q == 40 || q == 41 || q == 43
def am_ref (v : Value) : Prop := match v with
  | .ref _ => True
  | .null => True
  | .retAddr _ => True
  | _ => False
def am_s (O : am_O) (C : am_C) (J : am_J) (P : am_P) (bud : Nat) (k : am_K) (i : Instr) (v : Value) (n : Nat) (t : List (Nat × Nat)) : am_K := fun u L st h =>
  match i with
  | .nop => k u L (v :: st) h
  | .iload j => match am_lg L j with
    | some (.int x) => k u L (.int x :: st) h
    | _ => False
  | .lload j => match am_lg L j with
    | some (.long x) => k u L (.long x :: st) h
    | _ => False
  | .aload j => match am_lg L j with
    | some x => am_ref x ∧ k u L (x :: st) h
    | _ => False
  | .istore j => match st with
    | .int x :: r => k u (am_l1 L j (.int x)) r h
    | _ => False
  | .lstore j => match st with
    | .long x :: r => k u (am_l2 L j (.long x)) r h
    | _ => False
  | .astore j => match st with
    | x :: r => am_ref x ∧ k u (am_l1 L j x) r h
    | _ => False
  | .iinc j _ => match am_lg L j, v with
    | some (.int x), .int c => k u (am_l1 L j (.int (x + c))) st h
    | _, _ => False
  | .iadd => match st with
    | .int y :: .int x :: r => k u L (.int (x + y) :: r) h
    | _ => False
  | .isub => match st with
    | .int y :: .int x :: r => k u L (.int (x - y) :: r) h
    | _ => False
  | .imul => match st with
    | .int y :: .int x :: r => k u L (.int (x * y) :: r) h
    | _ => False
  | .iand => match st with
    | .int y :: .int x :: r => k u L (.int (x &&& y) :: r) h
    | _ => False
  | .ior => match st with
    | .int y :: .int x :: r => k u L (.int (x ||| y) :: r) h
    | _ => False
  | .ixor => match st with
    | .int y :: .int x :: r => k u L (.int (x ^^^ y) :: r) h
    | _ => False
  | .ishl => match st with
    | .int y :: .int x :: r => k u L (.int (x <<< (y &&& 31)) :: r) h
    | _ => False
  | .ishr => match st with
    | .int y :: .int x :: r => k u L (.int (x >>> (y &&& 31)) :: r) h
    | _ => False
  | .iushr => match st with
    | .int y :: .int x :: r => k u L (.int (x.toUInt32 >>> (y.toUInt32 &&& Int32.toUInt32 31)).toInt32 :: r) h
    | _ => False
  | .ineg => match st with
    | .int x :: r => k u L (.int (-x) :: r) h
    | _ => False
  | .idiv => match st with
    | .int y :: .int x :: r => ¬ y = 0 ∧ k u L (.int (x / y) :: r) h
    | _ => False
  | .irem => match st with
    | .int y :: .int x :: r => ¬ y = 0 ∧ k u L (.int (x - x / y * y) :: r) h
    | _ => False
  | .i2l => match st with
    | .int x :: r => k u L (.long x.toInt64 :: r) h
    | _ => False
  | .i2b => match st with
    | .int x :: r => k u L (.int x.toInt8.toInt32 :: r) h
    | _ => False
  | .i2c => match st with
    | .int x :: r => k u L (.int (x.toUInt32 % 65536).toInt32 :: r) h
    | _ => False
  | .ladd => match st with
    | .long y :: .long x :: r => k u L (.long (x + y) :: r) h
    | _ => False
  | .lmul => match st with
    | .long y :: .long x :: r => k u L (.long (x * y) :: r) h
    | _ => False
  | .ldiv => match st with
    | .long y :: .long x :: r => ¬ y = 0 ∧ k u L (.long (x / y) :: r) h
    | _ => False
  | .lrem => match st with
    | .long y :: .long x :: r => ¬ y = 0 ∧ k u L (.long (x - x / y * y) :: r) h
    | _ => False
  | .lcmp => match st with
    | .long y :: .long x :: r => k u L (.int (lg_cmp x y) :: r) h
    | _ => False
  | .dup => match st with
    | .int x :: r => k u L (.int x :: .int x :: r) h
    | .ref x :: r => k u L (.ref x :: .ref x :: r) h
    | _ => False
  | .dup2 => match st with
    | .long x :: r => k u L (.long x :: .long x :: r) h
    | .int y :: .ref x :: r => k u L (.int y :: .ref x :: .int y :: .ref x :: r) h
    | _ => False
  | .pop => match st with
    | .int _ :: r => k u L r h
    | _ => False
  | .goto _ => J n u L st h
  | .if_icmp c _ => match st with
    | .int y :: .int x :: r => match c with
      | .eq => (x = y → J n u L r h) ∧ (¬ x = y → k u L r h)
      | .ne => (¬ x = y → J n u L r h) ∧ (x = y → k u L r h)
      | .lt => (x < y → J n u L r h) ∧ (¬ x < y → k u L r h)
      | .ge => (y ≤ x → J n u L r h) ∧ (¬ y ≤ x → k u L r h)
      | .gt => (y < x → J n u L r h) ∧ (¬ y < x → k u L r h)
      | .le => (x ≤ y → J n u L r h) ∧ (¬ x ≤ y → k u L r h)
    | _ => False
  | .ifCond c _ => match st with
    | .int x :: r => match c with
      | .eq => (x = 0 → J n u L r h) ∧ (¬ x = 0 → k u L r h)
      | .ne => (¬ x = 0 → J n u L r h) ∧ (x = 0 → k u L r h)
      | .lt => (x < 0 → J n u L r h) ∧ (¬ x < 0 → k u L r h)
      | .ge => (0 ≤ x → J n u L r h) ∧ (¬ 0 ≤ x → k u L r h)
      | .gt => (0 < x → J n u L r h) ∧ (¬ 0 < x → k u L r h)
      | .le => (x ≤ 0 → J n u L r h) ∧ (¬ x ≤ 0 → k u L r h)
    | _ => False
  | .ifnull _ => match st with
    | .null :: r => J n u L r h
    | .ref _ :: r => k u L r h
    | _ => False
  | .ifnonnull _ => match st with
    | .ref _ :: r => J n u L r h
    | .null :: r => k u L r h
    | _ => False
  | .lookupswitch _ _ => match st with
    | .int x :: r => am_sw (fun p => J p u L r h) n x t
    | _ => False
  | .getfield _ => match st with
    | .ref a :: r => am_gf h a n t fun x => k u L (x :: r) h
    | _ => False
  | .caload => match st with
    | .retAddr q :: r => q < 12 ∧ k u L (.retAddr (q + 16) :: r) h
    | _ => False
  | .saload => match st with
    | .retAddr q :: r => q < 12 ∧ k u L (.int 0 :: r) h
    | _ => False
  | .putfield _ => match st with
    | x :: .ref a :: r => am_pf h a n x t fun h' => k u L r h'
    | _ => False
  | .putstatic _ => match st with
    | x :: .ref a :: r => am_pF h a n x t fun h' => k u L r h'
    | _ => False
  | .iaload => match st with
    | .int j :: .ref a :: r => am_ia h a 0 j fun x => k u L (.int x :: r) h
    | _ => False
  | .baload => match st with
    | .int j :: .ref a :: r => am_ia h a n j fun x => k u L (.int x :: r) h
    | _ => False
  | .laload => match st with
    | .int j :: .ref a :: r => am_la h a j fun x => k u L (.long x :: r) h
    | _ => False
  | .aaload => match st with
    | .int j :: .ref a :: r => am_aa h a j fun x => k u L (x :: r) h
    | _ => False
  | .iastore => match st with
    | .int x :: .int j :: .ref a :: r => am_is h a 0 j x fun h' => k u L r h'
    | _ => False
  | .bastore => match st with
    | .int x :: .int j :: .ref a :: r => am_is h a n j (if n = 1 then vp_nar .byte x else vp_nar .boolean x) fun h' => k u L r h'
    | _ => False
  | .lastore => match st with
    | .long x :: .int j :: .ref a :: r => am_lS h a j x fun h' => k u L r h'
    | _ => False
  | .aastore => match st with
    | x :: .int j :: .ref a :: r => am_aS h a j x fun h' => k u L r h'
    | _ => False
  | .arraylength => match st with
    | .ref a :: r => am_al h a fun x => k u L (.int x :: r) h
    | _ => False
  | .castore => match st with
    | .retAddr q :: r => am_oa q = true ∧ k u L (.int (Int32.ofNat (O q).1) :: r) h
    | _ => False
  | .faload => match st with
    | .int j :: .retAddr q :: r => am_oa q = true ∧ ((n = 0 → 28 ≤ q) ∧ (n = 1 → q < 28)) ∧ vp_in j (O q).1 ∧ k u L (.int ((O q).2 j.toNatClampNeg) :: r) h
    | _ => False
  | .newarray _ => match st with
    | .int z :: r => ¬ z < 0 ∧ z.toNatClampNeg ≤ 2200 ∧ u + 1 ≤ bud ∧ k (u + 1) L (.ref (am_hl h) :: r) (am_hp h (am_nz n z.toNatClampNeg))
    | _ => False
  | .anewarray _ => match st with
    | .int z :: r => ¬ z < 0 ∧ z.toNatClampNeg ≤ 2200 ∧ u + 1 ≤ bud ∧ k (u + 1) L (.ref (am_hl h) :: r) (am_hp h (.inl (4, z.toNatClampNeg, .inr (.inr (.inr (.inr fun _ => none))))))
    | _ => False
  | .new _ => u + 1 ≤ bud ∧ k (u + 1) L (.ref (am_hl h) :: st) (am_hp h (.inr (n, am_df n)))
  | .fastore => match st with
    | .retAddr q :: r => q = 40 ∧ r.length ≤ 4 ∧ u + 1 ≤ bud ∧ k (u + 1) L (.ref (am_hl h) :: r) (am_hp h (.inl (0, (O 40).1, .inl (O 40).2)))
    | _ => False
  | .invokevirtual _ => am_pop n st fun as r => match as with
    | .ref a :: _ => (match am_hg h a with
      | some (.inr (c, _)) => (match am_look t c with
        | some m => (match v with
          | .retAddr b => am_call C bud b m k u L as r h
          | _ => False)
        | none => False)
      | _ => False)
    | .retAddr q :: _ => q < 12 ∧ (match am_look t 99 with
        | some m => (match v with
          | .retAddr b => am_call C bud b m k u L as r h
          | _ => False)
        | none => False)
    | _ => False
  | .invokestatic _ => am_pop n st fun as r => match t with
    | [(_, m)] => (match v with
      | .retAddr b => am_call C bud b m k u L as r h
      | _ => False)
    | _ => False
  | .invokespecial _ => am_pop n st fun as r => match as with
    | .ref a :: _ => (match am_hg h a, t with
      | some (.inr (_, _)), [(_, m)] => (match v with
        | .retAddr b => am_call C bud b m k u L as r h
        | _ => False)
      | _, _ => False)
    | _ => False
  | .pop2 => match st with
    | .ref _ :: r => r.length ≤ 4 ∧ k u L r h
    | _ => False
  | .instanceof _ => match st with
    | .ref a :: r => (match am_hg h a with
      | some (.inr (c, _)) => (match am_look t c with
        | some 0 => k u L (.int 0 :: r) h
        | some _ => k u L (.int 1 :: r) h
        | none => False)
      | _ => False)
    | _ => False
  | .checkcast _ => match st with
    | .ref a :: r => (match am_hg h a with
      | some (.inl (0, _)) => k u L (.ref a :: r) h
      | _ => False)
    | _ => False
  | .monitorenter => match st with
    | .int z :: .int dp :: .ref d :: .int sp :: .ref a :: r => r.length ≤ 4 ∧ am_cp h a d n sp dp z fun h' => k u L r h'
    | _ => False
  | .ireturn => match st with
    | [.int x] => P (some (.int x)) h
    | _ => False
  | .freturn => match st with
    | [.int x] => (x = 0 ∨ x = 1) ∧ P (some (.int x)) h
    | _ => False
  | .dreturn => match st with
    | [.int x] => (if n = 0 then narrow .byte (.int x) = .int x else narrow .char (.int x) = .int x) ∧ P (some (.int x)) h
    | _ => False
  | .lreturn => match st with
    | [.long x] => P (some (.long x)) h
    | _ => False
  | .areturn => match st with
    | [.ref x] => P (some (.ref x)) h
    | [.null] => P (some .null) h
    | _ => False
  | .return_ => match st with
    | [] => P none h
    | _ => False
  | _ => False
/-- a block: its instructions one behind the other, then the next block -/
def am_B (O : am_O) (C : am_C) (J : am_J) (P : am_P) (bud nx : Nat) : List am_A → am_K
  | [] => J nx
  | (i, v, n, t) :: is => am_s O C J P bud (am_B O C J P bud nx is) i v n t
/-- a method: room for locals, cells that it may make, blocks (its start, its end, its instructions) -/
abbrev am_M : Type := Nat × Nat × List (Nat × Nat × List am_A)
def am_find : List (Nat × Nat × List am_A) → Nat → Option (Nat × List am_A)
  | [], _ => none
  | (p, q) :: r, i => if p = i then some q else am_find r i
/-- what holds wherever a block's formula gives it -/
def am_cld (O : am_O) (C : am_C) (P : am_P) (M : am_M) (J : am_J) : Prop := ∀ (p : Nat) (q : Nat × List am_A), am_find M.2.2 p = some q → ∀ (u : Nat) (L : am_L) (st : List Value) (h : am_H), am_B O C J P M.2.1 q.1 q.2 u L st h → J p u L st h
def am_W (O : am_O) (C : am_C) (P : am_P) (M : am_M) (p u : Nat) (L : am_L) (st : List Value) (h : am_H) : Prop := ∀ J : am_J, am_cld O C P M J → J p u L st h
/-- how many slots the arguments take -/
def am_sz (as : List Value) : Nat := (as.map fun v => v.category).sum
/-- a method's run, from its arguments and the heap, to any end with P; d bounds the depth of calls -/
def am_run (O : am_O) (prog : Nat → am_M) : Nat → am_C
  | 0 => fun _ _ _ _ => False
  | d + 1 => fun m as h P => am_sz as ≤ (prog m).1 ∧ am_W O (am_run O prog d) P (prog m) 0 0 (am_l0 (prog m).1 as) [] h
