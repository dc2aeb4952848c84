/-! The program: every method, by its number (printed by a program of mine out of the decode rows). -/
/-- 0: OverFenceModel.<init>()V -/
def mc_0 : am_M := (1, 9, [(0, 112, [(.aload 0, .null, 0, []), (.pop2, .null, 0, []), (.aload 0, .null, 0, []), (.nop, .int 892, 0, []), (.newarray .int, .null, 0, []), (.putfield 0, .null, 1, [(12, 3)]), (.aload 0, .null, 0, []), (.nop, .int 892, 0, []), (.newarray .int, .null, 0, []), (.putfield 0, .null, 2, [(12, 3)]), (.aload 0, .null, 0, []), (.nop, .int 41, 0, []), (.newarray .int, .null, 0, []), (.putfield 0, .null, 3, [(12, 3)]), (.aload 0, .null, 0, []), (.nop, .int 6, 0, []), (.newarray .int, .null, 0, []), (.putfield 0, .null, 10, [(12, 3)]), (.aload 0, .null, 0, []), (.nop, .int 64, 0, []), (.newarray .int, .null, 2, []), (.putfield 0, .null, 11, [(12, 3)]), (.aload 0, .null, 0, []), (.nop, .int 2197, 0, []), (.newarray .int, .null, 3, []), (.putfield 0, .null, 12, [(12, 3)]), (.aload 0, .null, 0, []), (.nop, .int 2197, 0, []), (.newarray .int, .null, 3, []), (.putfield 0, .null, 13, [(12, 3)]), (.aload 0, .null, 0, []), (.nop, .int 130, 0, []), (.newarray .int, .null, 0, []), (.putfield 0, .null, 14, [(12, 3)]), (.aload 0, .null, 0, []), (.nop, .int 20, 0, []), (.newarray .int, .null, 0, []), (.putfield 0, .null, 15, [(12, 3)]), (.aload 0, .null, 0, []), (.getfield 0, .null, 1, [(12, 0)]), (.nop, .int 14, 0, []), (.nop, .int (-1), 0, []), (.iastore, .null, 0, []), (.aload 0, .null, 0, []), (.getfield 0, .null, 1, [(12, 0)]), (.nop, .int 2, 0, []), (.nop, .int 2, 0, []), (.iastore, .null, 0, []), (.aload 0, .null, 0, []), (.getfield 0, .null, 1, [(12, 0)]), (.nop, .int 3, 0, []), (.nop, .int 3, 0, []), (.iastore, .null, 0, []), (.aload 0, .null, 0, []), (.getfield 0, .null, 1, [(12, 0)]), (.nop, .int 4, 0, []), (.nop, .int 15, 0, []), (.iastore, .null, 0, []), (.return_, .null, 0, [])])])
/-- 1: OverFenceModel.in(III)Z -/
def mc_1 : am_M := (3, 0, [(0, 14, [(.iload 0, .null, 0, []), (.iload 1, .null, 0, []), (.if_icmp .lt 0, .null, 14, []), (.iload 0, .null, 0, []), (.iload 2, .null, 0, []), (.if_icmp .gt 0, .null, 14, []), (.nop, .int 1, 0, []), (.goto 0, .null, 15, [])]),
  (14, 15, [(.nop, .int 0, 0, [])]),
  (15, 16, [(.freturn, .null, 0, [])])])
/-- 2: OverFenceModel.isBoy(I)Z -/
def mc_2 : am_M := (2, 0, [(0, 15, [(.iload 1, .null, 0, []), (.nop, .int 0, 0, []), (.aload 0, .null, 0, []), (.getfield 0, .null, 1, [(12, 0)]), (.nop, .int 10, 0, []), (.iaload, .null, 0, []), (.nop, .int 1, 0, []), (.isub, .null, 0, []), (.invokestatic 0, .retAddr 0, 3, [(0, 1)]), (.freturn, .null, 0, [])])])
/-- 3: OverFenceModel.isDigit(I)Z -/
def mc_3 : am_M := (1, 0, [(0, 8, [(.iload 0, .null, 0, []), (.nop, .int 0, 0, []), (.nop, .int 9, 0, []), (.invokestatic 0, .retAddr 0, 3, [(0, 1)]), (.freturn, .null, 0, [])])])
/-- 4: OverFenceModel.feed(I)I -/
def mc_4 : am_M := (2, 0, [(0, 13, [(.iload 1, .null, 0, []), (.nop, .int 0, 0, []), (.nop, .int 127, 0, []), (.invokestatic 0, .retAddr 0, 3, [(0, 1)]), (.ifCond .ne 0, .null, 13, []), (.nop, .int (-2), 0, []), (.ireturn, .null, 0, [])]),
  (13, 28, [(.aload 0, .null, 0, []), (.getfield 0, .null, 1, [(12, 0)]), (.nop, .int 13, 0, []), (.iaload, .null, 0, []), (.nop, .int 100, 0, []), (.if_icmp .ne 0, .null, 28, []), (.nop, .int (-4), 0, []), (.ireturn, .null, 0, [])]),
  (28, 63, [(.aload 0, .null, 0, []), (.getfield 0, .null, 1, [(12, 0)]), (.nop, .int 77, 0, []), (.aload 0, .null, 0, []), (.getfield 0, .null, 1, [(12, 0)]), (.nop, .int 13, 0, []), (.iaload, .null, 0, []), (.iadd, .null, 0, []), (.iload 1, .null, 0, []), (.iastore, .null, 0, []), (.aload 0, .null, 0, []), (.getfield 0, .null, 1, [(12, 0)]), (.nop, .int 13, 0, []), (.dup2, .null, 0, []), (.iaload, .null, 0, []), (.nop, .int 1, 0, []), (.iadd, .null, 0, []), (.iastore, .null, 0, []), (.aload 0, .null, 0, []), (.getfield 0, .null, 1, [(12, 0)]), (.nop, .int 13, 0, []), (.iaload, .null, 0, []), (.ireturn, .null, 0, [])])])
/-- 5: OverFenceModel.here()I -/
def mc_5 : am_M := (1, 0, [(0, 26, [(.aload 0, .null, 0, []), (.getfield 0, .null, 6, [(12, 0)]), (.aload 0, .null, 0, []), (.getfield 0, .null, 7, [(12, 0)]), (.if_icmp .ge 0, .null, 26, []), (.aload 0, .null, 0, []), (.getfield 0, .null, 1, [(12, 0)]), (.nop, .int 77, 0, []), (.aload 0, .null, 0, []), (.getfield 0, .null, 6, [(12, 0)]), (.iadd, .null, 0, []), (.iaload, .null, 0, []), (.goto 0, .null, 27, [])]),
  (26, 27, [(.nop, .int (-1), 0, [])]),
  (27, 28, [(.ireturn, .null, 0, [])])])
/-- 6: OverFenceModel.must(I)V -/
def mc_6 : am_M := (2, 0, [(0, 16, [(.aload 0, .null, 0, []), (.aload 0, .null, 0, []), (.getfield 0, .null, 8, [(12, 0)]), (.ifCond .ne 0, .null, 16, []), (.aload 0, .null, 0, []), (.invokevirtual 0, .retAddr 0, 1, [(12, 5)]), (.iload 1, .null, 0, []), (.if_icmp .eq 0, .null, 20, [])]),
  (16, 20, [(.nop, .int 1, 0, []), (.goto 0, .null, 21, [])]),
  (20, 21, [(.nop, .int 0, 0, [])]),
  (21, 40, [(.putfield 0, .null, 8, [(12, 1)]), (.aload 0, .null, 0, []), (.dup, .null, 0, []), (.getfield 0, .null, 6, [(12, 0)]), (.aload 0, .null, 0, []), (.getfield 0, .null, 8, [(12, 0)]), (.ifCond .eq 0, .null, 40, []), (.nop, .int 0, 0, []), (.goto 0, .null, 41, [])]),
  (40, 41, [(.nop, .int 1, 0, [])]),
  (41, 46, [(.iadd, .null, 0, []), (.putfield 0, .null, 6, [(12, 0)]), (.return_, .null, 0, [])])])
/-- 7: OverFenceModel.spells(Ljava/lang/String;)V -/
def mc_7 : am_M := (3, 0, [(0, 2, [(.nop, .int 0, 0, []), (.istore 2, .null, 0, [])]),
  (2, 25, [(.iload 2, .null, 0, []), (.aload 1, .null, 0, []), (.invokevirtual 0, .retAddr 0, 1, [(99, 181)]), (.if_icmp .ge 0, .null, 25, []), (.aload 0, .null, 0, []), (.aload 1, .null, 0, []), (.iload 2, .null, 0, []), (.invokevirtual 0, .retAddr 0, 2, [(99, 182)]), (.invokevirtual 0, .retAddr 0, 2, [(12, 6)]), (.iinc 2 0, .int 1, 0, []), (.goto 0, .null, 2, [])]),
  (25, 26, [(.return_, .null, 0, [])])])
/-- 8: OverFenceModel.figures()I -/
def mc_8 : am_M := (3, 0, [(0, 22, [(.aload 0, .null, 0, []), (.aload 0, .null, 0, []), (.getfield 0, .null, 8, [(12, 0)]), (.ifCond .ne 0, .null, 22, []), (.aload 0, .null, 0, []), (.invokevirtual 0, .retAddr 0, 1, [(12, 5)]), (.nop, .int 48, 0, []), (.nop, .int 57, 0, []), (.invokestatic 0, .retAddr 0, 3, [(0, 1)]), (.ifCond .ne 0, .null, 26, [])]),
  (22, 26, [(.nop, .int 1, 0, []), (.goto 0, .null, 27, [])]),
  (26, 27, [(.nop, .int 0, 0, [])]),
  (27, 34, [(.putfield 0, .null, 8, [(12, 1)]), (.nop, .int 0, 0, []), (.istore 1, .null, 0, []), (.nop, .int 0, 0, []), (.istore 2, .null, 0, [])]),
  (34, 68, [(.iload 2, .null, 0, []), (.nop, .int 2, 0, []), (.if_icmp .ge 0, .null, 97, []), (.aload 0, .null, 0, []), (.getfield 0, .null, 8, [(12, 0)]), (.ifCond .ne 0, .null, 97, []), (.aload 0, .null, 0, []), (.invokevirtual 0, .retAddr 0, 1, [(12, 5)]), (.nop, .int 48, 0, []), (.nop, .int 57, 0, []), (.invokestatic 0, .retAddr 0, 3, [(0, 1)]), (.ifCond .eq 0, .null, 97, []), (.iload 2, .null, 0, []), (.ifCond .eq 0, .null, 68, []), (.iload 1, .null, 0, []), (.ifCond .le 0, .null, 97, [])]),
  (68, 97, [(.nop, .int 10, 0, []), (.iload 1, .null, 0, []), (.imul, .null, 0, []), (.aload 0, .null, 0, []), (.invokevirtual 0, .retAddr 0, 1, [(12, 5)]), (.iadd, .null, 0, []), (.nop, .int 48, 0, []), (.isub, .null, 0, []), (.istore 1, .null, 0, []), (.aload 0, .null, 0, []), (.dup, .null, 0, []), (.getfield 0, .null, 6, [(12, 0)]), (.nop, .int 1, 0, []), (.iadd, .null, 0, []), (.putfield 0, .null, 6, [(12, 0)]), (.iinc 2 0, .int 1, 0, []), (.goto 0, .null, 34, [])]),
  (97, 99, [(.iload 1, .null, 0, []), (.ireturn, .null, 0, [])])])
/-- 9: OverFenceModel.among(Ljava/lang/String;)I -/
def mc_9 : am_M := (3, 0, [(0, 2, [(.nop, .int 0, 0, []), (.istore 2, .null, 0, [])]),
  (2, 34, [(.iload 2, .null, 0, []), (.aload 1, .null, 0, []), (.invokevirtual 0, .retAddr 0, 1, [(99, 181)]), (.if_icmp .ge 0, .null, 40, []), (.aload 0, .null, 0, []), (.invokevirtual 0, .retAddr 0, 1, [(12, 5)]), (.aload 1, .null, 0, []), (.iload 2, .null, 0, []), (.invokevirtual 0, .retAddr 0, 2, [(99, 182)]), (.if_icmp .ne 0, .null, 34, []), (.aload 0, .null, 0, []), (.dup, .null, 0, []), (.getfield 0, .null, 6, [(12, 0)]), (.nop, .int 1, 0, []), (.iadd, .null, 0, []), (.putfield 0, .null, 6, [(12, 0)]), (.iload 2, .null, 0, []), (.ireturn, .null, 0, [])]),
  (34, 40, [(.iinc 2 0, .int 1, 0, []), (.goto 0, .null, 2, [])]),
  (40, 42, [(.nop, .int (-1), 0, []), (.ireturn, .null, 0, [])])])
/-- 10: OverFenceModel.emits(I)V -/
def mc_10 : am_M := (2, 0, [(0, 56, [(.aload 0, .null, 0, []), (.getfield 0, .null, 8, [(12, 0)]), (.ifCond .ne 0, .null, 56, []), (.aload 0, .null, 0, []), (.getfield 0, .null, 1, [(12, 0)]), (.nop, .int 192, 0, []), (.nop, .int 140, 0, []), (.aload 0, .null, 0, []), (.getfield 0, .null, 5, [(12, 0)]), (.imul, .null, 0, []), (.iadd, .null, 0, []), (.aload 0, .null, 0, []), (.getfield 0, .null, 1, [(12, 0)]), (.nop, .int 187, 0, []), (.aload 0, .null, 0, []), (.getfield 0, .null, 5, [(12, 0)]), (.iadd, .null, 0, []), (.iaload, .null, 0, []), (.iadd, .null, 0, []), (.iload 1, .null, 0, []), (.iastore, .null, 0, []), (.aload 0, .null, 0, []), (.getfield 0, .null, 1, [(12, 0)]), (.nop, .int 187, 0, []), (.aload 0, .null, 0, []), (.getfield 0, .null, 5, [(12, 0)]), (.iadd, .null, 0, []), (.dup2, .null, 0, []), (.iaload, .null, 0, []), (.nop, .int 1, 0, []), (.iadd, .null, 0, []), (.iastore, .null, 0, [])]),
  (56, 57, [(.return_, .null, 0, [])])])
/-- 11: OverFenceModel.factor()V -/
def mc_11 : am_M := (5, 0, [(0, 8, [(.aload 0, .null, 0, []), (.getfield 0, .null, 8, [(12, 0)]), (.ifCond .eq 0, .null, 8, []), (.return_, .null, 0, [])]),
  (8, 25, [(.aload 0, .null, 0, []), (.invokevirtual 0, .retAddr 0, 1, [(12, 5)]), (.istore 1, .null, 0, []), (.iload 1, .null, 0, []), (.nop, .int 33, 0, []), (.if_icmp .eq 0, .null, 25, []), (.iload 1, .null, 0, []), (.nop, .int 40, 0, []), (.if_icmp .ne 0, .null, 112, [])]),
  (25, 38, [(.aload 0, .null, 0, []), (.aload 0, .null, 0, []), (.getfield 0, .null, 9, [(12, 0)]), (.nop, .int 5, 0, []), (.if_icmp .ne 0, .null, 38, []), (.nop, .int 1, 0, []), (.goto 0, .null, 39, [])]),
  (38, 39, [(.nop, .int 0, 0, [])]),
  (39, 68, [(.putfield 0, .null, 8, [(12, 1)]), (.aload 0, .null, 0, []), (.dup, .null, 0, []), (.getfield 0, .null, 9, [(12, 0)]), (.nop, .int 1, 0, []), (.iadd, .null, 0, []), (.putfield 0, .null, 9, [(12, 0)]), (.aload 0, .null, 0, []), (.dup, .null, 0, []), (.getfield 0, .null, 6, [(12, 0)]), (.aload 0, .null, 0, []), (.getfield 0, .null, 8, [(12, 0)]), (.ifCond .eq 0, .null, 68, []), (.nop, .int 0, 0, []), (.goto 0, .null, 69, [])]),
  (68, 69, [(.nop, .int 1, 0, [])]),
  (69, 91, [(.iadd, .null, 0, []), (.putfield 0, .null, 6, [(12, 0)]), (.iload 1, .null, 0, []), (.nop, .int 33, 0, []), (.if_icmp .ne 0, .null, 91, []), (.aload 0, .null, 0, []), (.invokevirtual 0, .retAddr 0, 1, [(12, 11)]), (.aload 0, .null, 0, []), (.nop, .int (-1), 0, []), (.invokevirtual 0, .retAddr 0, 2, [(12, 10)]), (.goto 0, .null, 101, [])]),
  (91, 101, [(.aload 0, .null, 0, []), (.invokevirtual 0, .retAddr 0, 1, [(12, 13)]), (.aload 0, .null, 0, []), (.nop, .int 41, 0, []), (.invokevirtual 0, .retAddr 0, 2, [(12, 6)])]),
  (101, 112, [(.aload 0, .null, 0, []), (.dup, .null, 0, []), (.getfield 0, .null, 9, [(12, 0)]), (.nop, .int 1, 0, []), (.isub, .null, 0, []), (.putfield 0, .null, 9, [(12, 0)]), (.return_, .null, 0, [])]),
  (112, 129, [(.aload 0, .null, 0, []), (.nop, .retAddr 7, 0, []), (.invokevirtual 0, .retAddr 0, 2, [(12, 9)]), (.istore 2, .null, 0, []), (.aload 0, .null, 0, []), (.iload 2, .null, 0, []), (.nop, .int (-1), 0, []), (.if_icmp .ne 0, .null, 129, []), (.nop, .int 1, 0, []), (.goto 0, .null, 130, [])]),
  (129, 130, [(.nop, .int 0, 0, [])]),
  (130, 144, [(.putfield 0, .null, 8, [(12, 1)]), (.aload 0, .null, 0, []), (.getfield 0, .null, 8, [(12, 0)]), (.ifCond .eq 0, .null, 144, []), (.nop, .int 0, 0, []), (.goto 0, .null, 150, [])]),
  (144, 150, [(.aload 0, .null, 0, []), (.nop, .retAddr 8, 0, []), (.invokevirtual 0, .retAddr 0, 2, [(12, 9)])]),
  (150, 164, [(.istore 3, .null, 0, []), (.aload 0, .null, 0, []), (.aload 0, .null, 0, []), (.getfield 0, .null, 8, [(12, 0)]), (.ifCond .ne 0, .null, 164, []), (.iload 3, .null, 0, []), (.nop, .int (-1), 0, []), (.if_icmp .ne 0, .null, 168, [])]),
  (164, 168, [(.nop, .int 1, 0, []), (.goto 0, .null, 169, [])]),
  (168, 169, [(.nop, .int 0, 0, [])]),
  (169, 195, [(.putfield 0, .null, 8, [(12, 1)]), (.aload 0, .null, 0, []), (.invokevirtual 0, .retAddr 0, 1, [(12, 8)]), (.istore 4, .null, 0, []), (.aload 0, .null, 0, []), (.iload 2, .null, 0, []), (.nop, .int 8, 0, []), (.iload 3, .null, 0, []), (.imul, .null, 0, []), (.iadd, .null, 0, []), (.nop, .int 32, 0, []), (.iload 4, .null, 0, []), (.imul, .null, 0, []), (.iadd, .null, 0, []), (.invokevirtual 0, .retAddr 0, 2, [(12, 10)]), (.return_, .null, 0, [])])])
/-- 12: OverFenceModel.every()V -/
def mc_12 : am_M := (1, 0, [(0, 4, [(.aload 0, .null, 0, []), (.invokevirtual 0, .retAddr 0, 1, [(12, 11)])]),
  (4, 43, [(.aload 0, .null, 0, []), (.getfield 0, .null, 8, [(12, 0)]), (.ifCond .ne 0, .null, 43, []), (.aload 0, .null, 0, []), (.invokevirtual 0, .retAddr 0, 1, [(12, 5)]), (.nop, .int 38, 0, []), (.if_icmp .ne 0, .null, 43, []), (.aload 0, .null, 0, []), (.dup, .null, 0, []), (.getfield 0, .null, 6, [(12, 0)]), (.nop, .int 1, 0, []), (.iadd, .null, 0, []), (.putfield 0, .null, 6, [(12, 0)]), (.aload 0, .null, 0, []), (.invokevirtual 0, .retAddr 0, 1, [(12, 11)]), (.aload 0, .null, 0, []), (.nop, .int (-2), 0, []), (.invokevirtual 0, .retAddr 0, 2, [(12, 10)]), (.goto 0, .null, 4, [])]),
  (43, 44, [(.return_, .null, 0, [])])])
/-- 13: OverFenceModel.some()V -/
def mc_13 : am_M := (1, 0, [(0, 4, [(.aload 0, .null, 0, []), (.invokevirtual 0, .retAddr 0, 1, [(12, 12)])]),
  (4, 43, [(.aload 0, .null, 0, []), (.getfield 0, .null, 8, [(12, 0)]), (.ifCond .ne 0, .null, 43, []), (.aload 0, .null, 0, []), (.invokevirtual 0, .retAddr 0, 1, [(12, 5)]), (.nop, .int 124, 0, []), (.if_icmp .ne 0, .null, 43, []), (.aload 0, .null, 0, []), (.dup, .null, 0, []), (.getfield 0, .null, 6, [(12, 0)]), (.nop, .int 1, 0, []), (.iadd, .null, 0, []), (.putfield 0, .null, 6, [(12, 0)]), (.aload 0, .null, 0, []), (.invokevirtual 0, .retAddr 0, 1, [(12, 12)]), (.aload 0, .null, 0, []), (.nop, .int (-3), 0, []), (.invokevirtual 0, .retAddr 0, 2, [(12, 10)]), (.goto 0, .null, 4, [])]),
  (43, 44, [(.return_, .null, 0, [])])])
/-- 14: OverFenceModel.much(ILjava/lang/String;)V -/
def mc_14 : am_M := (4, 0, [(0, 28, [(.aload 0, .null, 0, []), (.aload 2, .null, 0, []), (.invokevirtual 0, .retAddr 0, 2, [(12, 7)]), (.aload 0, .null, 0, []), (.invokevirtual 0, .retAddr 0, 1, [(12, 8)]), (.istore 3, .null, 0, []), (.aload 0, .null, 0, []), (.nop, .int 32, 0, []), (.invokevirtual 0, .retAddr 0, 2, [(12, 6)]), (.aload 0, .null, 0, []), (.invokevirtual 0, .retAddr 0, 1, [(12, 13)]), (.aload 0, .null, 0, []), (.iload 1, .null, 0, []), (.iload 3, .null, 0, []), (.isub, .null, 0, []), (.invokevirtual 0, .retAddr 0, 2, [(12, 10)]), (.return_, .null, 0, [])])])
/-- 15: OverFenceModel.tellsHere(ILjava/lang/String;)V -/
def mc_15 : am_M := (4, 0, [(0, 29, [(.aload 0, .null, 0, []), (.aload 2, .null, 0, []), (.invokevirtual 0, .retAddr 0, 2, [(12, 7)]), (.aload 0, .null, 0, []), (.invokevirtual 0, .retAddr 0, 1, [(12, 8)]), (.istore 3, .null, 0, []), (.aload 0, .null, 0, []), (.getfield 0, .null, 8, [(12, 0)]), (.ifCond .ne 0, .null, 29, []), (.aload 0, .null, 0, []), (.getfield 0, .null, 1, [(12, 0)]), (.iload 1, .null, 0, []), (.aload 0, .null, 0, []), (.getfield 0, .null, 5, [(12, 0)]), (.iadd, .null, 0, []), (.iload 3, .null, 0, []), (.iastore, .null, 0, [])]),
  (29, 30, [(.return_, .null, 0, [])])])
/-- 16: OverFenceModel.clauseHere()V -/
def mc_16 : am_M := (1, 0, [(0, 48, [(.aload 0, .null, 0, []), (.invokevirtual 0, .retAddr 0, 1, [(12, 5)]), (.lookupswitch 0 #[], .null, 95, [(100, 59), (108, 48), (115, 83), (119, 71)])]),
  (48, 59, [(.aload 0, .null, 0, []), (.nop, .int (-10), 0, []), (.nop, .retAddr 6, 0, []), (.invokevirtual 0, .retAddr 0, 3, [(12, 14)]), (.goto 0, .null, 100, [])]),
  (59, 71, [(.aload 0, .null, 0, []), (.nop, .int (-200), 0, []), (.nop, .retAddr 9, 0, []), (.invokevirtual 0, .retAddr 0, 3, [(12, 14)]), (.goto 0, .null, 100, [])]),
  (71, 83, [(.aload 0, .null, 0, []), (.nop, .int 177, 0, []), (.nop, .retAddr 10, 0, []), (.invokevirtual 0, .retAddr 0, 3, [(12, 15)]), (.goto 0, .null, 100, [])]),
  (83, 95, [(.aload 0, .null, 0, []), (.nop, .int 182, 0, []), (.nop, .retAddr 11, 0, []), (.invokevirtual 0, .retAddr 0, 3, [(12, 15)]), (.goto 0, .null, 100, [])]),
  (95, 100, [(.aload 0, .null, 0, []), (.nop, .int 1, 0, []), (.putfield 0, .null, 8, [(12, 1)])]),
  (100, 101, [(.return_, .null, 0, [])])])
/-- 17: OverFenceModel.yard()I -/
def mc_17 : am_M := (2, 0, [(0, 14, [(.aload 0, .null, 0, []), (.getfield 0, .null, 1, [(12, 0)]), (.nop, .int 11, 0, []), (.iaload, .null, 0, []), (.nop, .int 5, 0, []), (.if_icmp .ne 0, .null, 14, []), (.nop, .int (-4), 0, []), (.ireturn, .null, 0, [])]),
  (14, 108, [(.aload 0, .null, 0, []), (.aload 0, .null, 0, []), (.getfield 0, .null, 1, [(12, 0)]), (.nop, .int 11, 0, []), (.iaload, .null, 0, []), (.putfield 0, .null, 5, [(12, 0)]), (.aload 0, .null, 0, []), (.aload 0, .null, 0, []), (.getfield 0, .null, 1, [(12, 0)]), (.nop, .int 13, 0, []), (.iaload, .null, 0, []), (.putfield 0, .null, 7, [(12, 0)]), (.aload 0, .null, 0, []), (.getfield 0, .null, 1, [(12, 0)]), (.nop, .int 13, 0, []), (.nop, .int 0, 0, []), (.iastore, .null, 0, []), (.aload 0, .null, 0, []), (.getfield 0, .null, 1, [(12, 0)]), (.nop, .int 177, 0, []), (.aload 0, .null, 0, []), (.getfield 0, .null, 5, [(12, 0)]), (.iadd, .null, 0, []), (.nop, .int 5, 0, []), (.iastore, .null, 0, []), (.aload 0, .null, 0, []), (.getfield 0, .null, 1, [(12, 0)]), (.nop, .int 182, 0, []), (.aload 0, .null, 0, []), (.getfield 0, .null, 5, [(12, 0)]), (.iadd, .null, 0, []), (.nop, .int 18, 0, []), (.iastore, .null, 0, []), (.aload 0, .null, 0, []), (.getfield 0, .null, 1, [(12, 0)]), (.nop, .int 187, 0, []), (.aload 0, .null, 0, []), (.getfield 0, .null, 5, [(12, 0)]), (.iadd, .null, 0, []), (.nop, .int 0, 0, []), (.iastore, .null, 0, []), (.aload 0, .null, 0, []), (.nop, .int 0, 0, []), (.putfield 0, .null, 6, [(12, 0)]), (.aload 0, .null, 0, []), (.nop, .int 0, 0, []), (.putfield 0, .null, 8, [(12, 1)]), (.aload 0, .null, 0, []), (.nop, .int 0, 0, []), (.putfield 0, .null, 9, [(12, 0)]), (.nop, .int 1, 0, []), (.istore 1, .null, 0, []), (.aload 0, .null, 0, []), (.invokevirtual 0, .retAddr 0, 1, [(12, 16)])]),
  (108, 150, [(.aload 0, .null, 0, []), (.getfield 0, .null, 8, [(12, 0)]), (.ifCond .ne 0, .null, 150, []), (.iload 1, .null, 0, []), (.nop, .int 10, 0, []), (.if_icmp .ge 0, .null, 150, []), (.aload 0, .null, 0, []), (.invokevirtual 0, .retAddr 0, 1, [(12, 5)]), (.nop, .int 59, 0, []), (.if_icmp .ne 0, .null, 150, []), (.aload 0, .null, 0, []), (.dup, .null, 0, []), (.getfield 0, .null, 6, [(12, 0)]), (.nop, .int 1, 0, []), (.iadd, .null, 0, []), (.putfield 0, .null, 6, [(12, 0)]), (.aload 0, .null, 0, []), (.invokevirtual 0, .retAddr 0, 1, [(12, 16)]), (.iinc 1 0, .int 1, 0, []), (.goto 0, .null, 108, [])]),
  (150, 168, [(.aload 0, .null, 0, []), (.getfield 0, .null, 8, [(12, 0)]), (.ifCond .ne 0, .null, 168, []), (.aload 0, .null, 0, []), (.getfield 0, .null, 6, [(12, 0)]), (.aload 0, .null, 0, []), (.getfield 0, .null, 7, [(12, 0)]), (.if_icmp .eq 0, .null, 176, [])]),
  (168, 176, [(.nop, .int (-10), 0, []), (.aload 0, .null, 0, []), (.getfield 0, .null, 6, [(12, 0)]), (.isub, .null, 0, []), (.ireturn, .null, 0, [])]),
  (176, 203, [(.aload 0, .null, 0, []), (.getfield 0, .null, 1, [(12, 0)]), (.nop, .int 11, 0, []), (.dup2, .null, 0, []), (.iaload, .null, 0, []), (.nop, .int 1, 0, []), (.iadd, .null, 0, []), (.iastore, .null, 0, []), (.aload 0, .null, 0, []), (.getfield 0, .null, 1, [(12, 0)]), (.nop, .int 14, 0, []), (.aload 0, .null, 0, []), (.getfield 0, .null, 5, [(12, 0)]), (.iastore, .null, 0, []), (.aload 0, .null, 0, []), (.getfield 0, .null, 5, [(12, 0)]), (.ireturn, .null, 0, [])])])
/-- 18: OverFenceModel.tellsOf(II)I -/
def mc_18 : am_M := (3, 0, [(0, 15, [(.aload 0, .null, 0, []), (.getfield 0, .null, 1, [(12, 0)]), (.nop, .int 14, 0, []), (.iaload, .null, 0, []), (.nop, .int (-1), 0, []), (.if_icmp .ne 0, .null, 15, []), (.iload 2, .null, 0, []), (.goto 0, .null, 29, [])]),
  (15, 29, [(.aload 0, .null, 0, []), (.getfield 0, .null, 1, [(12, 0)]), (.iload 1, .null, 0, []), (.aload 0, .null, 0, []), (.getfield 0, .null, 1, [(12, 0)]), (.nop, .int 14, 0, []), (.iaload, .null, 0, []), (.iadd, .null, 0, []), (.iaload, .null, 0, [])]),
  (29, 30, [(.ireturn, .null, 0, [])])])
/-- 19: OverFenceModel.boy(II)I -/
def mc_19 : am_M := (4, 0, [(0, 12, [(.iload 1, .null, 0, []), (.nop, .int 0, 0, []), (.nop, .int 6, 0, []), (.invokestatic 0, .retAddr 0, 3, [(0, 1)]), (.ifCond .ne 0, .null, 12, []), (.nop, .int (-1), 0, []), (.ireturn, .null, 0, [])]),
  (12, 22, [(.iload 2, .null, 0, []), (.invokestatic 0, .retAddr 0, 1, [(0, 3)]), (.ifCond .ne 0, .null, 22, []), (.nop, .int (-2), 0, []), (.ireturn, .null, 0, [])]),
  (22, 36, [(.aload 0, .null, 0, []), (.getfield 0, .null, 1, [(12, 0)]), (.nop, .int 10, 0, []), (.iaload, .null, 0, []), (.nop, .int 5, 0, []), (.if_icmp .ne 0, .null, 36, []), (.nop, .int (-4), 0, []), (.ireturn, .null, 0, [])]),
  (36, 87, [(.aload 0, .null, 0, []), (.getfield 0, .null, 1, [(12, 0)]), (.nop, .int 10, 0, []), (.iaload, .null, 0, []), (.istore 3, .null, 0, []), (.aload 0, .null, 0, []), (.getfield 0, .null, 1, [(12, 0)]), (.nop, .int 26, 0, []), (.iload 3, .null, 0, []), (.iadd, .null, 0, []), (.iload 1, .null, 0, []), (.iastore, .null, 0, []), (.aload 0, .null, 0, []), (.getfield 0, .null, 1, [(12, 0)]), (.nop, .int 31, 0, []), (.iload 3, .null, 0, []), (.iadd, .null, 0, []), (.iload 2, .null, 0, []), (.iastore, .null, 0, []), (.aload 0, .null, 0, []), (.getfield 0, .null, 1, [(12, 0)]), (.nop, .int 36, 0, []), (.iload 3, .null, 0, []), (.iadd, .null, 0, []), (.nop, .int 0, 0, []), (.iastore, .null, 0, []), (.aload 0, .null, 0, []), (.getfield 0, .null, 1, [(12, 0)]), (.nop, .int 10, 0, []), (.dup2, .null, 0, []), (.iaload, .null, 0, []), (.nop, .int 1, 0, []), (.iadd, .null, 0, []), (.iastore, .null, 0, []), (.iload 3, .null, 0, []), (.ireturn, .null, 0, [])])])
/-- 20: OverFenceModel.of(II)I -/
def mc_20 : am_M := (3, 0, [(0, 33, [(.aload 0, .null, 0, []), (.iload 1, .null, 0, []), (.invokevirtual 0, .retAddr 0, 2, [(12, 2)]), (.ifCond .eq 0, .null, 33, []), (.iload 2, .null, 0, []), (.nop, .int 0, 0, []), (.nop, .int 2, 0, []), (.invokestatic 0, .retAddr 0, 3, [(0, 1)]), (.ifCond .eq 0, .null, 33, []), (.aload 0, .null, 0, []), (.getfield 0, .null, 1, [(12, 0)]), (.nop, .int 26, 0, []), (.nop, .int 5, 0, []), (.iload 2, .null, 0, []), (.imul, .null, 0, []), (.iadd, .null, 0, []), (.iload 1, .null, 0, []), (.iadd, .null, 0, []), (.iaload, .null, 0, []), (.goto 0, .null, 34, [])]),
  (33, 34, [(.nop, .int (-1), 0, [])]),
  (34, 35, [(.ireturn, .null, 0, [])])])
/-- 21: OverFenceModel.bed(II)I -/
def mc_21 : am_M := (4, 0, [(0, 9, [(.iload 1, .null, 0, []), (.invokestatic 0, .retAddr 0, 1, [(0, 3)]), (.ifCond .ne 0, .null, 9, []), (.nop, .int (-1), 0, []), (.ireturn, .null, 0, [])]),
  (9, 21, [(.iload 2, .null, 0, []), (.nop, .int 0, 0, []), (.nop, .int 3, 0, []), (.invokestatic 0, .retAddr 0, 3, [(0, 1)]), (.ifCond .ne 0, .null, 21, []), (.nop, .int (-2), 0, []), (.ireturn, .null, 0, [])]),
  (21, 43, [(.aload 0, .null, 0, []), (.getfield 0, .null, 1, [(12, 0)]), (.nop, .int 16, 0, []), (.iload 1, .null, 0, []), (.iadd, .null, 0, []), (.iaload, .null, 0, []), (.istore 3, .null, 0, []), (.aload 0, .null, 0, []), (.getfield 0, .null, 1, [(12, 0)]), (.nop, .int 16, 0, []), (.iload 1, .null, 0, []), (.iadd, .null, 0, []), (.iload 2, .null, 0, []), (.iastore, .null, 0, []), (.iload 3, .null, 0, []), (.ireturn, .null, 0, [])])])
/-- 22: OverFenceModel.mostOf(I)I -/
def mc_22 : am_M := (1, 0, [(0, 32, [(.iload 0, .null, 0, []), (.lookupswitch 0 #[], .null, 43, [(0, 32), (1, 34), (2, 37), (3, 40)])]),
  (32, 34, [(.nop, .int 3, 0, []), (.ireturn, .null, 0, [])]),
  (34, 37, [(.nop, .int 20, 0, []), (.ireturn, .null, 0, [])]),
  (37, 40, [(.nop, .int 9, 0, []), (.ireturn, .null, 0, [])]),
  (40, 43, [(.nop, .int 99, 0, []), (.ireturn, .null, 0, [])]),
  (43, 46, [(.nop, .int 23, 0, []), (.ireturn, .null, 0, [])])])
/-- 23: OverFenceModel.set(II)I -/
def mc_23 : am_M := (4, 0, [(0, 11, [(.iload 1, .null, 0, []), (.nop, .int 0, 0, []), (.nop, .int 4, 0, []), (.invokestatic 0, .retAddr 0, 3, [(0, 1)]), (.ifCond .ne 0, .null, 11, []), (.nop, .int (-1), 0, []), (.ireturn, .null, 0, [])]),
  (11, 26, [(.iload 2, .null, 0, []), (.nop, .int 0, 0, []), (.iload 1, .null, 0, []), (.invokestatic 0, .retAddr 0, 1, [(0, 22)]), (.invokestatic 0, .retAddr 0, 3, [(0, 1)]), (.ifCond .ne 0, .null, 26, []), (.nop, .int (-2), 0, []), (.ireturn, .null, 0, [])]),
  (26, 42, [(.aload 0, .null, 0, []), (.getfield 0, .null, 1, [(12, 0)]), (.iload 1, .null, 0, []), (.iaload, .null, 0, []), (.istore 3, .null, 0, []), (.aload 0, .null, 0, []), (.getfield 0, .null, 1, [(12, 0)]), (.iload 1, .null, 0, []), (.iload 2, .null, 0, []), (.iastore, .null, 0, []), (.iload 3, .null, 0, []), (.ireturn, .null, 0, [])])])
/-- 24: OverFenceModel.told(I)I -/
def mc_24 : am_M := (2, 0, [(0, 12, [(.iload 1, .null, 0, []), (.nop, .int 10, 0, []), (.if_icmp .eq 0, .null, 12, []), (.iload 1, .null, 0, []), (.nop, .int 11, 0, []), (.if_icmp .ne 0, .null, 39, [])]),
  (12, 29, [(.iload 1, .null, 0, []), (.nop, .int 10, 0, []), (.if_icmp .ne 0, .null, 29, []), (.aload 0, .null, 0, []), (.nop, .int 177, 0, []), (.nop, .int 5, 0, []), (.invokevirtual 0, .retAddr 0, 3, [(12, 18)]), (.goto 0, .null, 38, [])]),
  (29, 38, [(.aload 0, .null, 0, []), (.nop, .int 182, 0, []), (.nop, .int 18, 0, []), (.invokevirtual 0, .retAddr 0, 3, [(12, 18)])]),
  (38, 39, [(.ireturn, .null, 0, [])]),
  (39, 55, [(.iload 1, .null, 0, []), (.invokestatic 0, .retAddr 0, 1, [(0, 3)]), (.ifCond .eq 0, .null, 55, []), (.aload 0, .null, 0, []), (.getfield 0, .null, 1, [(12, 0)]), (.iload 1, .null, 0, []), (.iaload, .null, 0, []), (.goto 0, .null, 82, [])]),
  (55, 81, [(.iload 1, .null, 0, []), (.nop, .int 20, 0, []), (.nop, .int 29, 0, []), (.invokestatic 0, .retAddr 0, 3, [(0, 1)]), (.ifCond .eq 0, .null, 81, []), (.aload 0, .null, 0, []), (.getfield 0, .null, 1, [(12, 0)]), (.nop, .int 16, 0, []), (.iload 1, .null, 0, []), (.iadd, .null, 0, []), (.nop, .int 20, 0, []), (.isub, .null, 0, []), (.iaload, .null, 0, []), (.goto 0, .null, 82, [])]),
  (81, 82, [(.nop, .int (-1), 0, [])]),
  (82, 83, [(.ireturn, .null, 0, [])])])
/-- 25: OverFenceModel.lifted(II)I -/
def mc_25 : am_M := (12, 0, [(0, 101, [(.aload 0, .null, 0, []), (.getfield 0, .null, 10, [(12, 0)]), (.nop, .int 0, 0, []), (.iload 1, .null, 0, []), (.iastore, .null, 0, []), (.aload 0, .null, 0, []), (.getfield 0, .null, 10, [(12, 0)]), (.nop, .int 1, 0, []), (.aload 0, .null, 0, []), (.getfield 0, .null, 1, [(12, 0)]), (.nop, .int 26, 0, []), (.iload 1, .null, 0, []), (.iadd, .null, 0, []), (.iaload, .null, 0, []), (.iastore, .null, 0, []), (.aload 0, .null, 0, []), (.getfield 0, .null, 10, [(12, 0)]), (.nop, .int 2, 0, []), (.iload 2, .null, 0, []), (.iastore, .null, 0, []), (.aload 0, .null, 0, []), (.getfield 0, .null, 10, [(12, 0)]), (.nop, .int 3, 0, []), (.aload 0, .null, 0, []), (.getfield 0, .null, 1, [(12, 0)]), (.nop, .int 0, 0, []), (.iaload, .null, 0, []), (.iastore, .null, 0, []), (.aload 0, .null, 0, []), (.getfield 0, .null, 10, [(12, 0)]), (.nop, .int 4, 0, []), (.aload 0, .null, 0, []), (.getfield 0, .null, 1, [(12, 0)]), (.nop, .int 1, 0, []), (.iaload, .null, 0, []), (.iastore, .null, 0, []), (.aload 0, .null, 0, []), (.getfield 0, .null, 10, [(12, 0)]), (.nop, .int 5, 0, []), (.aload 0, .null, 0, []), (.getfield 0, .null, 1, [(12, 0)]), (.nop, .int 4, 0, []), (.iaload, .null, 0, []), (.iastore, .null, 0, []), (.nop, .int 0, 0, []), (.istore 3, .null, 0, []), (.aload 0, .null, 0, []), (.nop, .int 187, 0, []), (.nop, .int 0, 0, []), (.invokevirtual 0, .retAddr 0, 3, [(12, 18)]), (.istore 4, .null, 0, []), (.nop, .int 192, 0, []), (.nop, .int 140, 0, []), (.aload 0, .null, 0, []), (.getfield 0, .null, 1, [(12, 0)]), (.nop, .int 14, 0, []), (.iaload, .null, 0, []), (.imul, .null, 0, []), (.iadd, .null, 0, []), (.istore 5, .null, 0, []), (.nop, .int 0, 0, []), (.istore 6, .null, 0, []), (.iload 5, .null, 0, []), (.istore 7, .null, 0, [])]),
  (101, 175, [(.iload 7, .null, 0, []), (.iload 5, .null, 0, []), (.iload 4, .null, 0, []), (.iadd, .null, 0, []), (.if_icmp .ge 0, .null, 387, []), (.aload 0, .null, 0, []), (.getfield 0, .null, 1, [(12, 0)]), (.iload 7, .null, 0, []), (.iaload, .null, 0, []), (.istore 8, .null, 0, []), (.iload 8, .null, 0, []), (.ifCond .lt 0, .null, 219, []), (.aload 0, .null, 0, []), (.getfield 0, .null, 10, [(12, 0)]), (.iload 8, .null, 0, []), (.nop, .int 8, 0, []), (.irem, .null, 0, []), (.iaload, .null, 0, []), (.istore 9, .null, 0, []), (.iload 8, .null, 0, []), (.nop, .int 8, 0, []), (.idiv, .null, 0, []), (.nop, .int 4, 0, []), (.irem, .null, 0, []), (.istore 10, .null, 0, []), (.iload 8, .null, 0, []), (.nop, .int 32, 0, []), (.idiv, .null, 0, []), (.istore 11, .null, 0, []), (.aload 0, .null, 0, []), (.getfield 0, .null, 11, [(12, 0)]), (.iload 6, .null, 0, []), (.iload 10, .null, 0, []), (.ifCond .ne 0, .null, 179, []), (.iload 9, .null, 0, []), (.iload 11, .null, 0, []), (.if_icmp .ge 0, .null, 175, []), (.nop, .int 1, 0, []), (.goto 0, .null, 212, [])]),
  (175, 179, [(.nop, .int 0, 0, []), (.goto 0, .null, 212, [])]),
  (179, 196, [(.iload 10, .null, 0, []), (.nop, .int 1, 0, []), (.if_icmp .ne 0, .null, 200, []), (.iload 9, .null, 0, []), (.iload 11, .null, 0, []), (.if_icmp .ne 0, .null, 196, []), (.nop, .int 1, 0, []), (.goto 0, .null, 212, [])]),
  (196, 200, [(.nop, .int 0, 0, []), (.goto 0, .null, 212, [])]),
  (200, 211, [(.iload 9, .null, 0, []), (.iload 11, .null, 0, []), (.if_icmp .le 0, .null, 211, []), (.nop, .int 1, 0, []), (.goto 0, .null, 212, [])]),
  (211, 212, [(.nop, .int 0, 0, [])]),
  (212, 219, [(.bastore, .null, 2, []), (.iinc 6 0, .int 1, 0, []), (.goto 0, .null, 381, [])]),
  (219, 249, [(.iload 8, .null, 0, []), (.nop, .int (-1), 0, []), (.if_icmp .ne 0, .null, 254, []), (.aload 0, .null, 0, []), (.getfield 0, .null, 11, [(12, 0)]), (.iload 6, .null, 0, []), (.nop, .int 1, 0, []), (.isub, .null, 0, []), (.aload 0, .null, 0, []), (.getfield 0, .null, 11, [(12, 0)]), (.iload 6, .null, 0, []), (.nop, .int 1, 0, []), (.isub, .null, 0, []), (.baload, .null, 2, []), (.ifCond .ne 0, .null, 249, []), (.nop, .int 1, 0, []), (.goto 0, .null, 250, [])]),
  (249, 250, [(.nop, .int 0, 0, [])]),
  (250, 254, [(.bastore, .null, 2, []), (.goto 0, .null, 381, [])]),
  (254, 305, [(.iload 8, .null, 0, []), (.nop, .int (-10), 0, []), (.if_icmp .le 0, .null, 340, []), (.iinc 6 0, .int (-1), 0, []), (.aload 0, .null, 0, []), (.getfield 0, .null, 11, [(12, 0)]), (.iload 6, .null, 0, []), (.nop, .int 1, 0, []), (.isub, .null, 0, []), (.iload 8, .null, 0, []), (.nop, .int (-2), 0, []), (.if_icmp .ne 0, .null, 309, []), (.aload 0, .null, 0, []), (.getfield 0, .null, 11, [(12, 0)]), (.iload 6, .null, 0, []), (.nop, .int 1, 0, []), (.isub, .null, 0, []), (.baload, .null, 2, []), (.ifCond .eq 0, .null, 305, []), (.aload 0, .null, 0, []), (.getfield 0, .null, 11, [(12, 0)]), (.iload 6, .null, 0, []), (.baload, .null, 2, []), (.ifCond .eq 0, .null, 305, []), (.nop, .int 1, 0, []), (.goto 0, .null, 336, [])]),
  (305, 309, [(.nop, .int 0, 0, []), (.goto 0, .null, 336, [])]),
  (309, 331, [(.aload 0, .null, 0, []), (.getfield 0, .null, 11, [(12, 0)]), (.iload 6, .null, 0, []), (.nop, .int 1, 0, []), (.isub, .null, 0, []), (.baload, .null, 2, []), (.ifCond .ne 0, .null, 331, []), (.aload 0, .null, 0, []), (.getfield 0, .null, 11, [(12, 0)]), (.iload 6, .null, 0, []), (.baload, .null, 2, []), (.ifCond .eq 0, .null, 335, [])]),
  (331, 335, [(.nop, .int 1, 0, []), (.goto 0, .null, 336, [])]),
  (335, 336, [(.nop, .int 0, 0, [])]),
  (336, 340, [(.bastore, .null, 2, []), (.goto 0, .null, 381, [])]),
  (340, 357, [(.nop, .int 0, 0, []), (.istore 6, .null, 0, []), (.iload 3, .null, 0, []), (.aload 0, .null, 0, []), (.getfield 0, .null, 11, [(12, 0)]), (.nop, .int 0, 0, []), (.baload, .null, 2, []), (.ifCond .ne 0, .null, 357, []), (.nop, .int 0, 0, []), (.goto 0, .null, 379, [])]),
  (357, 373, [(.iload 8, .null, 0, []), (.nop, .int (-200), 0, []), (.if_icmp .le 0, .null, 373, []), (.nop, .int (-10), 0, []), (.iload 8, .null, 0, []), (.isub, .null, 0, []), (.goto 0, .null, 379, [])]),
  (373, 379, [(.iload 8, .null, 0, []), (.nop, .int (-200), 0, []), (.isub, .null, 0, [])]),
  (379, 381, [(.iadd, .null, 0, []), (.istore 3, .null, 0, [])]),
  (381, 387, [(.iinc 7 0, .int 1, 0, []), (.goto 0, .null, 101, [])]),
  (387, 389, [(.iload 3, .null, 0, []), (.ireturn, .null, 0, [])])])
/-- 26: OverFenceModel.plainHeight(II)I -/
def mc_26 : am_M := (4, 0, [(0, 56, [(.aload 0, .null, 0, []), (.getfield 0, .null, 1, [(12, 0)]), (.nop, .int 31, 0, []), (.iload 1, .null, 0, []), (.iadd, .null, 0, []), (.iaload, .null, 0, []), (.istore 3, .null, 0, []), (.aload 0, .null, 0, []), (.getfield 0, .null, 1, [(12, 0)]), (.nop, .int 26, 0, []), (.iload 1, .null, 0, []), (.iadd, .null, 0, []), (.iaload, .null, 0, []), (.lookupswitch 0 #[], .null, 111, [(1, 56), (2, 62), (3, 68), (4, 79), (5, 62), (6, 98)])]),
  (56, 62, [(.nop, .int 2, 0, []), (.iload 2, .null, 0, []), (.imul, .null, 0, []), (.iload 3, .null, 0, []), (.iadd, .null, 0, []), (.ireturn, .null, 0, [])]),
  (62, 68, [(.iload 2, .null, 0, []), (.iload 3, .null, 0, []), (.iadd, .null, 0, []), (.nop, .int 2, 0, []), (.idiv, .null, 0, []), (.ireturn, .null, 0, [])]),
  (68, 79, [(.iload 2, .null, 0, []), (.iload 3, .null, 0, []), (.iadd, .null, 0, []), (.aload 0, .null, 0, []), (.getfield 0, .null, 1, [(12, 0)]), (.nop, .int 5, 0, []), (.iaload, .null, 0, []), (.isub, .null, 0, []), (.ireturn, .null, 0, [])]),
  (79, 95, [(.nop, .int 2, 0, []), (.iload 2, .null, 0, []), (.imul, .null, 0, []), (.iload 3, .null, 0, []), (.iadd, .null, 0, []), (.iload 2, .null, 0, []), (.nop, .int 2, 0, []), (.irem, .null, 0, []), (.nop, .int 1, 0, []), (.if_icmp .ne 0, .null, 95, []), (.nop, .int 3, 0, []), (.goto 0, .null, 96, [])]),
  (95, 96, [(.nop, .int 0, 0, [])]),
  (96, 98, [(.iadd, .null, 0, []), (.ireturn, .null, 0, [])]),
  (98, 111, [(.iload 2, .null, 0, []), (.iload 3, .null, 0, []), (.iadd, .null, 0, []), (.nop, .int 2, 0, []), (.aload 0, .null, 0, []), (.getfield 0, .null, 1, [(12, 0)]), (.nop, .int 5, 0, []), (.iaload, .null, 0, []), (.imul, .null, 0, []), (.isub, .null, 0, []), (.ireturn, .null, 0, [])]),
  (111, 115, [(.iload 2, .null, 0, []), (.iload 3, .null, 0, []), (.iadd, .null, 0, []), (.ireturn, .null, 0, [])])])
/-- 27: OverFenceModel.heightOf(II)I -/
def mc_27 : am_M := (3, 0, [(0, 14, [(.aload 0, .null, 0, []), (.iload 1, .null, 0, []), (.iload 2, .null, 0, []), (.invokevirtual 0, .retAddr 0, 3, [(12, 26)]), (.aload 0, .null, 0, []), (.iload 1, .null, 0, []), (.iload 2, .null, 0, []), (.invokevirtual 0, .retAddr 0, 3, [(12, 25)]), (.iadd, .null, 0, []), (.ireturn, .null, 0, [])])])
/-- 28: OverFenceModel.isOver(II)Z -/
def mc_28 : am_M := (3, 0, [(0, 28, [(.aload 0, .null, 0, []), (.iload 1, .null, 0, []), (.iload 2, .null, 0, []), (.invokevirtual 0, .retAddr 0, 3, [(12, 27)]), (.aload 0, .null, 0, []), (.nop, .int 177, 0, []), (.nop, .int 5, 0, []), (.invokevirtual 0, .retAddr 0, 3, [(12, 18)]), (.aload 0, .null, 0, []), (.getfield 0, .null, 1, [(12, 0)]), (.nop, .int 1, 0, []), (.iaload, .null, 0, []), (.iadd, .null, 0, []), (.if_icmp .le 0, .null, 28, []), (.nop, .int 1, 0, []), (.goto 0, .null, 29, [])]),
  (28, 29, [(.nop, .int 0, 0, [])]),
  (29, 30, [(.freturn, .null, 0, [])])])
/-- 29: OverFenceModel.bedOf(II)I -/
def mc_29 : am_M := (3, 0, [(0, 37, [(.iload 2, .null, 0, []), (.nop, .int 2, 0, []), (.aload 0, .null, 0, []), (.getfield 0, .null, 1, [(12, 0)]), (.nop, .int 0, 0, []), (.iaload, .null, 0, []), (.imul, .null, 0, []), (.iadd, .null, 0, []), (.aload 0, .null, 0, []), (.getfield 0, .null, 1, [(12, 0)]), (.nop, .int 31, 0, []), (.iload 1, .null, 0, []), (.iadd, .null, 0, []), (.iaload, .null, 0, []), (.iadd, .null, 0, []), (.aload 0, .null, 0, []), (.getfield 0, .null, 1, [(12, 0)]), (.nop, .int 26, 0, []), (.iload 1, .null, 0, []), (.iadd, .null, 0, []), (.iaload, .null, 0, []), (.nop, .int 5, 0, []), (.if_icmp .ne 0, .null, 37, []), (.nop, .int 1, 0, []), (.goto 0, .null, 38, [])]),
  (37, 38, [(.nop, .int 0, 0, [])]),
  (38, 43, [(.iadd, .null, 0, []), (.nop, .int 10, 0, []), (.irem, .null, 0, []), (.ireturn, .null, 0, [])])])
/-- 30: OverFenceModel.height(II)I -/
def mc_30 : am_M := (3, 0, [(0, 12, [(.aload 0, .null, 0, []), (.iload 1, .null, 0, []), (.invokevirtual 0, .retAddr 0, 2, [(12, 2)]), (.ifCond .ne 0, .null, 12, []), (.nop, .int (-1001), 0, []), (.ireturn, .null, 0, [])]),
  (12, 28, [(.iload 2, .null, 0, []), (.invokestatic 0, .retAddr 0, 1, [(0, 3)]), (.ifCond .eq 0, .null, 28, []), (.aload 0, .null, 0, []), (.iload 1, .null, 0, []), (.iload 2, .null, 0, []), (.invokevirtual 0, .retAddr 0, 3, [(12, 27)]), (.goto 0, .null, 31, [])]),
  (28, 31, [(.nop, .int (-1002), 0, [])]),
  (31, 32, [(.ireturn, .null, 0, [])])])
/-- 31: OverFenceModel.falls(II)I -/
def mc_31 : am_M := (3, 0, [(0, 10, [(.aload 0, .null, 0, []), (.iload 1, .null, 0, []), (.invokevirtual 0, .retAddr 0, 2, [(12, 2)]), (.ifCond .ne 0, .null, 10, []), (.nop, .int (-1), 0, []), (.ireturn, .null, 0, [])]),
  (10, 20, [(.iload 2, .null, 0, []), (.invokestatic 0, .retAddr 0, 1, [(0, 3)]), (.ifCond .ne 0, .null, 20, []), (.nop, .int (-2), 0, []), (.ireturn, .null, 0, [])]),
  (20, 38, [(.aload 0, .null, 0, []), (.iload 1, .null, 0, []), (.iload 2, .null, 0, []), (.invokevirtual 0, .retAddr 0, 3, [(12, 28)]), (.ifCond .eq 0, .null, 38, []), (.aload 0, .null, 0, []), (.iload 1, .null, 0, []), (.iload 2, .null, 0, []), (.invokevirtual 0, .retAddr 0, 3, [(12, 29)]), (.goto 0, .null, 40, [])]),
  (38, 40, [(.nop, .int (-5), 0, [])]),
  (40, 41, [(.ireturn, .null, 0, [])])])
/-- 32: OverFenceModel.becomes(II)I -/
def mc_32 : am_M := (4, 0, [(0, 21, [(.aload 0, .null, 0, []), (.getfield 0, .null, 1, [(12, 0)]), (.nop, .int 16, 0, []), (.iload 1, .null, 0, []), (.iadd, .null, 0, []), (.iaload, .null, 0, []), (.istore 3, .null, 0, []), (.iload 3, .null, 0, []), (.nop, .int 1, 0, []), (.if_icmp .le 0, .null, 21, []), (.iload 3, .null, 0, []), (.nop, .int 1, 0, []), (.iadd, .null, 0, []), (.goto 0, .null, 54, [])]),
  (21, 53, [(.iload 2, .null, 0, []), (.aload 0, .null, 0, []), (.getfield 0, .null, 1, [(12, 0)]), (.nop, .int 2, 0, []), (.iaload, .null, 0, []), (.if_icmp .gt 0, .null, 53, []), (.aload 0, .null, 0, []), (.getfield 0, .null, 1, [(12, 0)]), (.nop, .int 4, 0, []), (.iaload, .null, 0, []), (.aload 0, .null, 0, []), (.nop, .int 182, 0, []), (.nop, .int 18, 0, []), (.invokevirtual 0, .retAddr 0, 3, [(12, 18)]), (.if_icmp .eq 0, .null, 53, []), (.nop, .int 1, 0, []), (.goto 0, .null, 54, [])]),
  (53, 54, [(.nop, .int 2, 0, [])]),
  (54, 55, [(.ireturn, .null, 0, [])])])
/-- 33: OverFenceModel.goes(II)I -/
def mc_33 : am_M := (5, 0, [(0, 11, [(.aload 0, .null, 0, []), (.iload 1, .null, 0, []), (.iload 2, .null, 0, []), (.invokevirtual 0, .retAddr 0, 3, [(12, 28)]), (.ifCond .ne 0, .null, 11, []), (.nop, .int 0, 0, []), (.ireturn, .null, 0, [])]),
  (11, 68, [(.aload 0, .null, 0, []), (.getfield 0, .null, 1, [(12, 0)]), (.nop, .int 8, 0, []), (.dup2, .null, 0, []), (.iaload, .null, 0, []), (.nop, .int 1, 0, []), (.iadd, .null, 0, []), (.iastore, .null, 0, []), (.aload 0, .null, 0, []), (.iload 1, .null, 0, []), (.iload 2, .null, 0, []), (.invokevirtual 0, .retAddr 0, 3, [(12, 29)]), (.istore 3, .null, 0, []), (.aload 0, .null, 0, []), (.iload 3, .null, 0, []), (.aload 0, .null, 0, []), (.getfield 0, .null, 1, [(12, 0)]), (.nop, .int 8, 0, []), (.iaload, .null, 0, []), (.invokevirtual 0, .retAddr 0, 3, [(12, 32)]), (.istore 4, .null, 0, []), (.aload 0, .null, 0, []), (.getfield 0, .null, 1, [(12, 0)]), (.nop, .int 7, 0, []), (.dup2, .null, 0, []), (.iaload, .null, 0, []), (.aload 0, .null, 0, []), (.getfield 0, .null, 1, [(12, 0)]), (.nop, .int 16, 0, []), (.iload 3, .null, 0, []), (.iadd, .null, 0, []), (.iaload, .null, 0, []), (.nop, .int 1, 0, []), (.if_icmp .ne 0, .null, 68, []), (.nop, .int 1, 0, []), (.goto 0, .null, 69, [])]),
  (68, 69, [(.nop, .int 0, 0, [])]),
  (69, 91, [(.iadd, .null, 0, []), (.iastore, .null, 0, []), (.aload 0, .null, 0, []), (.getfield 0, .null, 1, [(12, 0)]), (.nop, .int 36, 0, []), (.iload 1, .null, 0, []), (.iadd, .null, 0, []), (.dup2, .null, 0, []), (.iaload, .null, 0, []), (.iload 4, .null, 0, []), (.nop, .int 3, 0, []), (.if_icmp .ne 0, .null, 91, []), (.nop, .int 1, 0, []), (.goto 0, .null, 92, [])]),
  (91, 92, [(.nop, .int 0, 0, [])]),
  (92, 113, [(.iadd, .null, 0, []), (.iastore, .null, 0, []), (.aload 0, .null, 0, []), (.getfield 0, .null, 1, [(12, 0)]), (.nop, .int 5, 0, []), (.dup2, .null, 0, []), (.iaload, .null, 0, []), (.iload 4, .null, 0, []), (.nop, .int 2, 0, []), (.if_icmp .eq 0, .null, 113, []), (.iload 4, .null, 0, []), (.nop, .int 3, 0, []), (.if_icmp .ne 0, .null, 117, [])]),
  (113, 117, [(.nop, .int 1, 0, []), (.goto 0, .null, 118, [])]),
  (117, 118, [(.nop, .int 0, 0, [])]),
  (118, 138, [(.iadd, .null, 0, []), (.iastore, .null, 0, []), (.aload 0, .null, 0, []), (.getfield 0, .null, 1, [(12, 0)]), (.nop, .int 6, 0, []), (.dup2, .null, 0, []), (.iaload, .null, 0, []), (.iload 4, .null, 0, []), (.nop, .int 4, 0, []), (.if_icmp .ne 0, .null, 138, []), (.nop, .int 1, 0, []), (.goto 0, .null, 139, [])]),
  (138, 139, [(.nop, .int 0, 0, [])]),
  (139, 158, [(.iadd, .null, 0, []), (.iastore, .null, 0, []), (.aload 0, .null, 0, []), (.getfield 0, .null, 1, [(12, 0)]), (.nop, .int 3, 0, []), (.dup2, .null, 0, []), (.iaload, .null, 0, []), (.iload 4, .null, 0, []), (.nop, .int 1, 0, []), (.if_icmp .le 0, .null, 158, []), (.nop, .int 1, 0, []), (.goto 0, .null, 159, [])]),
  (158, 159, [(.nop, .int 0, 0, [])]),
  (159, 164, [(.isub, .null, 0, []), (.iastore, .null, 0, []), (.iload 4, .null, 0, []), (.ireturn, .null, 0, [])])])
/-- 34: OverFenceModel.kick(II)I -/
def mc_34 : am_M := (3, 0, [(0, 10, [(.aload 0, .null, 0, []), (.iload 1, .null, 0, []), (.invokevirtual 0, .retAddr 0, 2, [(12, 2)]), (.ifCond .ne 0, .null, 10, []), (.nop, .int (-1), 0, []), (.ireturn, .null, 0, [])]),
  (10, 20, [(.iload 2, .null, 0, []), (.invokestatic 0, .retAddr 0, 1, [(0, 3)]), (.ifCond .ne 0, .null, 20, []), (.nop, .int (-2), 0, []), (.ireturn, .null, 0, [])]),
  (20, 34, [(.aload 0, .null, 0, []), (.getfield 0, .null, 1, [(12, 0)]), (.nop, .int 3, 0, []), (.iaload, .null, 0, []), (.ifCond .ne 0, .null, 34, []), (.nop, .int (-3), 0, []), (.goto 0, .null, 40, [])]),
  (34, 40, [(.aload 0, .null, 0, []), (.iload 1, .null, 0, []), (.iload 2, .null, 0, []), (.invokevirtual 0, .retAddr 0, 3, [(12, 33)])]),
  (40, 41, [(.ireturn, .null, 0, [])])])
/-- 35: OverFenceModel.night()I -/
def mc_35 : am_M := (1, 0, [(0, 16, [(.aload 0, .null, 0, []), (.getfield 0, .null, 1, [(12, 0)]), (.nop, .int 9, 0, []), (.iaload, .null, 0, []), (.nop, .int 999, 0, []), (.if_icmp .ne 0, .null, 16, []), (.nop, .int (-3), 0, []), (.ireturn, .null, 0, [])]),
  (16, 78, [(.aload 0, .null, 0, []), (.getfield 0, .null, 1, [(12, 0)]), (.nop, .int 9, 0, []), (.dup2, .null, 0, []), (.iaload, .null, 0, []), (.nop, .int 1, 0, []), (.iadd, .null, 0, []), (.iastore, .null, 0, []), (.aload 0, .null, 0, []), (.getfield 0, .null, 1, [(12, 0)]), (.nop, .int 8, 0, []), (.nop, .int 0, 0, []), (.iastore, .null, 0, []), (.aload 0, .null, 0, []), (.getfield 0, .null, 1, [(12, 0)]), (.nop, .int 4, 0, []), (.nop, .int 15, 0, []), (.iastore, .null, 0, []), (.aload 0, .null, 0, []), (.getfield 0, .null, 1, [(12, 0)]), (.nop, .int 9, 0, []), (.iaload, .null, 0, []), (.nop, .int 7, 0, []), (.irem, .null, 0, []), (.ifCond .ne 0, .null, 78, []), (.aload 0, .null, 0, []), (.getfield 0, .null, 1, [(12, 0)]), (.nop, .int 3, 0, []), (.dup2, .null, 0, []), (.iaload, .null, 0, []), (.aload 0, .null, 0, []), (.getfield 0, .null, 1, [(12, 0)]), (.nop, .int 5, 0, []), (.iaload, .null, 0, []), (.iadd, .null, 0, []), (.iastore, .null, 0, []), (.aload 0, .null, 0, []), (.getfield 0, .null, 1, [(12, 0)]), (.nop, .int 5, 0, []), (.nop, .int 0, 0, []), (.iastore, .null, 0, [])]),
  (78, 86, [(.aload 0, .null, 0, []), (.getfield 0, .null, 1, [(12, 0)]), (.nop, .int 9, 0, []), (.iaload, .null, 0, []), (.ireturn, .null, 0, [])])])
/-- 36: OverFenceModel.lowest(JJI)J -/
def mc_36 : am_M := (11, 0, [(0, 6, [(.lload 0, .null, 0, []), (.lstore 5, .null, 0, []), (.lload 2, .null, 0, []), (.lstore 7, .null, 0, [])]),
  (6, 31, [(.lload 7, .null, 0, []), (.nop, .long 0, 0, []), (.lcmp, .null, 0, []), (.ifCond .eq 0, .null, 31, []), (.lload 5, .null, 0, []), (.lload 7, .null, 0, []), (.lrem, .null, 0, []), (.lstore 9, .null, 0, []), (.lload 7, .null, 0, []), (.lstore 5, .null, 0, []), (.lload 9, .null, 0, []), (.lstore 7, .null, 0, []), (.goto 0, .null, 6, [])]),
  (31, 40, [(.iload 4, .null, 0, []), (.ifCond .ne 0, .null, 40, []), (.lload 0, .null, 0, []), (.goto 0, .null, 41, [])]),
  (40, 41, [(.lload 2, .null, 0, [])]),
  (41, 45, [(.lload 5, .null, 0, []), (.ldiv, .null, 0, []), (.lreturn, .null, 0, [])])])
/-- 37: OverFenceModel.odds(III)J -/
def mc_37 : am_M := (8, 0, [(0, 26, [(.aload 0, .null, 0, []), (.iload 1, .null, 0, []), (.invokevirtual 0, .retAddr 0, 2, [(12, 2)]), (.ifCond .eq 0, .null, 26, []), (.iload 2, .null, 0, []), (.nop, .int 0, 0, []), (.nop, .int 4, 0, []), (.invokestatic 0, .retAddr 0, 3, [(0, 1)]), (.ifCond .eq 0, .null, 26, []), (.iload 3, .null, 0, []), (.nop, .int 0, 0, []), (.nop, .int 1, 0, []), (.invokestatic 0, .retAddr 0, 3, [(0, 1)]), (.ifCond .ne 0, .null, 30, [])]),
  (26, 30, [(.nop, .long (-9223372036854775808), 0, []), (.lreturn, .null, 0, [])]),
  (30, 36, [(.nop, .long 0, 0, []), (.lstore 4, .null, 0, []), (.nop, .int 0, 0, []), (.istore 6, .null, 0, [])]),
  (36, 76, [(.iload 6, .null, 0, []), (.nop, .int 10, 0, []), (.if_icmp .ge 0, .null, 101, []), (.aload 0, .null, 0, []), (.iload 1, .null, 0, []), (.iload 6, .null, 0, []), (.invokevirtual 0, .retAddr 0, 3, [(12, 28)]), (.ifCond .eq 0, .null, 76, []), (.aload 0, .null, 0, []), (.aload 0, .null, 0, []), (.iload 1, .null, 0, []), (.iload 6, .null, 0, []), (.invokevirtual 0, .retAddr 0, 3, [(12, 29)]), (.aload 0, .null, 0, []), (.getfield 0, .null, 1, [(12, 0)]), (.nop, .int 8, 0, []), (.iaload, .null, 0, []), (.nop, .int 1, 0, []), (.iadd, .null, 0, []), (.invokevirtual 0, .retAddr 0, 3, [(12, 32)]), (.goto 0, .null, 77, [])]),
  (76, 77, [(.nop, .int 0, 0, [])]),
  (77, 91, [(.istore 7, .null, 0, []), (.lload 4, .null, 0, []), (.iload 7, .null, 0, []), (.iload 2, .null, 0, []), (.if_icmp .ne 0, .null, 91, []), (.nop, .long 1, 0, []), (.goto 0, .null, 92, [])]),
  (91, 92, [(.nop, .long 0, 0, [])]),
  (92, 101, [(.ladd, .null, 0, []), (.lstore 4, .null, 0, []), (.iinc 6 0, .int 1, 0, []), (.goto 0, .null, 36, [])]),
  (101, 111, [(.lload 4, .null, 0, []), (.nop, .long 10, 0, []), (.iload 3, .null, 0, []), (.invokestatic 0, .retAddr 0, 3, [(0, 36)]), (.lreturn, .null, 0, [])])])
/-- 38: OverFenceModel.oversOf(I)I -/
def mc_38 : am_M := (4, 0, [(0, 4, [(.nop, .int 0, 0, []), (.istore 2, .null, 0, []), (.nop, .int 0, 0, []), (.istore 3, .null, 0, [])]),
  (4, 29, [(.iload 3, .null, 0, []), (.aload 0, .null, 0, []), (.getfield 0, .null, 1, [(12, 0)]), (.nop, .int 10, 0, []), (.iaload, .null, 0, []), (.if_icmp .ge 0, .null, 38, []), (.iload 2, .null, 0, []), (.aload 0, .null, 0, []), (.iload 3, .null, 0, []), (.iload 1, .null, 0, []), (.invokevirtual 0, .retAddr 0, 3, [(12, 28)]), (.ifCond .eq 0, .null, 29, []), (.nop, .int 1, 0, []), (.goto 0, .null, 30, [])]),
  (29, 30, [(.nop, .int 0, 0, [])]),
  (30, 38, [(.iadd, .null, 0, []), (.istore 2, .null, 0, []), (.iinc 3 0, .int 1, 0, []), (.goto 0, .null, 4, [])]),
  (38, 40, [(.iload 2, .null, 0, []), (.ireturn, .null, 0, [])])])
/-- 39: OverFenceModel.oversAll()I -/
def mc_39 : am_M := (3, 0, [(0, 4, [(.nop, .int 0, 0, []), (.istore 1, .null, 0, []), (.nop, .int 0, 0, []), (.istore 2, .null, 0, [])]),
  (4, 24, [(.iload 2, .null, 0, []), (.nop, .int 10, 0, []), (.if_icmp .ge 0, .null, 24, []), (.iload 1, .null, 0, []), (.aload 0, .null, 0, []), (.iload 2, .null, 0, []), (.invokevirtual 0, .retAddr 0, 2, [(12, 38)]), (.iadd, .null, 0, []), (.istore 1, .null, 0, []), (.iinc 2 0, .int 1, 0, []), (.goto 0, .null, 4, [])]),
  (24, 26, [(.iload 1, .null, 0, []), (.ireturn, .null, 0, [])])])
/-- 40: OverFenceModel.turn(I)I -/
def mc_40 : am_M := (8, 0, [(0, 11, [(.iload 1, .null, 0, []), (.nop, .int 0, 0, []), (.nop, .int 1, 0, []), (.invokestatic 0, .retAddr 0, 3, [(0, 1)]), (.ifCond .ne 0, .null, 11, []), (.nop, .int (-1), 0, []), (.ireturn, .null, 0, [])]),
  (11, 26, [(.aload 0, .null, 0, []), (.getfield 0, .null, 1, [(12, 0)]), (.nop, .int 0, 0, []), (.iaload, .null, 0, []), (.istore 2, .null, 0, []), (.nop, .int 0, 0, []), (.istore 3, .null, 0, []), (.nop, .int 0, 0, []), (.istore 4, .null, 0, []), (.nop, .int 0, 0, []), (.istore 5, .null, 0, [])]),
  (26, 58, [(.iload 5, .null, 0, []), (.nop, .int 4, 0, []), (.if_icmp .ge 0, .null, 97, []), (.aload 0, .null, 0, []), (.getfield 0, .null, 1, [(12, 0)]), (.nop, .int 0, 0, []), (.iload 5, .null, 0, []), (.iastore, .null, 0, []), (.aload 0, .null, 0, []), (.invokevirtual 0, .retAddr 0, 1, [(12, 39)]), (.istore 6, .null, 0, []), (.iload 5, .null, 0, []), (.ifCond .eq 0, .null, 58, []), (.iload 6, .null, 0, []), (.iload 4, .null, 0, []), (.if_icmp .ge 0, .null, 62, [])]),
  (58, 62, [(.nop, .int 1, 0, []), (.goto 0, .null, 63, [])]),
  (62, 63, [(.nop, .int 0, 0, [])]),
  (63, 75, [(.istore 7, .null, 0, []), (.iload 7, .null, 0, []), (.ifCond .eq 0, .null, 75, []), (.iload 5, .null, 0, []), (.goto 0, .null, 76, [])]),
  (75, 76, [(.iload 3, .null, 0, [])]),
  (76, 87, [(.istore 3, .null, 0, []), (.iload 7, .null, 0, []), (.ifCond .eq 0, .null, 87, []), (.iload 6, .null, 0, []), (.goto 0, .null, 89, [])]),
  (87, 89, [(.iload 4, .null, 0, [])]),
  (89, 97, [(.istore 4, .null, 0, []), (.iinc 5 0, .int 1, 0, []), (.goto 0, .null, 26, [])]),
  (97, 112, [(.aload 0, .null, 0, []), (.getfield 0, .null, 1, [(12, 0)]), (.nop, .int 0, 0, []), (.iload 2, .null, 0, []), (.iastore, .null, 0, []), (.iload 1, .null, 0, []), (.ifCond .ne 0, .null, 112, []), (.iload 3, .null, 0, []), (.goto 0, .null, 114, [])]),
  (112, 114, [(.iload 4, .null, 0, [])]),
  (114, 115, [(.ireturn, .null, 0, [])])])
/-- 41: OverFenceModel.need(I)I -/
def mc_41 : am_M := (5, 0, [(0, 13, [(.iload 1, .null, 0, []), (.nop, .int 0, 0, []), (.nop, .int 50, 0, []), (.invokestatic 0, .retAddr 0, 3, [(0, 1)]), (.ifCond .ne 0, .null, 13, []), (.nop, .int (-2), 0, []), (.ireturn, .null, 0, [])]),
  (13, 27, [(.aload 0, .null, 0, []), (.getfield 0, .null, 1, [(12, 0)]), (.nop, .int 1, 0, []), (.iaload, .null, 0, []), (.istore 2, .null, 0, []), (.nop, .int (-5), 0, []), (.istore 3, .null, 0, []), (.nop, .int 20, 0, []), (.istore 4, .null, 0, [])]),
  (27, 53, [(.iload 4, .null, 0, []), (.ifCond .lt 0, .null, 61, []), (.aload 0, .null, 0, []), (.getfield 0, .null, 1, [(12, 0)]), (.nop, .int 1, 0, []), (.iload 4, .null, 0, []), (.iastore, .null, 0, []), (.aload 0, .null, 0, []), (.invokevirtual 0, .retAddr 0, 1, [(12, 39)]), (.iload 1, .null, 0, []), (.if_icmp .gt 0, .null, 53, []), (.iload 4, .null, 0, []), (.goto 0, .null, 54, [])]),
  (53, 54, [(.iload 3, .null, 0, [])]),
  (54, 61, [(.istore 3, .null, 0, []), (.iinc 4 0, .int (-1), 0, []), (.goto 0, .null, 27, [])]),
  (61, 70, [(.aload 0, .null, 0, []), (.getfield 0, .null, 1, [(12, 0)]), (.nop, .int 1, 0, []), (.iload 2, .null, 0, []), (.iastore, .null, 0, []), (.iload 3, .null, 0, []), (.ireturn, .null, 0, [])])])
/-- 42: OverFenceModel.bar(I)I -/
def mc_42 : am_M := (6, 0, [(0, 11, [(.iload 1, .null, 0, []), (.nop, .int 0, 0, []), (.nop, .int 1, 0, []), (.invokestatic 0, .retAddr 0, 3, [(0, 1)]), (.ifCond .ne 0, .null, 11, []), (.nop, .int (-1), 0, []), (.ireturn, .null, 0, [])]),
  (11, 18, [(.nop, .int 0, 0, []), (.istore 2, .null, 0, []), (.nop, .int (-1), 0, []), (.istore 3, .null, 0, []), (.nop, .int 0, 0, []), (.istore 4, .null, 0, [])]),
  (18, 44, [(.iload 4, .null, 0, []), (.nop, .int 10, 0, []), (.if_icmp .ge 0, .null, 65, []), (.aload 0, .null, 0, []), (.iload 4, .null, 0, []), (.invokevirtual 0, .retAddr 0, 2, [(12, 38)]), (.istore 5, .null, 0, []), (.iload 5, .null, 0, []), (.iload 3, .null, 0, []), (.if_icmp .le 0, .null, 44, []), (.iload 4, .null, 0, []), (.goto 0, .null, 45, [])]),
  (44, 45, [(.iload 2, .null, 0, [])]),
  (45, 57, [(.istore 2, .null, 0, []), (.iload 5, .null, 0, []), (.iload 3, .null, 0, []), (.if_icmp .le 0, .null, 57, []), (.iload 5, .null, 0, []), (.goto 0, .null, 58, [])]),
  (57, 58, [(.iload 3, .null, 0, [])]),
  (58, 65, [(.istore 3, .null, 0, []), (.iinc 4 0, .int 1, 0, []), (.goto 0, .null, 18, [])]),
  (65, 73, [(.iload 1, .null, 0, []), (.ifCond .ne 0, .null, 73, []), (.iload 2, .null, 0, []), (.goto 0, .null, 74, [])]),
  (73, 74, [(.iload 3, .null, 0, [])]),
  (74, 75, [(.ireturn, .null, 0, [])])])
/-- 43: OverFenceModel.looksForBeds(I)V -/
def mc_43 : am_M := (5, 0, [(0, 9, [(.aload 0, .null, 0, []), (.getfield 0, .null, 1, [(12, 0)]), (.nop, .int 5, 0, []), (.iaload, .null, 0, []), (.istore 2, .null, 0, []), (.nop, .int 0, 0, []), (.istore 3, .null, 0, [])]),
  (9, 27, [(.iload 3, .null, 0, []), (.nop, .int 13, 0, []), (.if_icmp .ge 0, .null, 79, []), (.aload 0, .null, 0, []), (.getfield 0, .null, 1, [(12, 0)]), (.nop, .int 5, 0, []), (.iload 2, .null, 0, []), (.iload 3, .null, 0, []), (.iadd, .null, 0, []), (.iastore, .null, 0, []), (.nop, .int 0, 0, []), (.istore 4, .null, 0, [])]),
  (27, 65, [(.iload 4, .null, 0, []), (.nop, .int 10, 0, []), (.if_icmp .ge 0, .null, 73, []), (.aload 0, .null, 0, []), (.getfield 0, .null, 14, [(12, 0)]), (.nop, .int 10, 0, []), (.iload 3, .null, 0, []), (.imul, .null, 0, []), (.iload 4, .null, 0, []), (.iadd, .null, 0, []), (.aload 0, .null, 0, []), (.iload 1, .null, 0, []), (.iload 4, .null, 0, []), (.invokevirtual 0, .retAddr 0, 3, [(12, 28)]), (.ifCond .eq 0, .null, 65, []), (.aload 0, .null, 0, []), (.iload 1, .null, 0, []), (.iload 4, .null, 0, []), (.invokevirtual 0, .retAddr 0, 3, [(12, 29)]), (.goto 0, .null, 66, [])]),
  (65, 66, [(.nop, .int (-1), 0, [])]),
  (66, 73, [(.iastore, .null, 0, []), (.iinc 4 0, .int 1, 0, []), (.goto 0, .null, 27, [])]),
  (73, 79, [(.iinc 3 0, .int 1, 0, []), (.goto 0, .null, 9, [])]),
  (79, 87, [(.aload 0, .null, 0, []), (.getfield 0, .null, 1, [(12, 0)]), (.nop, .int 5, 0, []), (.iload 2, .null, 0, []), (.iastore, .null, 0, []), (.return_, .null, 0, [])])])
/-- 44: OverFenceModel.kicksAll(I)V -/
def mc_44 : am_M := (9, 0, [(0, 52, [(.iload 1, .null, 0, []), (.nop, .int 13, 0, []), (.irem, .null, 0, []), (.istore 2, .null, 0, []), (.iload 1, .null, 0, []), (.nop, .int 13, 0, []), (.idiv, .null, 0, []), (.nop, .int 13, 0, []), (.irem, .null, 0, []), (.istore 3, .null, 0, []), (.iload 1, .null, 0, []), (.nop, .int 169, 0, []), (.idiv, .null, 0, []), (.istore 4, .null, 0, []), (.iload 2, .null, 0, []), (.iload 3, .null, 0, []), (.iadd, .null, 0, []), (.aload 0, .null, 0, []), (.getfield 0, .null, 1, [(12, 0)]), (.nop, .int 3, 0, []), (.iaload, .null, 0, []), (.if_icmp .ne 0, .null, 52, []), (.aload 0, .null, 0, []), (.getfield 0, .null, 13, [(12, 0)]), (.iload 1, .null, 0, []), (.dup2, .null, 0, []), (.laload, .null, 0, []), (.nop, .long 10, 0, []), (.aload 0, .null, 0, []), (.getfield 0, .null, 12, [(12, 0)]), (.iload 1, .null, 0, []), (.laload, .null, 0, []), (.lmul, .null, 0, []), (.ladd, .null, 0, []), (.lastore, .null, 0, []), (.return_, .null, 0, [])]),
  (52, 55, [(.nop, .int 0, 0, []), (.istore 5, .null, 0, [])]),
  (55, 86, [(.iload 5, .null, 0, []), (.nop, .int 10, 0, []), (.if_icmp .ge 0, .null, 173, []), (.aload 0, .null, 0, []), (.getfield 0, .null, 14, [(12, 0)]), (.nop, .int 10, 0, []), (.iload 2, .null, 0, []), (.imul, .null, 0, []), (.iload 5, .null, 0, []), (.iadd, .null, 0, []), (.iaload, .null, 0, []), (.istore 6, .null, 0, []), (.iload 6, .null, 0, []), (.nop, .int (-1), 0, []), (.if_icmp .ne 0, .null, 86, []), (.nop, .int 0, 0, []), (.goto 0, .null, 104, [])]),
  (86, 104, [(.aload 0, .null, 0, []), (.iload 6, .null, 0, []), (.aload 0, .null, 0, []), (.getfield 0, .null, 1, [(12, 0)]), (.nop, .int 8, 0, []), (.iaload, .null, 0, []), (.iload 4, .null, 0, []), (.iadd, .null, 0, []), (.nop, .int 1, 0, []), (.iadd, .null, 0, []), (.invokevirtual 0, .retAddr 0, 3, [(12, 32)])]),
  (104, 116, [(.istore 7, .null, 0, []), (.iload 1, .null, 0, []), (.iload 7, .null, 0, []), (.ifCond .ne 0, .null, 116, []), (.nop, .int 0, 0, []), (.goto 0, .null, 119, [])]),
  (116, 119, [(.nop, .int 169, 0, [])]),
  (119, 132, [(.iadd, .null, 0, []), (.iload 7, .null, 0, []), (.nop, .int 2, 0, []), (.if_icmp .eq 0, .null, 132, []), (.iload 7, .null, 0, []), (.nop, .int 3, 0, []), (.if_icmp .ne 0, .null, 136, [])]),
  (132, 136, [(.nop, .int 1, 0, []), (.goto 0, .null, 148, [])]),
  (136, 147, [(.iload 7, .null, 0, []), (.nop, .int 4, 0, []), (.if_icmp .ne 0, .null, 147, []), (.nop, .int 13, 0, []), (.goto 0, .null, 148, [])]),
  (147, 148, [(.nop, .int 0, 0, [])]),
  (148, 173, [(.iadd, .null, 0, []), (.istore 8, .null, 0, []), (.aload 0, .null, 0, []), (.getfield 0, .null, 13, [(12, 0)]), (.iload 8, .null, 0, []), (.dup2, .null, 0, []), (.laload, .null, 0, []), (.aload 0, .null, 0, []), (.getfield 0, .null, 12, [(12, 0)]), (.iload 1, .null, 0, []), (.laload, .null, 0, []), (.ladd, .null, 0, []), (.lastore, .null, 0, []), (.iinc 5 0, .int 1, 0, []), (.goto 0, .null, 55, [])]),
  (173, 174, [(.return_, .null, 0, [])])])
/-- 45: OverFenceModel.rounds(I)V -/
def mc_45 : am_M := (4, 0, [(0, 2, [(.nop, .int 0, 0, []), (.istore 2, .null, 0, [])]),
  (2, 22, [(.iload 2, .null, 0, []), (.nop, .int 2197, 0, []), (.if_icmp .ge 0, .null, 30, []), (.aload 0, .null, 0, []), (.getfield 0, .null, 12, [(12, 0)]), (.iload 2, .null, 0, []), (.iload 2, .null, 0, []), (.ifCond .ne 0, .null, 22, []), (.nop, .long 1, 0, []), (.goto 0, .null, 23, [])]),
  (22, 23, [(.nop, .long 0, 0, [])]),
  (23, 30, [(.lastore, .null, 0, []), (.iinc 2 0, .int 1, 0, []), (.goto 0, .null, 2, [])]),
  (30, 32, [(.nop, .int 0, 0, []), (.istore 2, .null, 0, [])]),
  (32, 62, [(.iload 2, .null, 0, []), (.iload 1, .null, 0, []), (.if_icmp .ge 0, .null, 137, []), (.aload 0, .null, 0, []), (.getfield 0, .null, 1, [(12, 0)]), (.nop, .int 10, 0, []), (.iaload, .null, 0, []), (.ifCond .le 0, .null, 137, []), (.aload 0, .null, 0, []), (.iload 2, .null, 0, []), (.aload 0, .null, 0, []), (.getfield 0, .null, 1, [(12, 0)]), (.nop, .int 10, 0, []), (.iaload, .null, 0, []), (.irem, .null, 0, []), (.invokevirtual 0, .retAddr 0, 2, [(12, 43)]), (.nop, .int 0, 0, []), (.istore 3, .null, 0, [])]),
  (62, 82, [(.iload 3, .null, 0, []), (.nop, .int 2197, 0, []), (.if_icmp .ge 0, .null, 82, []), (.aload 0, .null, 0, []), (.getfield 0, .null, 13, [(12, 0)]), (.iload 3, .null, 0, []), (.nop, .long 0, 0, []), (.lastore, .null, 0, []), (.iinc 3 0, .int 1, 0, []), (.goto 0, .null, 62, [])]),
  (82, 84, [(.nop, .int 0, 0, []), (.istore 3, .null, 0, [])]),
  (84, 107, [(.iload 3, .null, 0, []), (.nop, .int 2197, 0, []), (.if_icmp .ge 0, .null, 113, []), (.aload 0, .null, 0, []), (.getfield 0, .null, 12, [(12, 0)]), (.iload 3, .null, 0, []), (.laload, .null, 0, []), (.nop, .long 0, 0, []), (.lcmp, .null, 0, []), (.ifCond .le 0, .null, 107, []), (.aload 0, .null, 0, []), (.iload 3, .null, 0, []), (.invokevirtual 0, .retAddr 0, 2, [(12, 44)])]),
  (107, 113, [(.iinc 3 0, .int 1, 0, []), (.goto 0, .null, 84, [])]),
  (113, 137, [(.aload 0, .null, 0, []), (.getfield 0, .null, 12, [(12, 0)]), (.astore 3, .null, 0, []), (.aload 0, .null, 0, []), (.aload 0, .null, 0, []), (.getfield 0, .null, 13, [(12, 0)]), (.putfield 0, .null, 12, [(12, 3)]), (.aload 0, .null, 0, []), (.aload 3, .null, 0, []), (.putfield 0, .null, 13, [(12, 3)]), (.iinc 2 0, .int 1, 0, []), (.goto 0, .null, 32, [])]),
  (137, 138, [(.return_, .null, 0, [])])])
/-- 46: OverFenceModel.roundSum(I)J -/
def mc_46 : am_M := (8, 0, [(0, 5, [(.nop, .long 0, 0, []), (.lstore 2, .null, 0, []), (.nop, .int 0, 0, []), (.istore 4, .null, 0, [])]),
  (5, 49, [(.iload 4, .null, 0, []), (.nop, .int 2197, 0, []), (.if_icmp .ge 0, .null, 120, []), (.iload 4, .null, 0, []), (.nop, .int 13, 0, []), (.irem, .null, 0, []), (.istore 5, .null, 0, []), (.iload 4, .null, 0, []), (.nop, .int 13, 0, []), (.idiv, .null, 0, []), (.nop, .int 13, 0, []), (.irem, .null, 0, []), (.istore 6, .null, 0, []), (.iload 1, .null, 0, []), (.ifCond .ne 0, .null, 49, []), (.aload 0, .null, 0, []), (.getfield 0, .null, 1, [(12, 0)]), (.nop, .int 3, 0, []), (.iaload, .null, 0, []), (.iload 5, .null, 0, []), (.isub, .null, 0, []), (.iload 6, .null, 0, []), (.isub, .null, 0, []), (.goto 0, .null, 98, [])]),
  (49, 66, [(.iload 1, .null, 0, []), (.nop, .int 1, 0, []), (.if_icmp .ne 0, .null, 66, []), (.aload 0, .null, 0, []), (.getfield 0, .null, 1, [(12, 0)]), (.nop, .int 5, 0, []), (.iaload, .null, 0, []), (.iload 5, .null, 0, []), (.iadd, .null, 0, []), (.goto 0, .null, 98, [])]),
  (66, 84, [(.iload 1, .null, 0, []), (.nop, .int 2, 0, []), (.if_icmp .ne 0, .null, 84, []), (.aload 0, .null, 0, []), (.getfield 0, .null, 1, [(12, 0)]), (.nop, .int 6, 0, []), (.iaload, .null, 0, []), (.iload 6, .null, 0, []), (.iadd, .null, 0, []), (.goto 0, .null, 98, [])]),
  (84, 98, [(.aload 0, .null, 0, []), (.getfield 0, .null, 1, [(12, 0)]), (.nop, .int 8, 0, []), (.iaload, .null, 0, []), (.iload 4, .null, 0, []), (.nop, .int 169, 0, []), (.idiv, .null, 0, []), (.iadd, .null, 0, [])]),
  (98, 120, [(.istore 7, .null, 0, []), (.lload 2, .null, 0, []), (.iload 7, .null, 0, []), (.i2l, .null, 0, []), (.aload 0, .null, 0, []), (.getfield 0, .null, 12, [(12, 0)]), (.iload 4, .null, 0, []), (.laload, .null, 0, []), (.lmul, .null, 0, []), (.ladd, .null, 0, []), (.lstore 2, .null, 0, []), (.iinc 4 0, .int 1, 0, []), (.goto 0, .null, 5, [])]),
  (120, 122, [(.lload 2, .null, 0, []), (.lreturn, .null, 0, [])])])
/-- 47: OverFenceModel.round(III)J -/
def mc_47 : am_M := (7, 0, [(0, 28, [(.iload 1, .null, 0, []), (.nop, .int 0, 0, []), (.nop, .int 12, 0, []), (.invokestatic 0, .retAddr 0, 3, [(0, 1)]), (.ifCond .eq 0, .null, 28, []), (.iload 2, .null, 0, []), (.nop, .int 0, 0, []), (.nop, .int 3, 0, []), (.invokestatic 0, .retAddr 0, 3, [(0, 1)]), (.ifCond .eq 0, .null, 28, []), (.iload 3, .null, 0, []), (.nop, .int 0, 0, []), (.nop, .int 1, 0, []), (.invokestatic 0, .retAddr 0, 3, [(0, 1)]), (.ifCond .ne 0, .null, 32, [])]),
  (28, 32, [(.nop, .long (-9223372036854775808), 0, []), (.lreturn, .null, 0, [])]),
  (32, 43, [(.aload 0, .null, 0, []), (.iload 1, .null, 0, []), (.invokevirtual 0, .retAddr 0, 2, [(12, 45)]), (.nop, .long 1, 0, []), (.lstore 4, .null, 0, []), (.nop, .int 0, 0, []), (.istore 6, .null, 0, [])]),
  (43, 73, [(.iload 6, .null, 0, []), (.iload 1, .null, 0, []), (.if_icmp .ge 0, .null, 73, []), (.aload 0, .null, 0, []), (.getfield 0, .null, 1, [(12, 0)]), (.nop, .int 10, 0, []), (.iaload, .null, 0, []), (.ifCond .le 0, .null, 73, []), (.lload 4, .null, 0, []), (.nop, .long 10, 0, []), (.lmul, .null, 0, []), (.lstore 4, .null, 0, []), (.iinc 6 0, .int 1, 0, []), (.goto 0, .null, 43, [])]),
  (73, 85, [(.aload 0, .null, 0, []), (.iload 2, .null, 0, []), (.invokevirtual 0, .retAddr 0, 2, [(12, 46)]), (.lload 4, .null, 0, []), (.iload 3, .null, 0, []), (.invokestatic 0, .retAddr 0, 3, [(0, 36)]), (.lreturn, .null, 0, [])])])
/-- 48: OverFenceModel.rule(I)I -/
def mc_48 : am_M := (10, 0, [(0, 13, [(.iload 1, .null, 0, []), (.nop, .int 0, 0, []), (.nop, .int 12, 0, []), (.invokestatic 0, .retAddr 0, 3, [(0, 1)]), (.ifCond .ne 0, .null, 13, []), (.nop, .int (-2), 0, []), (.ireturn, .null, 0, [])]),
  (13, 28, [(.aload 0, .null, 0, []), (.getfield 0, .null, 1, [(12, 0)]), (.nop, .int 2, 0, []), (.iaload, .null, 0, []), (.istore 2, .null, 0, []), (.nop, .int 0, 0, []), (.istore 3, .null, 0, []), (.nop, .long 0, 0, []), (.lstore 4, .null, 0, []), (.nop, .int 0, 0, []), (.istore 6, .null, 0, [])]),
  (28, 68, [(.iload 6, .null, 0, []), (.nop, .int 10, 0, []), (.if_icmp .ge 0, .null, 107, []), (.aload 0, .null, 0, []), (.getfield 0, .null, 1, [(12, 0)]), (.nop, .int 2, 0, []), (.iload 6, .null, 0, []), (.iastore, .null, 0, []), (.aload 0, .null, 0, []), (.iload 1, .null, 0, []), (.invokevirtual 0, .retAddr 0, 2, [(12, 45)]), (.aload 0, .null, 0, []), (.nop, .int 3, 0, []), (.invokevirtual 0, .retAddr 0, 2, [(12, 46)]), (.lstore 7, .null, 0, []), (.iload 6, .null, 0, []), (.ifCond .eq 0, .null, 68, []), (.lload 7, .null, 0, []), (.lload 4, .null, 0, []), (.lcmp, .null, 0, []), (.ifCond .ge 0, .null, 72, [])]),
  (68, 72, [(.nop, .int 1, 0, []), (.goto 0, .null, 73, [])]),
  (72, 73, [(.nop, .int 0, 0, [])]),
  (73, 85, [(.istore 9, .null, 0, []), (.iload 9, .null, 0, []), (.ifCond .eq 0, .null, 85, []), (.iload 6, .null, 0, []), (.goto 0, .null, 86, [])]),
  (85, 86, [(.iload 3, .null, 0, [])]),
  (86, 97, [(.istore 3, .null, 0, []), (.iload 9, .null, 0, []), (.ifCond .eq 0, .null, 97, []), (.lload 7, .null, 0, []), (.goto 0, .null, 99, [])]),
  (97, 99, [(.lload 4, .null, 0, [])]),
  (99, 107, [(.lstore 4, .null, 0, []), (.iinc 6 0, .int 1, 0, []), (.goto 0, .null, 28, [])]),
  (107, 116, [(.aload 0, .null, 0, []), (.getfield 0, .null, 1, [(12, 0)]), (.nop, .int 2, 0, []), (.iload 2, .null, 0, []), (.iastore, .null, 0, []), (.iload 3, .null, 0, []), (.ireturn, .null, 0, [])])])
/-- 49: OverFenceModel.owes(III)J -/
def mc_49 : am_M := (8, 0, [(0, 26, [(.aload 0, .null, 0, []), (.iload 1, .null, 0, []), (.invokevirtual 0, .retAddr 0, 2, [(12, 2)]), (.ifCond .eq 0, .null, 26, []), (.iload 2, .null, 0, []), (.nop, .int 0, 0, []), (.nop, .int 2, 0, []), (.invokestatic 0, .retAddr 0, 3, [(0, 1)]), (.ifCond .eq 0, .null, 26, []), (.iload 3, .null, 0, []), (.nop, .int 0, 0, []), (.nop, .int 1, 0, []), (.invokestatic 0, .retAddr 0, 3, [(0, 1)]), (.ifCond .ne 0, .null, 30, [])]),
  (26, 30, [(.nop, .long (-9223372036854775808), 0, []), (.lreturn, .null, 0, [])]),
  (30, 36, [(.nop, .int 0, 0, []), (.istore 4, .null, 0, []), (.nop, .int 0, 0, []), (.istore 5, .null, 0, [])]),
  (36, 69, [(.iload 5, .null, 0, []), (.aload 0, .null, 0, []), (.getfield 0, .null, 1, [(12, 0)]), (.nop, .int 10, 0, []), (.iaload, .null, 0, []), (.if_icmp .ge 0, .null, 69, []), (.iload 4, .null, 0, []), (.aload 0, .null, 0, []), (.getfield 0, .null, 1, [(12, 0)]), (.nop, .int 36, 0, []), (.iload 5, .null, 0, []), (.iadd, .null, 0, []), (.iaload, .null, 0, []), (.iadd, .null, 0, []), (.istore 4, .null, 0, []), (.iinc 5 0, .int 1, 0, []), (.goto 0, .null, 36, [])]),
  (69, 85, [(.iload 1, .null, 0, []), (.ifCond .ne 0, .null, 85, []), (.aload 0, .null, 0, []), (.getfield 0, .null, 1, [(12, 0)]), (.nop, .int 10, 0, []), (.iaload, .null, 0, []), (.nop, .int 1, 0, []), (.isub, .null, 0, []), (.goto 0, .null, 88, [])]),
  (85, 88, [(.iload 1, .null, 0, []), (.nop, .int 1, 0, []), (.isub, .null, 0, [])]),
  (88, 109, [(.istore 5, .null, 0, []), (.nop, .long 400, 0, []), (.iload 2, .null, 0, []), (.ifCond .ne 0, .null, 109, []), (.aload 0, .null, 0, []), (.getfield 0, .null, 1, [(12, 0)]), (.nop, .int 36, 0, []), (.iload 1, .null, 0, []), (.iadd, .null, 0, []), (.iaload, .null, 0, []), (.goto 0, .null, 129, [])]),
  (109, 119, [(.iload 2, .null, 0, []), (.nop, .int 1, 0, []), (.if_icmp .ne 0, .null, 119, []), (.iload 4, .null, 0, []), (.goto 0, .null, 129, [])]),
  (119, 129, [(.aload 0, .null, 0, []), (.getfield 0, .null, 1, [(12, 0)]), (.nop, .int 36, 0, []), (.iload 5, .null, 0, []), (.iadd, .null, 0, []), (.iaload, .null, 0, [])]),
  (129, 151, [(.i2l, .null, 0, []), (.lmul, .null, 0, []), (.lstore 6, .null, 0, []), (.lload 6, .null, 0, []), (.iload 2, .null, 0, []), (.nop, .int 1, 0, []), (.if_icmp .ne 0, .null, 151, []), (.aload 0, .null, 0, []), (.getfield 0, .null, 1, [(12, 0)]), (.nop, .int 10, 0, []), (.iaload, .null, 0, []), (.i2l, .null, 0, []), (.goto 0, .null, 152, [])]),
  (151, 152, [(.nop, .long 1, 0, [])]),
  (152, 157, [(.iload 3, .null, 0, []), (.invokestatic 0, .retAddr 0, 3, [(0, 36)]), (.lreturn, .null, 0, [])])])
/-- 50: OverFenceModel.fallsOn(II)I -/
def mc_50 : am_M := (5, 0, [(0, 5, [(.nop, .int 0, 0, []), (.istore 3, .null, 0, []), (.nop, .int 0, 0, []), (.istore 4, .null, 0, [])]),
  (5, 38, [(.iload 4, .null, 0, []), (.nop, .int 10, 0, []), (.if_icmp .ge 0, .null, 47, []), (.iload 3, .null, 0, []), (.aload 0, .null, 0, []), (.iload 1, .null, 0, []), (.iload 4, .null, 0, []), (.invokevirtual 0, .retAddr 0, 3, [(12, 29)]), (.iload 2, .null, 0, []), (.if_icmp .ne 0, .null, 38, []), (.aload 0, .null, 0, []), (.iload 1, .null, 0, []), (.iload 4, .null, 0, []), (.invokevirtual 0, .retAddr 0, 3, [(12, 28)]), (.ifCond .eq 0, .null, 38, []), (.nop, .int 1, 0, []), (.goto 0, .null, 39, [])]),
  (38, 39, [(.nop, .int 0, 0, [])]),
  (39, 47, [(.iadd, .null, 0, []), (.istore 3, .null, 0, []), (.iinc 4 0, .int 1, 0, []), (.goto 0, .null, 5, [])]),
  (47, 49, [(.iload 3, .null, 0, []), (.ireturn, .null, 0, [])])])
/-- 51: OverFenceModel.who(I)I -/
def mc_51 : am_M := (4, 0, [(0, 9, [(.iload 1, .null, 0, []), (.invokestatic 0, .retAddr 0, 1, [(0, 3)]), (.ifCond .ne 0, .null, 9, []), (.nop, .int (-1), 0, []), (.ireturn, .null, 0, [])]),
  (9, 13, [(.nop, .int 0, 0, []), (.istore 2, .null, 0, []), (.nop, .int 0, 0, []), (.istore 3, .null, 0, [])]),
  (13, 40, [(.iload 3, .null, 0, []), (.aload 0, .null, 0, []), (.getfield 0, .null, 1, [(12, 0)]), (.nop, .int 10, 0, []), (.iaload, .null, 0, []), (.if_icmp .ge 0, .null, 49, []), (.iload 2, .null, 0, []), (.aload 0, .null, 0, []), (.iload 3, .null, 0, []), (.iload 1, .null, 0, []), (.invokevirtual 0, .retAddr 0, 3, [(12, 50)]), (.ifCond .le 0, .null, 40, []), (.nop, .int 1, 0, []), (.iload 3, .null, 0, []), (.ishl, .null, 0, []), (.goto 0, .null, 41, [])]),
  (40, 41, [(.nop, .int 0, 0, [])]),
  (41, 49, [(.ior, .null, 0, []), (.istore 2, .null, 0, []), (.iinc 3 0, .int 1, 0, []), (.goto 0, .null, 13, [])]),
  (49, 51, [(.iload 2, .null, 0, []), (.ireturn, .null, 0, [])])])
/-- 52: OverFenceModel.cover(I)I -/
def mc_52 : am_M := (7, 0, [(0, 11, [(.iload 1, .null, 0, []), (.nop, .int 0, 0, []), (.nop, .int 1, 0, []), (.invokestatic 0, .retAddr 0, 3, [(0, 1)]), (.ifCond .ne 0, .null, 11, []), (.nop, .int (-1), 0, []), (.ireturn, .null, 0, [])]),
  (11, 20, [(.nop, .int (-5), 0, []), (.istore 2, .null, 0, []), (.nop, .int (-5), 0, []), (.istore 3, .null, 0, []), (.nop, .int 0, 0, []), (.istore 4, .null, 0, [])]),
  (20, 33, [(.iload 4, .null, 0, []), (.nop, .int 10, 0, []), (.if_icmp .ge 0, .null, 96, []), (.nop, .int 0, 0, []), (.istore 5, .null, 0, []), (.nop, .int 0, 0, []), (.istore 6, .null, 0, [])]),
  (33, 64, [(.iload 6, .null, 0, []), (.aload 0, .null, 0, []), (.getfield 0, .null, 1, [(12, 0)]), (.nop, .int 10, 0, []), (.iaload, .null, 0, []), (.if_icmp .ge 0, .null, 64, []), (.iload 5, .null, 0, []), (.aload 0, .null, 0, []), (.iload 6, .null, 0, []), (.iload 4, .null, 0, []), (.invokevirtual 0, .retAddr 0, 3, [(12, 50)]), (.iadd, .null, 0, []), (.istore 5, .null, 0, []), (.iinc 6 0, .int 1, 0, []), (.goto 0, .null, 33, [])]),
  (64, 90, [(.aload 0, .null, 0, []), (.getfield 0, .null, 1, [(12, 0)]), (.nop, .int 16, 0, []), (.iload 4, .null, 0, []), (.iadd, .null, 0, []), (.iaload, .null, 0, []), (.nop, .int 2, 0, []), (.if_icmp .ne 0, .null, 90, []), (.iload 5, .null, 0, []), (.iload 3, .null, 0, []), (.if_icmp .le 0, .null, 90, []), (.iload 4, .null, 0, []), (.istore 2, .null, 0, []), (.iload 5, .null, 0, []), (.istore 3, .null, 0, [])]),
  (90, 96, [(.iinc 4 0, .int 1, 0, []), (.goto 0, .null, 20, [])]),
  (96, 104, [(.iload 1, .null, 0, []), (.ifCond .ne 0, .null, 104, []), (.iload 2, .null, 0, []), (.goto 0, .null, 105, [])]),
  (104, 105, [(.iload 3, .null, 0, [])]),
  (105, 106, [(.ireturn, .null, 0, [])])])
/-- 53: OverFenceModel.tale(III)I -/
def mc_53 : am_M := (4, 0, [(0, 15, [(.iload 1, .null, 0, []), (.nop, .int (-1), 0, []), (.if_icmp .ne 0, .null, 15, []), (.aload 0, .null, 0, []), (.getfield 0, .null, 1, [(12, 0)]), (.nop, .int 12, 0, []), (.nop, .int 0, 0, []), (.iastore, .null, 0, []), (.nop, .int 0, 0, []), (.ireturn, .null, 0, [])]),
  (15, 25, [(.aload 0, .null, 0, []), (.iload 1, .null, 0, []), (.invokevirtual 0, .retAddr 0, 2, [(12, 2)]), (.ifCond .ne 0, .null, 25, []), (.nop, .int (-1), 0, []), (.ireturn, .null, 0, [])]),
  (25, 41, [(.iload 2, .null, 0, []), (.invokestatic 0, .retAddr 0, 1, [(0, 3)]), (.ifCond .eq 0, .null, 41, []), (.iload 3, .null, 0, []), (.nop, .int 0, 0, []), (.nop, .int 4, 0, []), (.invokestatic 0, .retAddr 0, 3, [(0, 1)]), (.ifCond .ne 0, .null, 44, [])]),
  (41, 44, [(.nop, .int (-2), 0, []), (.ireturn, .null, 0, [])]),
  (44, 59, [(.aload 0, .null, 0, []), (.getfield 0, .null, 1, [(12, 0)]), (.nop, .int 12, 0, []), (.iaload, .null, 0, []), (.nop, .int 12, 0, []), (.if_icmp .ne 0, .null, 59, []), (.nop, .int (-4), 0, []), (.ireturn, .null, 0, [])]),
  (59, 126, [(.aload 0, .null, 0, []), (.getfield 0, .null, 1, [(12, 0)]), (.nop, .int 41, 0, []), (.aload 0, .null, 0, []), (.getfield 0, .null, 1, [(12, 0)]), (.nop, .int 12, 0, []), (.iaload, .null, 0, []), (.iadd, .null, 0, []), (.iload 1, .null, 0, []), (.iastore, .null, 0, []), (.aload 0, .null, 0, []), (.getfield 0, .null, 1, [(12, 0)]), (.nop, .int 53, 0, []), (.aload 0, .null, 0, []), (.getfield 0, .null, 1, [(12, 0)]), (.nop, .int 12, 0, []), (.iaload, .null, 0, []), (.iadd, .null, 0, []), (.iload 2, .null, 0, []), (.iastore, .null, 0, []), (.aload 0, .null, 0, []), (.getfield 0, .null, 1, [(12, 0)]), (.nop, .int 65, 0, []), (.aload 0, .null, 0, []), (.getfield 0, .null, 1, [(12, 0)]), (.nop, .int 12, 0, []), (.iaload, .null, 0, []), (.iadd, .null, 0, []), (.iload 3, .null, 0, []), (.iastore, .null, 0, []), (.aload 0, .null, 0, []), (.getfield 0, .null, 1, [(12, 0)]), (.nop, .int 12, 0, []), (.dup2, .null, 0, []), (.iaload, .null, 0, []), (.nop, .int 1, 0, []), (.iadd, .null, 0, []), (.iastore, .null, 0, []), (.aload 0, .null, 0, []), (.getfield 0, .null, 1, [(12, 0)]), (.nop, .int 12, 0, []), (.iaload, .null, 0, []), (.ireturn, .null, 0, [])])])
/-- 54: OverFenceModel.looked()I -/
def mc_54 : am_M := (3, 0, [(0, 2, [(.nop, .int 0, 0, []), (.istore 1, .null, 0, [])]),
  (2, 26, [(.iload 1, .null, 0, []), (.nop, .int 41, 0, []), (.if_icmp .ge 0, .null, 26, []), (.aload 0, .null, 0, []), (.getfield 0, .null, 3, [(12, 0)]), (.iload 1, .null, 0, []), (.aload 0, .null, 0, []), (.getfield 0, .null, 1, [(12, 0)]), (.iload 1, .null, 0, []), (.iaload, .null, 0, []), (.iastore, .null, 0, []), (.iinc 1 0, .int 1, 0, []), (.goto 0, .null, 2, [])]),
  (26, 31, [(.nop, .int (-5), 0, []), (.istore 1, .null, 0, []), (.nop, .int 0, 0, []), (.istore 2, .null, 0, [])]),
  (31, 91, [(.iload 2, .null, 0, []), (.aload 0, .null, 0, []), (.getfield 0, .null, 1, [(12, 0)]), (.nop, .int 12, 0, []), (.iaload, .null, 0, []), (.if_icmp .ge 0, .null, 103, []), (.iload 1, .null, 0, []), (.nop, .int (-5), 0, []), (.if_icmp .ne 0, .null, 103, []), (.aload 0, .null, 0, []), (.getfield 0, .null, 1, [(12, 0)]), (.nop, .int 3, 0, []), (.iaload, .null, 0, []), (.ifCond .eq 0, .null, 91, []), (.aload 0, .null, 0, []), (.aload 0, .null, 0, []), (.getfield 0, .null, 1, [(12, 0)]), (.nop, .int 41, 0, []), (.iload 2, .null, 0, []), (.iadd, .null, 0, []), (.iaload, .null, 0, []), (.aload 0, .null, 0, []), (.getfield 0, .null, 1, [(12, 0)]), (.nop, .int 53, 0, []), (.iload 2, .null, 0, []), (.iadd, .null, 0, []), (.iaload, .null, 0, []), (.invokevirtual 0, .retAddr 0, 3, [(12, 33)]), (.aload 0, .null, 0, []), (.getfield 0, .null, 1, [(12, 0)]), (.nop, .int 65, 0, []), (.iload 2, .null, 0, []), (.iadd, .null, 0, []), (.iaload, .null, 0, []), (.if_icmp .eq 0, .null, 95, [])]),
  (91, 95, [(.iload 2, .null, 0, []), (.goto 0, .null, 96, [])]),
  (95, 96, [(.iload 1, .null, 0, [])]),
  (96, 103, [(.istore 1, .null, 0, []), (.iinc 2 0, .int 1, 0, []), (.goto 0, .null, 31, [])]),
  (103, 105, [(.nop, .int 0, 0, []), (.istore 2, .null, 0, [])]),
  (105, 129, [(.iload 2, .null, 0, []), (.nop, .int 41, 0, []), (.if_icmp .ge 0, .null, 129, []), (.aload 0, .null, 0, []), (.getfield 0, .null, 1, [(12, 0)]), (.iload 2, .null, 0, []), (.aload 0, .null, 0, []), (.getfield 0, .null, 3, [(12, 0)]), (.iload 2, .null, 0, []), (.iaload, .null, 0, []), (.iastore, .null, 0, []), (.iinc 2 0, .int 1, 0, []), (.goto 0, .null, 105, [])]),
  (129, 131, [(.iload 1, .null, 0, []), (.ireturn, .null, 0, [])])])
/-- 55: OverFenceModel.ranBody(I)V -/
def mc_55 : am_M := (2, 0, [(0, 19, [(.aload 0, .null, 0, []), (.getfield 0, .null, 16, [(12, 0)]), (.nop, .int 20, 0, []), (.if_icmp .ge 0, .null, 19, []), (.aload 0, .null, 0, []), (.getfield 0, .null, 15, [(12, 0)]), (.aload 0, .null, 0, []), (.getfield 0, .null, 16, [(12, 0)]), (.iload 1, .null, 0, []), (.iastore, .null, 0, [])]),
  (19, 30, [(.aload 0, .null, 0, []), (.dup, .null, 0, []), (.getfield 0, .null, 16, [(12, 0)]), (.nop, .int 1, 0, []), (.iadd, .null, 0, []), (.putfield 0, .null, 16, [(12, 0)]), (.return_, .null, 0, [])])])
/-- 56: OverFenceModel.isUnder(II)Z -/
def mc_56 : am_M := (2, 0, [(0, 25, [(.iload 1, .null, 0, []), (.ifCond .eq 0, .null, 25, []), (.iload 1, .null, 0, []), (.iload 0, .null, 0, []), (.if_icmp .eq 0, .null, 25, []), (.iload 1, .null, 0, []), (.ifCond .le 0, .null, 29, []), (.iload 1, .null, 0, []), (.nop, .int 4, 0, []), (.if_icmp .ge 0, .null, 29, []), (.iload 0, .null, 0, []), (.iload 1, .null, 0, []), (.nop, .int 3, 0, []), (.iadd, .null, 0, []), (.if_icmp .ne 0, .null, 29, [])]),
  (25, 29, [(.nop, .int 1, 0, []), (.goto 0, .null, 30, [])]),
  (29, 30, [(.nop, .int 0, 0, [])]),
  (30, 31, [(.freturn, .null, 0, [])])])
/-- 57: OverFenceModel.plainKicks(I)I -/
def mc_57 : am_M := (2, 0, [(0, 12, [(.aload 0, .null, 0, []), (.nop, .int 1, 0, []), (.invokevirtual 0, .retAddr 0, 2, [(12, 55)]), (.iload 1, .null, 0, []), (.aload 0, .null, 0, []), (.getfield 0, .null, 18, [(12, 0)]), (.iadd, .null, 0, []), (.ireturn, .null, 0, [])])])
/-- 58: OverFenceModel.kicksActs(I)I -/
def mc_58 : am_M := (2, 0, [(0, 25, [(.aload 0, .null, 0, []), (.getfield 0, .null, 17, [(12, 0)]), (.nop, .int 1, 0, []), (.invokestatic 0, .retAddr 0, 2, [(0, 56)]), (.ifCond .eq 0, .null, 25, []), (.aload 0, .null, 0, []), (.nop, .int 11, 0, []), (.invokevirtual 0, .retAddr 0, 2, [(12, 55)]), (.aload 0, .null, 0, []), (.iload 1, .null, 0, []), (.nop, .int 3, 0, []), (.imul, .null, 0, []), (.invokevirtual 0, .retAddr 0, 2, [(12, 57)]), (.ireturn, .null, 0, [])]),
  (25, 50, [(.aload 0, .null, 0, []), (.getfield 0, .null, 17, [(12, 0)]), (.nop, .int 5, 0, []), (.if_icmp .ne 0, .null, 50, []), (.aload 0, .null, 0, []), (.nop, .int 51, 0, []), (.invokevirtual 0, .retAddr 0, 2, [(12, 55)]), (.aload 0, .null, 0, []), (.iload 1, .null, 0, []), (.invokevirtual 0, .retAddr 0, 2, [(12, 57)]), (.aload 0, .null, 0, []), (.getfield 0, .null, 18, [(12, 0)]), (.ixor, .null, 0, []), (.ireturn, .null, 0, [])]),
  (50, 56, [(.aload 0, .null, 0, []), (.iload 1, .null, 0, []), (.invokevirtual 0, .retAddr 0, 2, [(12, 57)]), (.ireturn, .null, 0, [])])])
/-- 59: OverFenceModel.plainFetches(I)I -/
def mc_59 : am_M := (2, 0, [(0, 16, [(.aload 0, .null, 0, []), (.nop, .int 2, 0, []), (.invokevirtual 0, .retAddr 0, 2, [(12, 55)]), (.aload 0, .null, 0, []), (.iload 1, .null, 0, []), (.invokevirtual 0, .retAddr 0, 2, [(12, 58)]), (.aload 0, .null, 0, []), (.getfield 0, .null, 19, [(12, 0)]), (.isub, .null, 0, []), (.ireturn, .null, 0, [])])])
/-- 60: OverFenceModel.fetchesActs(I)I -/
def mc_60 : am_M := (2, 0, [(0, 24, [(.aload 0, .null, 0, []), (.getfield 0, .null, 17, [(12, 0)]), (.nop, .int 2, 0, []), (.invokestatic 0, .retAddr 0, 2, [(0, 56)]), (.ifCond .eq 0, .null, 24, []), (.aload 0, .null, 0, []), (.nop, .int 21, 0, []), (.invokevirtual 0, .retAddr 0, 2, [(12, 55)]), (.aload 0, .null, 0, []), (.iload 1, .null, 0, []), (.invokevirtual 0, .retAddr 0, 2, [(12, 59)]), (.ineg, .null, 0, []), (.ireturn, .null, 0, [])]),
  (24, 50, [(.aload 0, .null, 0, []), (.getfield 0, .null, 17, [(12, 0)]), (.nop, .int 6, 0, []), (.if_icmp .ne 0, .null, 50, []), (.aload 0, .null, 0, []), (.nop, .int 61, 0, []), (.invokevirtual 0, .retAddr 0, 2, [(12, 55)]), (.aload 0, .null, 0, []), (.iload 1, .null, 0, []), (.invokevirtual 0, .retAddr 0, 2, [(12, 59)]), (.aload 0, .null, 0, []), (.getfield 0, .null, 19, [(12, 0)]), (.iadd, .null, 0, []), (.ireturn, .null, 0, [])]),
  (50, 56, [(.aload 0, .null, 0, []), (.iload 1, .null, 0, []), (.invokevirtual 0, .retAddr 0, 2, [(12, 59)]), (.ireturn, .null, 0, [])])])
/-- 61: OverFenceModel.plainPays(I)I -/
def mc_61 : am_M := (2, 0, [(0, 13, [(.aload 0, .null, 0, []), (.nop, .int 3, 0, []), (.invokevirtual 0, .retAddr 0, 2, [(12, 55)]), (.aload 0, .null, 0, []), (.iload 1, .null, 0, []), (.invokevirtual 0, .retAddr 0, 2, [(12, 60)]), (.nop, .int 2, 0, []), (.imul, .null, 0, []), (.ireturn, .null, 0, [])])])
/-- 62: OverFenceModel.paysActs(I)I -/
def mc_62 : am_M := (3, 0, [(0, 26, [(.aload 0, .null, 0, []), (.getfield 0, .null, 17, [(12, 0)]), (.nop, .int 3, 0, []), (.invokestatic 0, .retAddr 0, 2, [(0, 56)]), (.ifCond .eq 0, .null, 26, []), (.aload 0, .null, 0, []), (.nop, .int 31, 0, []), (.invokevirtual 0, .retAddr 0, 2, [(12, 55)]), (.aload 0, .null, 0, []), (.iload 1, .null, 0, []), (.invokevirtual 0, .retAddr 0, 2, [(12, 61)]), (.nop, .int 7, 0, []), (.ixor, .null, 0, []), (.ireturn, .null, 0, [])]),
  (26, 56, [(.aload 0, .null, 0, []), (.getfield 0, .null, 17, [(12, 0)]), (.nop, .int 4, 0, []), (.if_icmp .ne 0, .null, 56, []), (.aload 0, .null, 0, []), (.nop, .int 41, 0, []), (.invokevirtual 0, .retAddr 0, 2, [(12, 55)]), (.aload 0, .null, 0, []), (.iload 1, .null, 0, []), (.nop, .int 1, 0, []), (.isub, .null, 0, []), (.invokevirtual 0, .retAddr 0, 2, [(12, 61)]), (.istore 2, .null, 0, []), (.iload 2, .null, 0, []), (.aload 0, .null, 0, []), (.nop, .int 2, 0, []), (.invokevirtual 0, .retAddr 0, 2, [(12, 58)]), (.iadd, .null, 0, []), (.ireturn, .null, 0, [])]),
  (56, 62, [(.aload 0, .null, 0, []), (.iload 1, .null, 0, []), (.invokevirtual 0, .retAddr 0, 2, [(12, 61)]), (.ireturn, .null, 0, [])])])
/-- 63: OverFenceModel.act(III)I -/
def mc_63 : am_M := (4, 0, [(0, 22, [(.aload 0, .null, 0, []), (.nop, .int 0, 0, []), (.putfield 0, .null, 16, [(12, 0)]), (.aload 0, .null, 0, []), (.iload 1, .null, 0, []), (.invokevirtual 0, .retAddr 0, 2, [(12, 2)]), (.ifCond .eq 0, .null, 22, []), (.iload 2, .null, 0, []), (.nop, .int 0, 0, []), (.nop, .int 2, 0, []), (.invokestatic 0, .retAddr 0, 3, [(0, 1)]), (.ifCond .ne 0, .null, 24, [])]),
  (22, 24, [(.nop, .int 0, 0, []), (.ireturn, .null, 0, [])]),
  (24, 67, [(.aload 0, .null, 0, []), (.aload 0, .null, 0, []), (.getfield 0, .null, 1, [(12, 0)]), (.nop, .int 26, 0, []), (.iload 1, .null, 0, []), (.iadd, .null, 0, []), (.iaload, .null, 0, []), (.putfield 0, .null, 17, [(12, 0)]), (.aload 0, .null, 0, []), (.iload 1, .null, 0, []), (.putfield 0, .null, 18, [(12, 0)]), (.aload 0, .null, 0, []), (.aload 0, .null, 0, []), (.getfield 0, .null, 1, [(12, 0)]), (.nop, .int 31, 0, []), (.iload 1, .null, 0, []), (.iadd, .null, 0, []), (.iaload, .null, 0, []), (.putfield 0, .null, 19, [(12, 0)]), (.iload 2, .null, 0, []), (.ifCond .ne 0, .null, 67, []), (.aload 0, .null, 0, []), (.iload 3, .null, 0, []), (.invokevirtual 0, .retAddr 0, 2, [(12, 58)]), (.goto 0, .null, 85, [])]),
  (67, 80, [(.iload 2, .null, 0, []), (.nop, .int 1, 0, []), (.if_icmp .ne 0, .null, 80, []), (.aload 0, .null, 0, []), (.iload 3, .null, 0, []), (.invokevirtual 0, .retAddr 0, 2, [(12, 60)]), (.goto 0, .null, 85, [])]),
  (80, 85, [(.aload 0, .null, 0, []), (.iload 3, .null, 0, []), (.invokevirtual 0, .retAddr 0, 2, [(12, 62)])]),
  (85, 86, [(.ireturn, .null, 0, [])])])
/-- 64: OverFenceModel.trace(I)I -/
def mc_64 : am_M := (2, 0, [(0, 18, [(.iload 1, .null, 0, []), (.nop, .int 0, 0, []), (.aload 0, .null, 0, []), (.getfield 0, .null, 16, [(12, 0)]), (.nop, .int 20, 0, []), (.if_icmp .ge 0, .null, 18, []), (.aload 0, .null, 0, []), (.getfield 0, .null, 16, [(12, 0)]), (.goto 0, .null, 20, [])]),
  (18, 20, [(.nop, .int 20, 0, [])]),
  (20, 37, [(.nop, .int 1, 0, []), (.isub, .null, 0, []), (.invokestatic 0, .retAddr 0, 3, [(0, 1)]), (.ifCond .eq 0, .null, 37, []), (.aload 0, .null, 0, []), (.getfield 0, .null, 15, [(12, 0)]), (.iload 1, .null, 0, []), (.iaload, .null, 0, []), (.goto 0, .null, 38, [])]),
  (37, 38, [(.nop, .int (-1), 0, [])]),
  (38, 39, [(.ireturn, .null, 0, [])])])
/-- 65: OverFenceModel.as(II)I -/
def mc_65 : am_M := (3, 0, [(0, 18, [(.aload 0, .null, 0, []), (.iload 1, .null, 0, []), (.invokevirtual 0, .retAddr 0, 2, [(12, 2)]), (.ifCond .eq 0, .null, 18, []), (.iload 2, .null, 0, []), (.nop, .int 0, 0, []), (.nop, .int 6, 0, []), (.invokestatic 0, .retAddr 0, 3, [(0, 1)]), (.ifCond .ne 0, .null, 20, [])]),
  (18, 20, [(.nop, .int (-1), 0, []), (.ireturn, .null, 0, [])]),
  (20, 48, [(.aload 0, .null, 0, []), (.getfield 0, .null, 1, [(12, 0)]), (.nop, .int 26, 0, []), (.iload 1, .null, 0, []), (.iadd, .null, 0, []), (.iaload, .null, 0, []), (.iload 2, .null, 0, []), (.invokestatic 0, .retAddr 0, 2, [(0, 56)]), (.ifCond .eq 0, .null, 48, []), (.aload 0, .null, 0, []), (.getfield 0, .null, 1, [(12, 0)]), (.nop, .int 31, 0, []), (.iload 1, .null, 0, []), (.iadd, .null, 0, []), (.iaload, .null, 0, []), (.goto 0, .null, 50, [])]),
  (48, 50, [(.nop, .int (-6), 0, [])]),
  (50, 51, [(.ireturn, .null, 0, [])])])
/-- 66: OverFenceModel.image()I -/
def mc_66 : am_M := (2, 0, [(0, 2, [(.nop, .int 0, 0, []), (.istore 1, .null, 0, [])]),
  (2, 27, [(.iload 1, .null, 0, []), (.nop, .int 892, 0, []), (.if_icmp .ge 0, .null, 27, []), (.aload 0, .null, 0, []), (.getfield 0, .null, 2, [(12, 0)]), (.iload 1, .null, 0, []), (.aload 0, .null, 0, []), (.getfield 0, .null, 1, [(12, 0)]), (.iload 1, .null, 0, []), (.iaload, .null, 0, []), (.iastore, .null, 0, []), (.iinc 1 0, .int 1, 0, []), (.goto 0, .null, 2, [])]),
  (27, 40, [(.aload 0, .null, 0, []), (.nop, .int 1, 0, []), (.putfield 0, .null, 4, [(12, 1)]), (.aload 0, .null, 0, []), (.getfield 0, .null, 1, [(12, 0)]), (.nop, .int 10, 0, []), (.iaload, .null, 0, []), (.ireturn, .null, 0, [])])])
/-- 67: OverFenceModel.undo()I -/
def mc_67 : am_M := (2, 0, [(0, 10, [(.aload 0, .null, 0, []), (.getfield 0, .null, 4, [(12, 0)]), (.ifCond .ne 0, .null, 10, []), (.nop, .int (-3), 0, []), (.ireturn, .null, 0, [])]),
  (10, 12, [(.nop, .int 0, 0, []), (.istore 1, .null, 0, [])]),
  (12, 37, [(.iload 1, .null, 0, []), (.nop, .int 892, 0, []), (.if_icmp .ge 0, .null, 37, []), (.aload 0, .null, 0, []), (.getfield 0, .null, 1, [(12, 0)]), (.iload 1, .null, 0, []), (.aload 0, .null, 0, []), (.getfield 0, .null, 2, [(12, 0)]), (.iload 1, .null, 0, []), (.iaload, .null, 0, []), (.iastore, .null, 0, []), (.iinc 1 0, .int 1, 0, []), (.goto 0, .null, 12, [])]),
  (37, 45, [(.aload 0, .null, 0, []), (.getfield 0, .null, 1, [(12, 0)]), (.nop, .int 10, 0, []), (.iaload, .null, 0, []), (.ireturn, .null, 0, [])])])
/-- 68: OverFenceModel.count(I)I -/
def mc_68 : am_M := (2, 0, [(0, 36, [(.iload 1, .null, 0, []), (.lookupswitch 0 #[], .null, 73, [(0, 36), (1, 44), (2, 52), (3, 60), (4, 68)])]),
  (36, 44, [(.aload 0, .null, 0, []), (.getfield 0, .null, 1, [(12, 0)]), (.nop, .int 10, 0, []), (.iaload, .null, 0, []), (.ireturn, .null, 0, [])]),
  (44, 52, [(.aload 0, .null, 0, []), (.getfield 0, .null, 1, [(12, 0)]), (.nop, .int 11, 0, []), (.iaload, .null, 0, []), (.ireturn, .null, 0, [])]),
  (52, 60, [(.aload 0, .null, 0, []), (.getfield 0, .null, 1, [(12, 0)]), (.nop, .int 12, 0, []), (.iaload, .null, 0, []), (.ireturn, .null, 0, [])]),
  (60, 68, [(.aload 0, .null, 0, []), (.getfield 0, .null, 1, [(12, 0)]), (.nop, .int 13, 0, []), (.iaload, .null, 0, []), (.ireturn, .null, 0, [])]),
  (68, 73, [(.aload 0, .null, 0, []), (.getfield 0, .null, 16, [(12, 0)]), (.ireturn, .null, 0, [])]),
  (73, 75, [(.nop, .int (-1), 0, []), (.ireturn, .null, 0, [])])])
/-- 69: OverFence$Bent.<init>(II)V -/
def mc_69 : am_M := (3, 0, [(0, 7, [(.aload 0, .null, 0, []), (.iload 1, .null, 0, []), (.iload 2, .null, 0, []), (.invokespecial 0, .retAddr 0, 3, [(0, 93)]), (.return_, .null, 0, [])])])
/-- 70: OverFence$Bent.kind()I -/
def mc_70 : am_M := (1, 0, [(0, 2, [(.nop, .int 5, 0, []), (.ireturn, .null, 0, [])])])
/-- 71: OverFence$Bent.bend()I -/
def mc_71 : am_M := (1, 0, [(0, 2, [(.nop, .int 1, 0, []), (.ireturn, .null, 0, [])])])
/-- 72: OverFence$Bent.kicks(ILOverFence$Trace;)I -/
def mc_72 : am_M := (3, 0, [(0, 18, [(.aload 2, .null, 0, []), (.nop, .int 51, 0, []), (.invokevirtual 0, .retAddr 0, 2, [(8, 122)]), (.aload 0, .null, 0, []), (.iload 1, .null, 0, []), (.aload 2, .null, 0, []), (.invokespecial 0, .retAddr 0, 3, [(0, 90)]), (.aload 0, .null, 0, []), (.getfield 0, .null, 0, [(3, 0), (2, 0), (4, 0), (7, 0), (9, 0), (0, 0), (5, 0)]), (.ixor, .null, 0, []), (.ireturn, .null, 0, [])])])
/-- 73: OverFence$Chances.<init>()V -/
def mc_73 : am_M := (1, 2, [(0, 22, [(.aload 0, .null, 0, []), (.pop2, .null, 0, []), (.aload 0, .null, 0, []), (.nop, .int 455, 0, []), (.newarray .int, .null, 3, []), (.putfield 0, .null, 0, [(1, 3)]), (.aload 0, .null, 0, []), (.nop, .int 50, 0, []), (.newarray .int, .null, 0, []), (.putfield 0, .null, 1, [(1, 3)]), (.return_, .null, 0, [])])])
/-- 74: OverFence$Chances.cellOf(III)I -/
def mc_74 : am_M := (4, 0, [(0, 27, [(.iload 0, .null, 0, []), (.iload 1, .null, 0, []), (.iadd, .null, 0, []), (.istore 3, .null, 0, []), (.iload 2, .null, 0, []), (.iload 2, .null, 0, []), (.nop, .int 1, 0, []), (.iadd, .null, 0, []), (.imul, .null, 0, []), (.iload 2, .null, 0, []), (.nop, .int 2, 0, []), (.iadd, .null, 0, []), (.imul, .null, 0, []), (.nop, .int 6, 0, []), (.idiv, .null, 0, []), (.iload 3, .null, 0, []), (.iload 3, .null, 0, []), (.nop, .int 1, 0, []), (.iadd, .null, 0, []), (.imul, .null, 0, []), (.nop, .int 2, 0, []), (.idiv, .null, 0, []), (.iadd, .null, 0, []), (.iload 1, .null, 0, []), (.iadd, .null, 0, []), (.ireturn, .null, 0, [])])])
/-- 75: OverFence$Chances.run(LOverFence$Scene;II)V -/
def mc_75 : am_M := (6, 0, [(0, 33, [(.aload 0, .null, 0, []), (.getfield 0, .null, 0, [(1, 0)]), (.nop, .long 0, 0, []), (.invokestatic 0, .retAddr 0, 2, [(0, 195)]), (.aload 0, .null, 0, []), (.getfield 0, .null, 0, [(1, 0)]), (.nop, .int 0, 0, []), (.nop, .long 1, 0, []), (.lastore, .null, 0, []), (.aload 0, .null, 0, []), (.nop, .long 1, 0, []), (.putfield 0, .null, 2, [(1, 2)]), (.aload 0, .null, 0, []), (.nop, .int 0, 0, []), (.putfield 0, .null, 3, [(1, 0)]), (.aload 1, .null, 0, []), (.getfield 0, .null, 4, [(6, 0)]), (.ifCond .gt 0, .null, 33, []), (.return_, .null, 0, [])]),
  (33, 41, [(.aload 0, .null, 0, []), (.aload 1, .null, 0, []), (.invokevirtual 0, .retAddr 0, 2, [(1, 76)]), (.nop, .int 0, 0, []), (.istore 4, .null, 0, [])]),
  (41, 73, [(.iload 4, .null, 0, []), (.iload 2, .null, 0, []), (.if_icmp .ge 0, .null, 109, []), (.iload 4, .null, 0, []), (.nop, .int 12, 0, []), (.if_icmp .ge 0, .null, 109, []), (.aload 1, .null, 0, []), (.iload 4, .null, 0, []), (.aload 1, .null, 0, []), (.getfield 0, .null, 4, [(6, 0)]), (.irem, .null, 0, []), (.invokevirtual 0, .retAddr 0, 2, [(6, 103)]), (.astore 5, .null, 0, []), (.aload 5, .null, 0, []), (.ifnonnull 0, .null, 73, []), (.return_, .null, 0, [])]),
  (73, 109, [(.aload 0, .null, 0, []), (.aload 1, .null, 0, []), (.aload 5, .null, 0, []), (.iload 3, .null, 0, []), (.invokevirtual 0, .retAddr 0, 4, [(1, 77)]), (.aload 0, .null, 0, []), (.dup, .null, 0, []), (.getfield 0, .null, 2, [(1, 0)]), (.nop, .long 10, 0, []), (.lmul, .null, 0, []), (.putfield 0, .null, 2, [(1, 2)]), (.aload 0, .null, 0, []), (.dup, .null, 0, []), (.getfield 0, .null, 3, [(1, 0)]), (.nop, .int 1, 0, []), (.iadd, .null, 0, []), (.putfield 0, .null, 3, [(1, 0)]), (.iinc 4 0, .int 1, 0, []), (.goto 0, .null, 41, [])]),
  (109, 110, [(.return_, .null, 0, [])])])
/-- 76: OverFence$Chances.findLifts(LOverFence$Scene;)V -/
def mc_76 : am_M := (6, 0, [(0, 7, [(.aload 1, .null, 0, []), (.getfield 0, .null, 0, [(6, 0)]), (.astore 2, .null, 0, []), (.nop, .int 0, 0, []), (.istore 3, .null, 0, [])]),
  (7, 25, [(.iload 3, .null, 0, []), (.aload 1, .null, 0, []), (.getfield 0, .null, 4, [(6, 0)]), (.if_icmp .ge 0, .null, 81, []), (.aload 1, .null, 0, []), (.iload 3, .null, 0, []), (.invokevirtual 0, .retAddr 0, 2, [(6, 103)]), (.astore 4, .null, 0, []), (.nop, .int 0, 0, []), (.istore 5, .null, 0, [])]),
  (25, 75, [(.aload 4, .null, 0, []), (.ifnull 0, .null, 75, []), (.iload 5, .null, 0, []), (.nop, .int 10, 0, []), (.if_icmp .ge 0, .null, 75, []), (.aload 0, .null, 0, []), (.getfield 0, .null, 1, [(1, 0)]), (.iload 3, .null, 0, []), (.nop, .int 10, 0, []), (.imul, .null, 0, []), (.iload 5, .null, 0, []), (.iadd, .null, 0, []), (.aload 1, .null, 0, []), (.getfield 0, .null, 7, [(6, 0)]), (.aload 4, .null, 0, []), (.iload 5, .null, 0, []), (.aload 2, .null, 0, []), (.nop, .int 0, 0, []), (.iaload, .null, 0, []), (.aload 2, .null, 0, []), (.nop, .int 1, 0, []), (.iaload, .null, 0, []), (.aload 2, .null, 0, []), (.nop, .int 4, 0, []), (.iaload, .null, 0, []), (.invokevirtual 0, .retAddr 0, 6, [(10, 129)]), (.iastore, .null, 0, []), (.iinc 5 0, .int 1, 0, []), (.goto 0, .null, 25, [])]),
  (75, 81, [(.iinc 3 0, .int 1, 0, []), (.goto 0, .null, 7, [])]),
  (81, 82, [(.return_, .null, 0, [])])])
/-- 77: OverFence$Chances.spread(LOverFence$Scene;LOverFence$Kick;I)V -/
def mc_77 : am_M := (9, 0, [(0, 6, [(.aload 0, .null, 0, []), (.getfield 0, .null, 3, [(1, 0)]), (.istore 4, .null, 0, [])]),
  (6, 25, [(.iload 4, .null, 0, []), (.ifCond .lt 0, .null, 117, []), (.aload 0, .null, 0, []), (.aload 1, .null, 0, []), (.aload 2, .null, 0, []), (.iload 4, .null, 0, []), (.invokevirtual 0, .retAddr 0, 4, [(1, 78)]), (.aload 0, .null, 0, []), (.getfield 0, .null, 3, [(1, 0)]), (.istore 5, .null, 0, [])]),
  (25, 54, [(.iload 5, .null, 0, []), (.iload 4, .null, 0, []), (.if_icmp .lt 0, .null, 111, []), (.aload 1, .null, 0, []), (.aload 1, .null, 0, []), (.getfield 0, .null, 0, [(6, 0)]), (.nop, .int 8, 0, []), (.iaload, .null, 0, []), (.iload 5, .null, 0, []), (.iadd, .null, 0, []), (.nop, .int 1, 0, []), (.iadd, .null, 0, []), (.iload 3, .null, 0, []), (.invokevirtual 0, .retAddr 0, 3, [(6, 110)]), (.istore 6, .null, 0, []), (.nop, .int 0, 0, []), (.istore 7, .null, 0, [])]),
  (54, 82, [(.iload 7, .null, 0, []), (.iload 5, .null, 0, []), (.iload 4, .null, 0, []), (.isub, .null, 0, []), (.if_icmp .gt 0, .null, 105, []), (.aload 1, .null, 0, []), (.getfield 0, .null, 0, [(6, 0)]), (.nop, .int 3, 0, []), (.iaload, .null, 0, []), (.iload 4, .null, 0, []), (.iload 7, .null, 0, []), (.iadd, .null, 0, []), (.if_icmp .le 0, .null, 82, []), (.nop, .int 1, 0, []), (.goto 0, .null, 83, [])]),
  (82, 83, [(.nop, .int 0, 0, [])]),
  (83, 105, [(.istore 8, .null, 0, []), (.aload 0, .null, 0, []), (.iload 4, .null, 0, []), (.iload 7, .null, 0, []), (.iload 5, .null, 0, []), (.iload 8, .null, 0, []), (.iload 6, .null, 0, []), (.invokevirtual 0, .retAddr 0, 6, [(1, 79)]), (.iinc 7 0, .int 1, 0, []), (.goto 0, .null, 54, [])]),
  (105, 111, [(.iinc 5 0, .int (-1), 0, []), (.goto 0, .null, 25, [])]),
  (111, 117, [(.iinc 4 0, .int (-1), 0, []), (.goto 0, .null, 6, [])]),
  (117, 118, [(.return_, .null, 0, [])])])
/-- 78: OverFence$Chances.sortAims(LOverFence$Scene;LOverFence$Kick;I)V -/
def mc_78 : am_M := (8, 0, [(0, 39, [(.aload 0, .null, 0, []), (.nop, .int 0, 0, []), (.putfield 0, .null, 4, [(1, 0)]), (.aload 0, .null, 0, []), (.nop, .int 0, 0, []), (.putfield 0, .null, 5, [(1, 0)]), (.aload 0, .null, 0, []), (.nop, .int 0, 0, []), (.putfield 0, .null, 6, [(1, 0)]), (.aload 0, .null, 0, []), (.nop, .int 0, 0, []), (.putfield 0, .null, 7, [(1, 0)]), (.aload 1, .null, 0, []), (.getfield 0, .null, 7, [(6, 0)]), (.getfield 0, .null, 3, [(10, 0)]), (.aload 1, .null, 0, []), (.getfield 0, .null, 0, [(6, 0)]), (.nop, .int 1, 0, []), (.iaload, .null, 0, []), (.iadd, .null, 0, []), (.istore 4, .null, 0, []), (.nop, .int 0, 0, []), (.istore 5, .null, 0, [])]),
  (39, 112, [(.iload 5, .null, 0, []), (.nop, .int 10, 0, []), (.if_icmp .ge 0, .null, 166, []), (.aload 2, .null, 0, []), (.iload 5, .null, 0, []), (.aload 1, .null, 0, []), (.getfield 0, .null, 0, [(6, 0)]), (.nop, .int 5, 0, []), (.iaload, .null, 0, []), (.iload 3, .null, 0, []), (.iadd, .null, 0, []), (.invokevirtual 0, .retAddr 0, 3, [(3, 88), (2, 84), (4, 95), (7, 119), (9, 125), (0, 95), (5, 99)]), (.aload 0, .null, 0, []), (.getfield 0, .null, 1, [(1, 0)]), (.aload 2, .null, 0, []), (.getfield 0, .null, 0, [(3, 0), (2, 0), (4, 0), (7, 0), (9, 0), (0, 0), (5, 0)]), (.nop, .int 10, 0, []), (.imul, .null, 0, []), (.iload 5, .null, 0, []), (.iadd, .null, 0, []), (.iaload, .null, 0, []), (.iadd, .null, 0, []), (.istore 6, .null, 0, []), (.aload 1, .null, 0, []), (.getfield 0, .null, 1, [(6, 0)]), (.aload 1, .null, 0, []), (.aload 2, .null, 0, []), (.iload 5, .null, 0, []), (.invokevirtual 0, .retAddr 0, 3, [(6, 108)]), (.iaload, .null, 0, []), (.istore 7, .null, 0, []), (.iload 6, .null, 0, []), (.iload 4, .null, 0, []), (.if_icmp .gt 0, .null, 112, []), (.aload 0, .null, 0, []), (.dup, .null, 0, []), (.getfield 0, .null, 4, [(1, 0)]), (.nop, .int 1, 0, []), (.iadd, .null, 0, []), (.putfield 0, .null, 4, [(1, 0)]), (.goto 0, .null, 160, [])]),
  (112, 131, [(.iload 7, .null, 0, []), (.nop, .int 2, 0, []), (.if_icmp .ne 0, .null, 131, []), (.aload 0, .null, 0, []), (.dup, .null, 0, []), (.getfield 0, .null, 6, [(1, 0)]), (.nop, .int 1, 0, []), (.iadd, .null, 0, []), (.putfield 0, .null, 6, [(1, 0)]), (.goto 0, .null, 160, [])]),
  (131, 150, [(.iload 7, .null, 0, []), (.nop, .int 3, 0, []), (.if_icmp .ne 0, .null, 150, []), (.aload 0, .null, 0, []), (.dup, .null, 0, []), (.getfield 0, .null, 7, [(1, 0)]), (.nop, .int 1, 0, []), (.iadd, .null, 0, []), (.putfield 0, .null, 7, [(1, 0)]), (.goto 0, .null, 160, [])]),
  (150, 160, [(.aload 0, .null, 0, []), (.dup, .null, 0, []), (.getfield 0, .null, 5, [(1, 0)]), (.nop, .int 1, 0, []), (.iadd, .null, 0, []), (.putfield 0, .null, 5, [(1, 0)])]),
  (160, 166, [(.iinc 5 0, .int 1, 0, []), (.goto 0, .null, 39, [])]),
  (166, 167, [(.return_, .null, 0, [])])])
/-- 79: OverFence$Chances.move(IIIZZ)V -/
def mc_79 : am_M := (10, 0, [(0, 25, [(.iload 1, .null, 0, []), (.iload 2, .null, 0, []), (.iload 3, .null, 0, []), (.invokestatic 0, .retAddr 0, 3, [(0, 74)]), (.istore 6, .null, 0, []), (.aload 0, .null, 0, []), (.getfield 0, .null, 0, [(1, 0)]), (.iload 6, .null, 0, []), (.laload, .null, 0, []), (.lstore 7, .null, 0, []), (.lload 7, .null, 0, []), (.nop, .long 0, 0, []), (.lcmp, .null, 0, []), (.ifCond .ne 0, .null, 25, []), (.return_, .null, 0, [])]),
  (25, 44, [(.iload 4, .null, 0, []), (.ifCond .ne 0, .null, 44, []), (.aload 0, .null, 0, []), (.getfield 0, .null, 0, [(1, 0)]), (.iload 6, .null, 0, []), (.lload 7, .null, 0, []), (.nop, .long 10, 0, []), (.lmul, .null, 0, []), (.lastore, .null, 0, []), (.return_, .null, 0, [])]),
  (44, 127, [(.aload 0, .null, 0, []), (.getfield 0, .null, 0, [(1, 0)]), (.iload 6, .null, 0, []), (.lload 7, .null, 0, []), (.aload 0, .null, 0, []), (.getfield 0, .null, 4, [(1, 0)]), (.i2l, .null, 0, []), (.lmul, .null, 0, []), (.lastore, .null, 0, []), (.aload 0, .null, 0, []), (.getfield 0, .null, 0, [(1, 0)]), (.iload 1, .null, 0, []), (.iload 2, .null, 0, []), (.nop, .int 1, 0, []), (.iadd, .null, 0, []), (.iload 3, .null, 0, []), (.nop, .int 1, 0, []), (.iadd, .null, 0, []), (.invokestatic 0, .retAddr 0, 3, [(0, 74)]), (.dup2, .null, 0, []), (.laload, .null, 0, []), (.lload 7, .null, 0, []), (.aload 0, .null, 0, []), (.getfield 0, .null, 7, [(1, 0)]), (.i2l, .null, 0, []), (.lmul, .null, 0, []), (.ladd, .null, 0, []), (.lastore, .null, 0, []), (.aload 0, .null, 0, []), (.getfield 0, .null, 0, [(1, 0)]), (.iload 1, .null, 0, []), (.nop, .int 1, 0, []), (.iadd, .null, 0, []), (.iload 2, .null, 0, []), (.iload 3, .null, 0, []), (.nop, .int 1, 0, []), (.iadd, .null, 0, []), (.invokestatic 0, .retAddr 0, 3, [(0, 74)]), (.dup2, .null, 0, []), (.laload, .null, 0, []), (.lload 7, .null, 0, []), (.aload 0, .null, 0, []), (.getfield 0, .null, 6, [(1, 0)]), (.i2l, .null, 0, []), (.lmul, .null, 0, []), (.ladd, .null, 0, []), (.lastore, .null, 0, []), (.iload 5, .null, 0, []), (.ifCond .eq 0, .null, 127, []), (.iload 1, .null, 0, []), (.iload 2, .null, 0, []), (.iload 3, .null, 0, []), (.nop, .int 1, 0, []), (.iadd, .null, 0, []), (.invokestatic 0, .retAddr 0, 3, [(0, 74)]), (.goto 0, .null, 137, [])]),
  (127, 137, [(.iload 1, .null, 0, []), (.nop, .int 1, 0, []), (.iadd, .null, 0, []), (.iload 2, .null, 0, []), (.iload 3, .null, 0, []), (.nop, .int 1, 0, []), (.iadd, .null, 0, []), (.invokestatic 0, .retAddr 0, 3, [(0, 74)])]),
  (137, 158, [(.istore 9, .null, 0, []), (.aload 0, .null, 0, []), (.getfield 0, .null, 0, [(1, 0)]), (.iload 9, .null, 0, []), (.dup2, .null, 0, []), (.laload, .null, 0, []), (.lload 7, .null, 0, []), (.aload 0, .null, 0, []), (.getfield 0, .null, 5, [(1, 0)]), (.i2l, .null, 0, []), (.lmul, .null, 0, []), (.ladd, .null, 0, []), (.lastore, .null, 0, []), (.return_, .null, 0, [])])])
/-- 80: OverFence$Chances.sumOf(LOverFence$Scene;I)J -/
def mc_80 : am_M := (8, 0, [(0, 5, [(.nop, .long 0, 0, []), (.lstore 3, .null, 0, []), (.nop, .int 0, 0, []), (.istore 5, .null, 0, [])]),
  (5, 17, [(.iload 5, .null, 0, []), (.aload 0, .null, 0, []), (.getfield 0, .null, 3, [(1, 0)]), (.if_icmp .gt 0, .null, 87, []), (.nop, .int 0, 0, []), (.istore 6, .null, 0, [])]),
  (17, 27, [(.iload 6, .null, 0, []), (.iload 5, .null, 0, []), (.if_icmp .gt 0, .null, 81, []), (.nop, .int 0, 0, []), (.istore 7, .null, 0, [])]),
  (27, 75, [(.iload 7, .null, 0, []), (.iload 5, .null, 0, []), (.iload 6, .null, 0, []), (.isub, .null, 0, []), (.if_icmp .gt 0, .null, 75, []), (.lload 3, .null, 0, []), (.aload 0, .null, 0, []), (.getfield 0, .null, 0, [(1, 0)]), (.iload 6, .null, 0, []), (.iload 7, .null, 0, []), (.iload 5, .null, 0, []), (.invokestatic 0, .retAddr 0, 3, [(0, 74)]), (.laload, .null, 0, []), (.aload 1, .null, 0, []), (.getfield 0, .null, 0, [(6, 0)]), (.iload 2, .null, 0, []), (.iload 6, .null, 0, []), (.iload 7, .null, 0, []), (.iload 5, .null, 0, []), (.invokestatic 0, .retAddr 0, 5, [(0, 81)]), (.lmul, .null, 0, []), (.ladd, .null, 0, []), (.lstore 3, .null, 0, []), (.iinc 7 0, .int 1, 0, []), (.goto 0, .null, 27, [])]),
  (75, 81, [(.iinc 6 0, .int 1, 0, []), (.goto 0, .null, 17, [])]),
  (81, 87, [(.iinc 5 0, .int 1, 0, []), (.goto 0, .null, 5, [])]),
  (87, 89, [(.lload 3, .null, 0, []), (.lreturn, .null, 0, [])])])
/-- 81: OverFence$Chances.valueOf([IIIII)J -/
def mc_81 : am_M := (5, 0, [(0, 28, [(.iload 1, .null, 0, []), (.lookupswitch 0 #[], .null, 52, [(0, 28), (1, 37), (2, 44)])]),
  (28, 37, [(.aload 0, .null, 0, []), (.nop, .int 3, 0, []), (.iaload, .null, 0, []), (.iload 2, .null, 0, []), (.isub, .null, 0, []), (.iload 3, .null, 0, []), (.isub, .null, 0, []), (.i2l, .null, 0, []), (.lreturn, .null, 0, [])]),
  (37, 44, [(.aload 0, .null, 0, []), (.nop, .int 5, 0, []), (.iaload, .null, 0, []), (.iload 2, .null, 0, []), (.iadd, .null, 0, []), (.i2l, .null, 0, []), (.lreturn, .null, 0, [])]),
  (44, 52, [(.aload 0, .null, 0, []), (.nop, .int 6, 0, []), (.iaload, .null, 0, []), (.iload 3, .null, 0, []), (.iadd, .null, 0, []), (.i2l, .null, 0, []), (.lreturn, .null, 0, [])]),
  (52, 61, [(.aload 0, .null, 0, []), (.nop, .int 8, 0, []), (.iaload, .null, 0, []), (.iload 4, .null, 0, []), (.iadd, .null, 0, []), (.i2l, .null, 0, []), (.lreturn, .null, 0, [])])])
/-- 82: OverFence$Hard.<init>(II)V -/
def mc_82 : am_M := (3, 0, [(0, 7, [(.aload 0, .null, 0, []), (.iload 1, .null, 0, []), (.iload 2, .null, 0, []), (.invokespecial 0, .retAddr 0, 3, [(0, 86)]), (.return_, .null, 0, [])])])
/-- 83: OverFence$Hard.kind()I -/
def mc_83 : am_M := (1, 0, [(0, 2, [(.nop, .int 1, 0, []), (.ireturn, .null, 0, [])])])
/-- 84: OverFence$Hard.rise(II)I -/
def mc_84 : am_M := (3, 0, [(0, 9, [(.nop, .int 2, 0, []), (.iload 1, .null, 0, []), (.imul, .null, 0, []), (.aload 0, .null, 0, []), (.getfield 0, .null, 1, [(3, 0), (2, 0), (4, 0), (7, 0), (9, 0), (0, 0), (5, 0)]), (.iadd, .null, 0, []), (.ireturn, .null, 0, [])])])
/-- 85: OverFence$Hard.kicks(ILOverFence$Trace;)I -/
def mc_85 : am_M := (3, 0, [(0, 15, [(.aload 2, .null, 0, []), (.nop, .int 11, 0, []), (.invokevirtual 0, .retAddr 0, 2, [(8, 122)]), (.aload 0, .null, 0, []), (.iload 1, .null, 0, []), (.nop, .int 3, 0, []), (.imul, .null, 0, []), (.aload 2, .null, 0, []), (.invokespecial 0, .retAddr 0, 3, [(0, 90)]), (.ireturn, .null, 0, [])])])
/-- 86: OverFence$Kick.<init>(II)V -/
def mc_86 : am_M := (3, 0, [(0, 15, [(.aload 0, .null, 0, []), (.pop2, .null, 0, []), (.aload 0, .null, 0, []), (.iload 1, .null, 0, []), (.putstatic 0, .null, 0, [(3, 0), (2, 0), (4, 0), (7, 0), (9, 0), (0, 0), (5, 0)]), (.aload 0, .null, 0, []), (.iload 2, .null, 0, []), (.putstatic 0, .null, 1, [(3, 0), (2, 0), (4, 0), (7, 0), (9, 0), (0, 0), (5, 0)]), (.return_, .null, 0, [])])])
/-- 87: OverFence$Kick.kind()I -/
def mc_87 : am_M := (1, 0, [(0, 2, [(.nop, .int 0, 0, []), (.ireturn, .null, 0, [])])])
/-- 88: OverFence$Kick.rise(II)I -/
def mc_88 : am_M := (3, 0, [(0, 7, [(.iload 1, .null, 0, []), (.aload 0, .null, 0, []), (.getfield 0, .null, 1, [(3, 0), (2, 0), (4, 0), (7, 0), (9, 0), (0, 0), (5, 0)]), (.iadd, .null, 0, []), (.ireturn, .null, 0, [])])])
/-- 89: OverFence$Kick.bend()I -/
def mc_89 : am_M := (1, 0, [(0, 2, [(.nop, .int 0, 0, []), (.ireturn, .null, 0, [])])])
/-- 90: OverFence$Kick.kicks(ILOverFence$Trace;)I -/
def mc_90 : am_M := (3, 0, [(0, 12, [(.aload 2, .null, 0, []), (.nop, .int 1, 0, []), (.invokevirtual 0, .retAddr 0, 2, [(8, 122)]), (.iload 1, .null, 0, []), (.aload 0, .null, 0, []), (.getfield 0, .null, 0, [(3, 0), (2, 0), (4, 0), (7, 0), (9, 0), (0, 0), (5, 0)]), (.iadd, .null, 0, []), (.ireturn, .null, 0, [])])])
/-- 91: OverFence$Kick.fetches(ILOverFence$Trace;)I -/
def mc_91 : am_M := (3, 0, [(0, 17, [(.aload 2, .null, 0, []), (.nop, .int 2, 0, []), (.invokevirtual 0, .retAddr 0, 2, [(8, 122)]), (.aload 0, .null, 0, []), (.iload 1, .null, 0, []), (.aload 2, .null, 0, []), (.invokevirtual 0, .retAddr 0, 3, [(3, 90), (2, 85), (4, 90), (7, 90), (9, 85), (0, 72), (5, 90)]), (.aload 0, .null, 0, []), (.getfield 0, .null, 1, [(3, 0), (2, 0), (4, 0), (7, 0), (9, 0), (0, 0), (5, 0)]), (.isub, .null, 0, []), (.ireturn, .null, 0, [])])])
/-- 92: OverFence$Kick.pays(ILOverFence$Trace;)I -/
def mc_92 : am_M := (3, 0, [(0, 14, [(.aload 2, .null, 0, []), (.nop, .int 3, 0, []), (.invokevirtual 0, .retAddr 0, 2, [(8, 122)]), (.aload 0, .null, 0, []), (.iload 1, .null, 0, []), (.aload 2, .null, 0, []), (.invokevirtual 0, .retAddr 0, 3, [(3, 91), (2, 91), (4, 96), (7, 91), (9, 91), (0, 96), (5, 100)]), (.nop, .int 2, 0, []), (.imul, .null, 0, []), (.ireturn, .null, 0, [])])])
/-- 93: OverFence$Low.<init>(II)V -/
def mc_93 : am_M := (3, 0, [(0, 7, [(.aload 0, .null, 0, []), (.iload 1, .null, 0, []), (.iload 2, .null, 0, []), (.invokespecial 0, .retAddr 0, 3, [(0, 86)]), (.return_, .null, 0, [])])])
/-- 94: OverFence$Low.kind()I -/
def mc_94 : am_M := (1, 0, [(0, 2, [(.nop, .int 2, 0, []), (.ireturn, .null, 0, [])])])
/-- 95: OverFence$Low.rise(II)I -/
def mc_95 : am_M := (3, 0, [(0, 9, [(.iload 1, .null, 0, []), (.aload 0, .null, 0, []), (.getfield 0, .null, 1, [(3, 0), (2, 0), (4, 0), (7, 0), (9, 0), (0, 0), (5, 0)]), (.iadd, .null, 0, []), (.nop, .int 2, 0, []), (.idiv, .null, 0, []), (.ireturn, .null, 0, [])])])
/-- 96: OverFence$Low.fetches(ILOverFence$Trace;)I -/
def mc_96 : am_M := (3, 0, [(0, 14, [(.aload 2, .null, 0, []), (.nop, .int 21, 0, []), (.invokevirtual 0, .retAddr 0, 2, [(8, 122)]), (.aload 0, .null, 0, []), (.iload 1, .null, 0, []), (.aload 2, .null, 0, []), (.invokespecial 0, .retAddr 0, 3, [(0, 91)]), (.ineg, .null, 0, []), (.ireturn, .null, 0, [])])])
/-- 97: OverFence$Paying.<init>(II)V -/
def mc_97 : am_M := (3, 0, [(0, 7, [(.aload 0, .null, 0, []), (.iload 1, .null, 0, []), (.iload 2, .null, 0, []), (.invokespecial 0, .retAddr 0, 3, [(0, 117)]), (.return_, .null, 0, [])])])
/-- 98: OverFence$Paying.kind()I -/
def mc_98 : am_M := (1, 0, [(0, 3, [(.nop, .int 6, 0, []), (.ireturn, .null, 0, [])])])
/-- 99: OverFence$Paying.rise(II)I -/
def mc_99 : am_M := (3, 0, [(0, 11, [(.iload 1, .null, 0, []), (.aload 0, .null, 0, []), (.getfield 0, .null, 1, [(3, 0), (2, 0), (4, 0), (7, 0), (9, 0), (0, 0), (5, 0)]), (.iadd, .null, 0, []), (.nop, .int 2, 0, []), (.iload 2, .null, 0, []), (.imul, .null, 0, []), (.isub, .null, 0, []), (.ireturn, .null, 0, [])])])
/-- 100: OverFence$Paying.fetches(ILOverFence$Trace;)I -/
def mc_100 : am_M := (3, 0, [(0, 18, [(.aload 2, .null, 0, []), (.nop, .int 61, 0, []), (.invokevirtual 0, .retAddr 0, 2, [(8, 122)]), (.aload 0, .null, 0, []), (.iload 1, .null, 0, []), (.aload 2, .null, 0, []), (.invokespecial 0, .retAddr 0, 3, [(0, 91)]), (.aload 0, .null, 0, []), (.getfield 0, .null, 1, [(3, 0), (2, 0), (4, 0), (7, 0), (9, 0), (0, 0), (5, 0)]), (.iadd, .null, 0, []), (.ireturn, .null, 0, [])])])
/-- 101: OverFence$Scene.<init>()V -/
def mc_101 : am_M := (1, 11, [(0, 84, [(.aload 0, .null, 0, []), (.pop2, .null, 0, []), (.aload 0, .null, 0, []), (.nop, .retAddr 40, 0, []), (.fastore, .null, 0, []), (.checkcast 0, .null, 0, []), (.putfield 0, .null, 0, [(6, 3)]), (.aload 0, .null, 0, []), (.nop, .int 10, 0, []), (.newarray .int, .null, 0, []), (.putfield 0, .null, 1, [(6, 3)]), (.aload 0, .null, 0, []), (.nop, .int 5, 0, []), (.anewarray 0, .null, 0, []), (.putfield 0, .null, 2, [(6, 3)]), (.aload 0, .null, 0, []), (.nop, .int 5, 0, []), (.newarray .int, .null, 0, []), (.putfield 0, .null, 3, [(6, 3)]), (.aload 0, .null, 0, []), (.nop, .int 100, 0, []), (.newarray .int, .null, 1, []), (.putfield 0, .null, 5, [(6, 3)]), (.aload 0, .null, 0, []), (.new 0, .null, 10, []), (.dup, .null, 0, []), (.invokespecial 0, .retAddr 2, 1, [(0, 127)]), (.putfield 0, .null, 7, [(6, 3)]), (.aload 0, .null, 0, []), (.nop, .int 12, 0, []), (.newarray .int, .null, 0, []), (.putfield 0, .null, 9, [(6, 3)]), (.aload 0, .null, 0, []), (.nop, .int 12, 0, []), (.newarray .int, .null, 0, []), (.putfield 0, .null, 10, [(6, 3)]), (.aload 0, .null, 0, []), (.nop, .int 12, 0, []), (.newarray .int, .null, 0, []), (.putfield 0, .null, 11, [(6, 3)]), (.return_, .null, 0, [])])])
/-- 102: OverFence$Scene.takeOver(LOverFence$Scene;)V -/
def mc_102 : am_M := (3, 0, [(0, 38, [(.aload 1, .null, 0, []), (.getfield 0, .null, 0, [(6, 0)]), (.nop, .int 0, 0, []), (.aload 0, .null, 0, []), (.getfield 0, .null, 0, [(6, 0)]), (.nop, .int 0, 0, []), (.aload 0, .null, 0, []), (.getfield 0, .null, 0, [(6, 0)]), (.arraylength, .null, 0, []), (.monitorenter, .null, 0, []), (.aload 1, .null, 0, []), (.getfield 0, .null, 1, [(6, 0)]), (.nop, .int 0, 0, []), (.aload 0, .null, 0, []), (.getfield 0, .null, 1, [(6, 0)]), (.nop, .int 0, 0, []), (.aload 0, .null, 0, []), (.getfield 0, .null, 1, [(6, 0)]), (.arraylength, .null, 0, []), (.monitorenter, .null, 0, []), (.nop, .int 0, 0, []), (.istore 2, .null, 0, [])]),
  (38, 65, [(.iload 2, .null, 0, []), (.aload 0, .null, 0, []), (.getfield 0, .null, 2, [(6, 0)]), (.arraylength, .null, 0, []), (.if_icmp .ge 0, .null, 65, []), (.aload 0, .null, 0, []), (.getfield 0, .null, 2, [(6, 0)]), (.iload 2, .null, 0, []), (.aload 1, .null, 0, []), (.getfield 0, .null, 2, [(6, 0)]), (.iload 2, .null, 0, []), (.aaload, .null, 0, []), (.aastore, .null, 0, []), (.iinc 2 0, .int 1, 0, []), (.goto 0, .null, 38, [])]),
  (65, 195, [(.aload 1, .null, 0, []), (.getfield 0, .null, 3, [(6, 0)]), (.nop, .int 0, 0, []), (.aload 0, .null, 0, []), (.getfield 0, .null, 3, [(6, 0)]), (.nop, .int 0, 0, []), (.aload 0, .null, 0, []), (.getfield 0, .null, 3, [(6, 0)]), (.arraylength, .null, 0, []), (.monitorenter, .null, 0, []), (.aload 0, .null, 0, []), (.aload 1, .null, 0, []), (.getfield 0, .null, 4, [(6, 0)]), (.putfield 0, .null, 4, [(6, 0)]), (.aload 1, .null, 0, []), (.getfield 0, .null, 5, [(6, 0)]), (.nop, .int 0, 0, []), (.aload 0, .null, 0, []), (.getfield 0, .null, 5, [(6, 0)]), (.nop, .int 0, 0, []), (.aload 1, .null, 0, []), (.getfield 0, .null, 6, [(6, 0)]), (.monitorenter, .null, 1, []), (.aload 0, .null, 0, []), (.aload 1, .null, 0, []), (.getfield 0, .null, 6, [(6, 0)]), (.putfield 0, .null, 6, [(6, 0)]), (.aload 0, .null, 0, []), (.getfield 0, .null, 7, [(6, 0)]), (.aload 1, .null, 0, []), (.getfield 0, .null, 7, [(6, 0)]), (.invokevirtual 0, .retAddr 0, 2, [(10, 128)]), (.aload 0, .null, 0, []), (.aload 1, .null, 0, []), (.getfield 0, .null, 8, [(6, 0)]), (.putfield 0, .null, 8, [(6, 0)]), (.aload 1, .null, 0, []), (.getfield 0, .null, 9, [(6, 0)]), (.nop, .int 0, 0, []), (.aload 0, .null, 0, []), (.getfield 0, .null, 9, [(6, 0)]), (.nop, .int 0, 0, []), (.aload 1, .null, 0, []), (.getfield 0, .null, 12, [(6, 0)]), (.monitorenter, .null, 0, []), (.aload 1, .null, 0, []), (.getfield 0, .null, 10, [(6, 0)]), (.nop, .int 0, 0, []), (.aload 0, .null, 0, []), (.getfield 0, .null, 10, [(6, 0)]), (.nop, .int 0, 0, []), (.aload 1, .null, 0, []), (.getfield 0, .null, 12, [(6, 0)]), (.monitorenter, .null, 0, []), (.aload 1, .null, 0, []), (.getfield 0, .null, 11, [(6, 0)]), (.nop, .int 0, 0, []), (.aload 0, .null, 0, []), (.getfield 0, .null, 11, [(6, 0)]), (.nop, .int 0, 0, []), (.aload 1, .null, 0, []), (.getfield 0, .null, 12, [(6, 0)]), (.monitorenter, .null, 0, []), (.aload 0, .null, 0, []), (.aload 1, .null, 0, []), (.getfield 0, .null, 12, [(6, 0)]), (.putfield 0, .null, 12, [(6, 0)]), (.return_, .null, 0, [])])])
/-- 103: OverFence$Scene.boyAt(I)LOverFence$Kick; -/
def mc_103 : am_M := (2, 0, [(0, 21, [(.iload 1, .null, 0, []), (.ifCond .lt 0, .null, 21, []), (.iload 1, .null, 0, []), (.aload 0, .null, 0, []), (.getfield 0, .null, 4, [(6, 0)]), (.if_icmp .ge 0, .null, 21, []), (.aload 0, .null, 0, []), (.getfield 0, .null, 2, [(6, 0)]), (.iload 1, .null, 0, []), (.aaload, .null, 0, []), (.goto 0, .null, 22, [])]),
  (21, 22, [(.nop, .null, 0, [])]),
  (22, 23, [(.areturn, .null, 0, [])])])
/-- 104: OverFence$Scene.numberAhead(I)I -/
def mc_104 : am_M := (2, 0, [(0, 10, [(.iload 1, .null, 0, []), (.ifCond .le 0, .null, 10, []), (.iload 1, .null, 0, []), (.nop, .int 1, 0, []), (.isub, .null, 0, []), (.goto 0, .null, 16, [])]),
  (10, 16, [(.aload 0, .null, 0, []), (.getfield 0, .null, 4, [(6, 0)]), (.nop, .int 1, 0, []), (.isub, .null, 0, [])]),
  (16, 17, [(.ireturn, .null, 0, [])])])
/-- 105: OverFence$Scene.allPanes()I -/
def mc_105 : am_M := (3, 0, [(0, 4, [(.nop, .int 0, 0, []), (.istore 1, .null, 0, []), (.nop, .int 0, 0, []), (.istore 2, .null, 0, [])]),
  (4, 27, [(.iload 2, .null, 0, []), (.aload 0, .null, 0, []), (.getfield 0, .null, 4, [(6, 0)]), (.if_icmp .ge 0, .null, 27, []), (.iload 1, .null, 0, []), (.aload 0, .null, 0, []), (.getfield 0, .null, 3, [(6, 0)]), (.iload 2, .null, 0, []), (.iaload, .null, 0, []), (.iadd, .null, 0, []), (.istore 1, .null, 0, []), (.iinc 2 0, .int 1, 0, []), (.goto 0, .null, 4, [])]),
  (27, 29, [(.iload 1, .null, 0, []), (.ireturn, .null, 0, [])])])
/-- 106: OverFence$Scene.heightOf(LOverFence$Kick;III)I -/
def mc_106 : am_M := (5, 0, [(0, 31, [(.aload 1, .null, 0, []), (.iload 2, .null, 0, []), (.aload 0, .null, 0, []), (.getfield 0, .null, 0, [(6, 0)]), (.nop, .int 5, 0, []), (.iaload, .null, 0, []), (.invokevirtual 0, .retAddr 0, 3, [(3, 88), (2, 84), (4, 95), (7, 119), (9, 125), (0, 95), (5, 99)]), (.aload 0, .null, 0, []), (.getfield 0, .null, 7, [(6, 0)]), (.aload 1, .null, 0, []), (.iload 2, .null, 0, []), (.iload 3, .null, 0, []), (.iload 4, .null, 0, []), (.aload 0, .null, 0, []), (.getfield 0, .null, 0, [(6, 0)]), (.nop, .int 4, 0, []), (.iaload, .null, 0, []), (.invokevirtual 0, .retAddr 0, 6, [(10, 129)]), (.iadd, .null, 0, []), (.ireturn, .null, 0, [])])])
/-- 107: OverFence$Scene.goesOver(LOverFence$Kick;I)Z -/
def mc_107 : am_M := (3, 0, [(0, 39, [(.aload 0, .null, 0, []), (.aload 1, .null, 0, []), (.iload 2, .null, 0, []), (.aload 0, .null, 0, []), (.getfield 0, .null, 0, [(6, 0)]), (.nop, .int 0, 0, []), (.iaload, .null, 0, []), (.aload 0, .null, 0, []), (.getfield 0, .null, 0, [(6, 0)]), (.nop, .int 1, 0, []), (.iaload, .null, 0, []), (.invokevirtual 0, .retAddr 0, 5, [(6, 106)]), (.aload 0, .null, 0, []), (.getfield 0, .null, 7, [(6, 0)]), (.getfield 0, .null, 3, [(10, 0)]), (.aload 0, .null, 0, []), (.getfield 0, .null, 0, [(6, 0)]), (.nop, .int 1, 0, []), (.iaload, .null, 0, []), (.iadd, .null, 0, []), (.if_icmp .le 0, .null, 39, []), (.nop, .int 1, 0, []), (.goto 0, .null, 40, [])]),
  (39, 40, [(.nop, .int 0, 0, [])]),
  (40, 41, [(.freturn, .null, 0, [])])])
/-- 108: OverFence$Scene.bedOf(LOverFence$Kick;I)I -/
def mc_108 : am_M := (3, 0, [(0, 24, [(.iload 2, .null, 0, []), (.nop, .int 2, 0, []), (.aload 0, .null, 0, []), (.getfield 0, .null, 0, [(6, 0)]), (.nop, .int 0, 0, []), (.iaload, .null, 0, []), (.imul, .null, 0, []), (.iadd, .null, 0, []), (.aload 1, .null, 0, []), (.getfield 0, .null, 1, [(3, 0), (2, 0), (4, 0), (7, 0), (9, 0), (0, 0), (5, 0)]), (.iadd, .null, 0, []), (.aload 1, .null, 0, []), (.invokevirtual 0, .retAddr 0, 1, [(3, 89), (2, 89), (4, 89), (7, 89), (9, 89), (0, 71), (5, 89)]), (.iadd, .null, 0, []), (.nop, .int 10, 0, []), (.irem, .null, 0, []), (.ireturn, .null, 0, [])])])
/-- 109: OverFence$Scene.becomes(LOverFence$Kick;I)I -/
def mc_109 : am_M := (4, 0, [(0, 11, [(.aload 0, .null, 0, []), (.aload 1, .null, 0, []), (.iload 2, .null, 0, []), (.invokevirtual 0, .retAddr 0, 3, [(6, 107)]), (.ifCond .ne 0, .null, 11, []), (.nop, .int 0, 0, []), (.ireturn, .null, 0, [])]),
  (11, 30, [(.aload 0, .null, 0, []), (.getfield 0, .null, 1, [(6, 0)]), (.aload 0, .null, 0, []), (.aload 1, .null, 0, []), (.iload 2, .null, 0, []), (.invokevirtual 0, .retAddr 0, 3, [(6, 108)]), (.iaload, .null, 0, []), (.istore 3, .null, 0, []), (.iload 3, .null, 0, []), (.nop, .int 2, 0, []), (.if_icmp .ne 0, .null, 30, []), (.nop, .int 3, 0, []), (.ireturn, .null, 0, [])]),
  (30, 37, [(.iload 3, .null, 0, []), (.nop, .int 3, 0, []), (.if_icmp .ne 0, .null, 37, []), (.nop, .int 4, 0, []), (.ireturn, .null, 0, [])]),
  (37, 63, [(.aload 0, .null, 0, []), (.aload 0, .null, 0, []), (.getfield 0, .null, 0, [(6, 0)]), (.nop, .int 8, 0, []), (.iaload, .null, 0, []), (.nop, .int 1, 0, []), (.iadd, .null, 0, []), (.aload 0, .null, 0, []), (.getfield 0, .null, 0, [(6, 0)]), (.nop, .int 2, 0, []), (.iaload, .null, 0, []), (.invokevirtual 0, .retAddr 0, 3, [(6, 110)]), (.ifCond .eq 0, .null, 63, []), (.nop, .int 1, 0, []), (.goto 0, .null, 64, [])]),
  (63, 64, [(.nop, .int 2, 0, [])]),
  (64, 65, [(.ireturn, .null, 0, [])])])
/-- 110: OverFence$Scene.throwsBack(II)Z -/
def mc_110 : am_M := (3, 0, [(0, 25, [(.iload 1, .null, 0, []), (.iload 2, .null, 0, []), (.if_icmp .gt 0, .null, 25, []), (.aload 0, .null, 0, []), (.getfield 0, .null, 0, [(6, 0)]), (.nop, .int 4, 0, []), (.iaload, .null, 0, []), (.aload 0, .null, 0, []), (.getfield 0, .null, 7, [(6, 0)]), (.getfield 0, .null, 4, [(10, 0)]), (.if_icmp .eq 0, .null, 25, []), (.nop, .int 1, 0, []), (.goto 0, .null, 26, [])]),
  (25, 26, [(.nop, .int 0, 0, [])]),
  (26, 27, [(.freturn, .null, 0, [])])])
/-- 111: OverFence$Scene.play(LOverFence$Kick;I)I -/
def mc_111 : am_M := (4, 0, [(0, 13, [(.aload 0, .null, 0, []), (.aload 1, .null, 0, []), (.iload 2, .null, 0, []), (.invokevirtual 0, .retAddr 0, 3, [(6, 109)]), (.istore 3, .null, 0, []), (.iload 3, .null, 0, []), (.ifCond .ne 0, .null, 13, []), (.iload 3, .null, 0, []), (.ireturn, .null, 0, [])]),
  (13, 50, [(.aload 0, .null, 0, []), (.getfield 0, .null, 0, [(6, 0)]), (.nop, .int 8, 0, []), (.dup2, .null, 0, []), (.iaload, .null, 0, []), (.nop, .int 1, 0, []), (.iadd, .null, 0, []), (.iastore, .null, 0, []), (.aload 0, .null, 0, []), (.getfield 0, .null, 1, [(6, 0)]), (.aload 0, .null, 0, []), (.aload 1, .null, 0, []), (.iload 2, .null, 0, []), (.invokevirtual 0, .retAddr 0, 3, [(6, 108)]), (.iaload, .null, 0, []), (.nop, .int 1, 0, []), (.if_icmp .ne 0, .null, 50, []), (.aload 0, .null, 0, []), (.getfield 0, .null, 0, [(6, 0)]), (.nop, .int 7, 0, []), (.dup2, .null, 0, []), (.iaload, .null, 0, []), (.nop, .int 1, 0, []), (.iadd, .null, 0, []), (.iastore, .null, 0, [])]),
  (50, 68, [(.iload 3, .null, 0, []), (.nop, .int 3, 0, []), (.if_icmp .ne 0, .null, 68, []), (.aload 0, .null, 0, []), (.getfield 0, .null, 3, [(6, 0)]), (.aload 1, .null, 0, []), (.getfield 0, .null, 0, [(3, 0), (2, 0), (4, 0), (7, 0), (9, 0), (0, 0), (5, 0)]), (.dup2, .null, 0, []), (.iaload, .null, 0, []), (.nop, .int 1, 0, []), (.iadd, .null, 0, []), (.iastore, .null, 0, [])]),
  (68, 97, [(.iload 3, .null, 0, []), (.nop, .int 1, 0, []), (.if_icmp .eq 0, .null, 103, []), (.aload 0, .null, 0, []), (.getfield 0, .null, 0, [(6, 0)]), (.nop, .int 3, 0, []), (.dup2, .null, 0, []), (.iaload, .null, 0, []), (.nop, .int 1, 0, []), (.isub, .null, 0, []), (.iastore, .null, 0, []), (.aload 0, .null, 0, []), (.getfield 0, .null, 0, [(6, 0)]), (.iload 3, .null, 0, []), (.nop, .int 4, 0, []), (.if_icmp .ne 0, .null, 97, []), (.nop, .int 6, 0, []), (.goto 0, .null, 98, [])]),
  (97, 98, [(.nop, .int 5, 0, [])]),
  (98, 103, [(.dup2, .null, 0, []), (.iaload, .null, 0, []), (.nop, .int 1, 0, []), (.iadd, .null, 0, []), (.iastore, .null, 0, [])]),
  (103, 105, [(.iload 3, .null, 0, []), (.ireturn, .null, 0, [])])])
/-- 112: OverFence$Scene.sleep()V -/
def mc_112 : am_M := (1, 0, [(0, 62, [(.aload 0, .null, 0, []), (.getfield 0, .null, 0, [(6, 0)]), (.nop, .int 9, 0, []), (.dup2, .null, 0, []), (.iaload, .null, 0, []), (.nop, .int 1, 0, []), (.iadd, .null, 0, []), (.iastore, .null, 0, []), (.aload 0, .null, 0, []), (.getfield 0, .null, 0, [(6, 0)]), (.nop, .int 8, 0, []), (.nop, .int 0, 0, []), (.iastore, .null, 0, []), (.aload 0, .null, 0, []), (.getfield 0, .null, 0, [(6, 0)]), (.nop, .int 4, 0, []), (.nop, .int 15, 0, []), (.iastore, .null, 0, []), (.aload 0, .null, 0, []), (.getfield 0, .null, 0, [(6, 0)]), (.nop, .int 9, 0, []), (.iaload, .null, 0, []), (.nop, .int 7, 0, []), (.irem, .null, 0, []), (.ifCond .ne 0, .null, 62, []), (.aload 0, .null, 0, []), (.getfield 0, .null, 0, [(6, 0)]), (.nop, .int 3, 0, []), (.dup2, .null, 0, []), (.iaload, .null, 0, []), (.aload 0, .null, 0, []), (.getfield 0, .null, 0, [(6, 0)]), (.nop, .int 5, 0, []), (.iaload, .null, 0, []), (.iadd, .null, 0, []), (.iastore, .null, 0, []), (.aload 0, .null, 0, []), (.getfield 0, .null, 0, [(6, 0)]), (.nop, .int 5, 0, []), (.nop, .int 0, 0, []), (.iastore, .null, 0, [])]),
  (62, 63, [(.return_, .null, 0, [])])])
/-- 113: OverFence$Scene.oversOfAll(II)I -/
def mc_113 : am_M := (7, 0, [(0, 5, [(.nop, .int 0, 0, []), (.istore 3, .null, 0, []), (.nop, .int 0, 0, []), (.istore 4, .null, 0, [])]),
  (5, 25, [(.iload 4, .null, 0, []), (.aload 0, .null, 0, []), (.getfield 0, .null, 4, [(6, 0)]), (.if_icmp .ge 0, .null, 74, []), (.aload 0, .null, 0, []), (.iload 4, .null, 0, []), (.invokevirtual 0, .retAddr 0, 2, [(6, 103)]), (.astore 5, .null, 0, []), (.nop, .int 0, 0, []), (.istore 6, .null, 0, [])]),
  (25, 62, [(.aload 5, .null, 0, []), (.ifnull 0, .null, 68, []), (.iload 6, .null, 0, []), (.nop, .int 10, 0, []), (.if_icmp .ge 0, .null, 68, []), (.aload 0, .null, 0, []), (.aload 5, .null, 0, []), (.iload 6, .null, 0, []), (.iload 1, .null, 0, []), (.iload 2, .null, 0, []), (.invokevirtual 0, .retAddr 0, 5, [(6, 106)]), (.aload 0, .null, 0, []), (.getfield 0, .null, 7, [(6, 0)]), (.getfield 0, .null, 3, [(10, 0)]), (.iload 2, .null, 0, []), (.iadd, .null, 0, []), (.if_icmp .le 0, .null, 62, []), (.iinc 3 0, .int 1, 0, [])]),
  (62, 68, [(.iinc 6 0, .int 1, 0, []), (.goto 0, .null, 25, [])]),
  (68, 74, [(.iinc 4 0, .int 1, 0, []), (.goto 0, .null, 5, [])]),
  (74, 76, [(.iload 3, .null, 0, []), (.ireturn, .null, 0, [])])])
/-- 114: OverFence$Scene.oversByAim(I)I -/
def mc_114 : am_M := (5, 0, [(0, 4, [(.nop, .int 0, 0, []), (.istore 2, .null, 0, []), (.nop, .int 0, 0, []), (.istore 3, .null, 0, [])]),
  (4, 37, [(.iload 3, .null, 0, []), (.aload 0, .null, 0, []), (.getfield 0, .null, 4, [(6, 0)]), (.if_icmp .ge 0, .null, 43, []), (.aload 0, .null, 0, []), (.iload 3, .null, 0, []), (.invokevirtual 0, .retAddr 0, 2, [(6, 103)]), (.astore 4, .null, 0, []), (.aload 4, .null, 0, []), (.ifnull 0, .null, 37, []), (.aload 0, .null, 0, []), (.aload 4, .null, 0, []), (.iload 1, .null, 0, []), (.invokevirtual 0, .retAddr 0, 3, [(6, 107)]), (.ifCond .eq 0, .null, 37, []), (.iinc 2 0, .int 1, 0, [])]),
  (37, 43, [(.iinc 3 0, .int 1, 0, []), (.goto 0, .null, 4, [])]),
  (43, 45, [(.iload 2, .null, 0, []), (.ireturn, .null, 0, [])])])
/-- 115: OverFence$Scene.kicksOnto(LOverFence$Kick;I)I -/
def mc_115 : am_M := (5, 0, [(0, 5, [(.nop, .int 0, 0, []), (.istore 3, .null, 0, []), (.nop, .int 0, 0, []), (.istore 4, .null, 0, [])]),
  (5, 36, [(.iload 4, .null, 0, []), (.nop, .int 10, 0, []), (.if_icmp .ge 0, .null, 42, []), (.aload 0, .null, 0, []), (.aload 1, .null, 0, []), (.iload 4, .null, 0, []), (.invokevirtual 0, .retAddr 0, 3, [(6, 108)]), (.iload 2, .null, 0, []), (.if_icmp .ne 0, .null, 36, []), (.aload 0, .null, 0, []), (.aload 1, .null, 0, []), (.iload 4, .null, 0, []), (.invokevirtual 0, .retAddr 0, 3, [(6, 107)]), (.ifCond .eq 0, .null, 36, []), (.iinc 3 0, .int 1, 0, [])]),
  (36, 42, [(.iinc 4 0, .int 1, 0, []), (.goto 0, .null, 5, [])]),
  (42, 44, [(.iload 3, .null, 0, []), (.ireturn, .null, 0, [])])])
/-- 116: OverFence$Scene.kicksOfAllOnto(I)I -/
def mc_116 : am_M := (5, 0, [(0, 4, [(.nop, .int 0, 0, []), (.istore 2, .null, 0, []), (.nop, .int 0, 0, []), (.istore 3, .null, 0, [])]),
  (4, 34, [(.iload 3, .null, 0, []), (.aload 0, .null, 0, []), (.getfield 0, .null, 4, [(6, 0)]), (.if_icmp .ge 0, .null, 40, []), (.aload 0, .null, 0, []), (.iload 3, .null, 0, []), (.invokevirtual 0, .retAddr 0, 2, [(6, 103)]), (.astore 4, .null, 0, []), (.aload 4, .null, 0, []), (.ifnull 0, .null, 34, []), (.iload 2, .null, 0, []), (.aload 0, .null, 0, []), (.aload 4, .null, 0, []), (.iload 1, .null, 0, []), (.invokevirtual 0, .retAddr 0, 3, [(6, 115)]), (.iadd, .null, 0, []), (.istore 2, .null, 0, [])]),
  (34, 40, [(.iinc 3 0, .int 1, 0, []), (.goto 0, .null, 4, [])]),
  (40, 42, [(.iload 2, .null, 0, []), (.ireturn, .null, 0, [])])])
/-- 117: OverFence$Shy.<init>(II)V -/
def mc_117 : am_M := (3, 0, [(0, 7, [(.aload 0, .null, 0, []), (.iload 1, .null, 0, []), (.iload 2, .null, 0, []), (.invokespecial 0, .retAddr 0, 3, [(0, 86)]), (.return_, .null, 0, [])])])
/-- 118: OverFence$Shy.kind()I -/
def mc_118 : am_M := (1, 0, [(0, 2, [(.nop, .int 3, 0, []), (.ireturn, .null, 0, [])])])
/-- 119: OverFence$Shy.rise(II)I -/
def mc_119 : am_M := (3, 0, [(0, 9, [(.iload 1, .null, 0, []), (.aload 0, .null, 0, []), (.getfield 0, .null, 1, [(3, 0), (2, 0), (4, 0), (7, 0), (9, 0), (0, 0), (5, 0)]), (.iadd, .null, 0, []), (.iload 2, .null, 0, []), (.isub, .null, 0, []), (.ireturn, .null, 0, [])])])
/-- 120: OverFence$Shy.pays(ILOverFence$Trace;)I -/
def mc_120 : am_M := (3, 0, [(0, 16, [(.aload 2, .null, 0, []), (.nop, .int 31, 0, []), (.invokevirtual 0, .retAddr 0, 2, [(8, 122)]), (.aload 0, .null, 0, []), (.iload 1, .null, 0, []), (.aload 2, .null, 0, []), (.invokespecial 0, .retAddr 0, 3, [(0, 92)]), (.nop, .int 7, 0, []), (.ixor, .null, 0, []), (.ireturn, .null, 0, [])])])
/-- 121: OverFence$Trace.<init>()V -/
def mc_121 : am_M := (1, 1, [(0, 13, [(.aload 0, .null, 0, []), (.pop2, .null, 0, []), (.aload 0, .null, 0, []), (.nop, .int 20, 0, []), (.newarray .int, .null, 0, []), (.putfield 0, .null, 0, [(8, 3)]), (.return_, .null, 0, [])])])
/-- 122: OverFence$Trace.mark(I)V -/
def mc_122 : am_M := (2, 0, [(0, 22, [(.aload 0, .null, 0, []), (.getfield 0, .null, 1, [(8, 0)]), (.aload 0, .null, 0, []), (.getfield 0, .null, 0, [(8, 0)]), (.arraylength, .null, 0, []), (.if_icmp .ge 0, .null, 22, []), (.aload 0, .null, 0, []), (.getfield 0, .null, 0, [(8, 0)]), (.aload 0, .null, 0, []), (.getfield 0, .null, 1, [(8, 0)]), (.iload 1, .null, 0, []), (.iastore, .null, 0, [])]),
  (22, 33, [(.aload 0, .null, 0, []), (.dup, .null, 0, []), (.getfield 0, .null, 1, [(8, 0)]), (.nop, .int 1, 0, []), (.iadd, .null, 0, []), (.putfield 0, .null, 1, [(8, 0)]), (.return_, .null, 0, [])])])
/-- 123: OverFence$Wild.<init>(II)V -/
def mc_123 : am_M := (3, 0, [(0, 7, [(.aload 0, .null, 0, []), (.iload 1, .null, 0, []), (.iload 2, .null, 0, []), (.invokespecial 0, .retAddr 0, 3, [(0, 82)]), (.return_, .null, 0, [])])])
/-- 124: OverFence$Wild.kind()I -/
def mc_124 : am_M := (1, 0, [(0, 2, [(.nop, .int 4, 0, []), (.ireturn, .null, 0, [])])])
/-- 125: OverFence$Wild.rise(II)I -/
def mc_125 : am_M := (4, 0, [(0, 17, [(.aload 0, .null, 0, []), (.iload 1, .null, 0, []), (.iload 2, .null, 0, []), (.invokespecial 0, .retAddr 0, 3, [(0, 84)]), (.istore 3, .null, 0, []), (.iload 1, .null, 0, []), (.nop, .int 2, 0, []), (.irem, .null, 0, []), (.ifCond .ne 0, .null, 17, []), (.iload 3, .null, 0, []), (.goto 0, .null, 20, [])]),
  (17, 20, [(.iload 3, .null, 0, []), (.nop, .int 3, 0, []), (.iadd, .null, 0, [])]),
  (20, 21, [(.ireturn, .null, 0, [])])])
/-- 126: OverFence$Wild.pays(ILOverFence$Trace;)I -/
def mc_126 : am_M := (3, 0, [(0, 22, [(.aload 2, .null, 0, []), (.nop, .int 41, 0, []), (.invokevirtual 0, .retAddr 0, 2, [(8, 122)]), (.aload 0, .null, 0, []), (.iload 1, .null, 0, []), (.nop, .int 1, 0, []), (.isub, .null, 0, []), (.aload 2, .null, 0, []), (.invokespecial 0, .retAddr 0, 3, [(0, 92)]), (.aload 0, .null, 0, []), (.nop, .int 2, 0, []), (.aload 2, .null, 0, []), (.invokevirtual 0, .retAddr 0, 3, [(9, 85)]), (.iadd, .null, 0, []), (.ireturn, .null, 0, [])])])
/-- 127: OverFence$Yard.<init>()V -/
def mc_127 : am_M := (1, 2, [(0, 39, [(.aload 0, .null, 0, []), (.pop2, .null, 0, []), (.aload 0, .null, 0, []), (.nop, .int 100, 0, []), (.newarray .int, .null, 0, []), (.putfield 0, .null, 0, [(10, 3)]), (.aload 0, .null, 0, []), (.nop, .int 6, 0, []), (.newarray .int, .null, 0, []), (.putfield 0, .null, 1, [(10, 3)]), (.aload 0, .null, 0, []), (.nop, .int 5, 0, []), (.putfield 0, .null, 3, [(10, 0)]), (.aload 0, .null, 0, []), (.nop, .int 18, 0, []), (.putfield 0, .null, 4, [(10, 0)]), (.aload 0, .null, 0, []), (.nop, .retAddr 44, 0, []), (.putfield 0, .null, 5, [(10, 3)]), (.return_, .null, 0, [])])])
/-- 128: OverFence$Yard.takeOver(LOverFence$Yard;)V -/
def mc_128 : am_M := (2, 0, [(0, 42, [(.aload 1, .null, 0, []), (.getfield 0, .null, 0, [(10, 0)]), (.nop, .int 0, 0, []), (.aload 0, .null, 0, []), (.getfield 0, .null, 0, [(10, 0)]), (.nop, .int 0, 0, []), (.aload 1, .null, 0, []), (.getfield 0, .null, 2, [(10, 0)]), (.monitorenter, .null, 0, []), (.aload 0, .null, 0, []), (.aload 1, .null, 0, []), (.getfield 0, .null, 2, [(10, 0)]), (.putfield 0, .null, 2, [(10, 0)]), (.aload 0, .null, 0, []), (.aload 1, .null, 0, []), (.getfield 0, .null, 3, [(10, 0)]), (.putfield 0, .null, 3, [(10, 0)]), (.aload 0, .null, 0, []), (.aload 1, .null, 0, []), (.getfield 0, .null, 4, [(10, 0)]), (.putfield 0, .null, 4, [(10, 0)]), (.return_, .null, 0, [])])])
/-- 129: OverFence$Yard.liftOf(LOverFence$Kick;IIII)I -/
def mc_129 : am_M := (11, 0, [(0, 59, [(.aload 0, .null, 0, []), (.getfield 0, .null, 1, [(10, 0)]), (.nop, .int 0, 0, []), (.aload 1, .null, 0, []), (.getfield 0, .null, 0, [(3, 0), (2, 0), (4, 0), (7, 0), (9, 0), (0, 0), (5, 0)]), (.iastore, .null, 0, []), (.aload 0, .null, 0, []), (.getfield 0, .null, 1, [(10, 0)]), (.nop, .int 1, 0, []), (.aload 1, .null, 0, []), (.invokevirtual 0, .retAddr 0, 1, [(3, 87), (2, 83), (4, 94), (7, 118), (9, 124), (0, 70), (5, 98)]), (.iastore, .null, 0, []), (.aload 0, .null, 0, []), (.getfield 0, .null, 1, [(10, 0)]), (.nop, .int 2, 0, []), (.iload 2, .null, 0, []), (.iastore, .null, 0, []), (.aload 0, .null, 0, []), (.getfield 0, .null, 1, [(10, 0)]), (.nop, .int 3, 0, []), (.iload 3, .null, 0, []), (.iastore, .null, 0, []), (.aload 0, .null, 0, []), (.getfield 0, .null, 1, [(10, 0)]), (.nop, .int 4, 0, []), (.iload 4, .null, 0, []), (.iastore, .null, 0, []), (.aload 0, .null, 0, []), (.getfield 0, .null, 1, [(10, 0)]), (.nop, .int 5, 0, []), (.iload 5, .null, 0, []), (.iastore, .null, 0, []), (.nop, .int 0, 0, []), (.istore 6, .null, 0, []), (.nop, .int 0, 0, []), (.istore 7, .null, 0, []), (.nop, .int 0, 0, []), (.istore 8, .null, 0, [])]),
  (59, 128, [(.iload 8, .null, 0, []), (.aload 0, .null, 0, []), (.getfield 0, .null, 2, [(10, 0)]), (.if_icmp .ge 0, .null, 237, []), (.aload 0, .null, 0, []), (.getfield 0, .null, 0, [(10, 0)]), (.iload 8, .null, 0, []), (.iaload, .null, 0, []), (.nop, .int 255, 0, []), (.iand, .null, 0, []), (.istore 9, .null, 0, []), (.aload 0, .null, 0, []), (.getfield 0, .null, 0, [(10, 0)]), (.iload 8, .null, 0, []), (.iaload, .null, 0, []), (.nop, .int 8, 0, []), (.ishr, .null, 0, []), (.istore 10, .null, 0, []), (.iload 9, .null, 0, []), (.lookupswitch 0 #[], .null, 208, [(18, 128), (19, 137), (20, 152), (21, 166), (22, 187)])]),
  (128, 137, [(.iload 7, .null, 0, []), (.nop, .int 1, 0, []), (.ixor, .null, 0, []), (.istore 7, .null, 0, []), (.goto 0, .null, 231, [])]),
  (137, 152, [(.iload 7, .null, 0, []), (.nop, .int 1, 0, []), (.ishr, .null, 0, []), (.iload 7, .null, 0, []), (.nop, .int (-2), 0, []), (.ior, .null, 0, []), (.iand, .null, 0, []), (.istore 7, .null, 0, []), (.goto 0, .null, 231, [])]),
  (152, 166, [(.iload 7, .null, 0, []), (.nop, .int 1, 0, []), (.ishr, .null, 0, []), (.iload 7, .null, 0, []), (.nop, .int 1, 0, []), (.iand, .null, 0, []), (.ior, .null, 0, []), (.istore 7, .null, 0, []), (.goto 0, .null, 231, [])]),
  (166, 187, [(.iload 6, .null, 0, []), (.iload 10, .null, 0, []), (.iload 7, .null, 0, []), (.nop, .int 1, 0, []), (.iand, .null, 0, []), (.imul, .null, 0, []), (.iadd, .null, 0, []), (.istore 6, .null, 0, []), (.iload 7, .null, 0, []), (.nop, .int 1, 0, []), (.ishr, .null, 0, []), (.istore 7, .null, 0, []), (.goto 0, .null, 231, [])]),
  (187, 208, [(.iload 6, .null, 0, []), (.iload 10, .null, 0, []), (.iload 7, .null, 0, []), (.nop, .int 1, 0, []), (.iand, .null, 0, []), (.imul, .null, 0, []), (.isub, .null, 0, []), (.istore 6, .null, 0, []), (.iload 7, .null, 0, []), (.nop, .int 1, 0, []), (.ishr, .null, 0, []), (.istore 7, .null, 0, []), (.goto 0, .null, 231, [])]),
  (208, 227, [(.iload 7, .null, 0, []), (.nop, .int 1, 0, []), (.ishl, .null, 0, []), (.aload 0, .null, 0, []), (.iload 9, .null, 0, []), (.iload 10, .null, 0, []), (.invokevirtual 0, .retAddr 0, 3, [(10, 130)]), (.ifCond .eq 0, .null, 227, []), (.nop, .int 1, 0, []), (.goto 0, .null, 228, [])]),
  (227, 228, [(.nop, .int 0, 0, [])]),
  (228, 231, [(.ior, .null, 0, []), (.istore 7, .null, 0, [])]),
  (231, 237, [(.iinc 8 0, .int 1, 0, []), (.goto 0, .null, 59, [])]),
  (237, 240, [(.iload 6, .null, 0, []), (.ireturn, .null, 0, [])])])
/-- 130: OverFence$Yard.holds(II)Z -/
def mc_130 : am_M := (5, 0, [(0, 15, [(.iload 1, .null, 0, []), (.nop, .int 3, 0, []), (.idiv, .null, 0, []), (.istore 3, .null, 0, []), (.iload 3, .null, 0, []), (.aload 0, .null, 0, []), (.getfield 0, .null, 1, [(10, 0)]), (.arraylength, .null, 0, []), (.if_icmp .lt 0, .null, 15, []), (.nop, .int 0, 0, []), (.freturn, .null, 0, [])]),
  (15, 29, [(.aload 0, .null, 0, []), (.getfield 0, .null, 1, [(10, 0)]), (.iload 3, .null, 0, []), (.iaload, .null, 0, []), (.iload 2, .null, 0, []), (.if_icmp .ge 0, .null, 29, []), (.nop, .int 0, 0, []), (.goto 0, .null, 44, [])]),
  (29, 43, [(.aload 0, .null, 0, []), (.getfield 0, .null, 1, [(10, 0)]), (.iload 3, .null, 0, []), (.iaload, .null, 0, []), (.iload 2, .null, 0, []), (.if_icmp .ne 0, .null, 43, []), (.nop, .int 1, 0, []), (.goto 0, .null, 44, [])]),
  (43, 44, [(.nop, .int 2, 0, [])]),
  (44, 58, [(.istore 4, .null, 0, []), (.iload 4, .null, 0, []), (.iload 1, .null, 0, []), (.nop, .int 3, 0, []), (.irem, .null, 0, []), (.if_icmp .ne 0, .null, 58, []), (.nop, .int 1, 0, []), (.goto 0, .null, 59, [])]),
  (58, 59, [(.nop, .int 0, 0, [])]),
  (59, 60, [(.freturn, .null, 0, [])])])
/-- 131: OverFence$Yard.read([BI)I -/
def mc_131 : am_M := (4, 0, [(0, 43, [(.aload 0, .null, 0, []), (.aload 1, .null, 0, []), (.putfield 0, .null, 5, [(10, 3)]), (.aload 0, .null, 0, []), (.iload 2, .null, 0, []), (.aload 1, .null, 0, []), (.arraylength, .null, 0, []), (.invokestatic 0, .retAddr 0, 2, [(0, 193)]), (.putfield 0, .null, 6, [(10, 0)]), (.aload 0, .null, 0, []), (.nop, .int 0, 0, []), (.putfield 0, .null, 7, [(10, 0)]), (.aload 0, .null, 0, []), (.nop, .int (-1), 0, []), (.putfield 0, .null, 8, [(10, 0)]), (.aload 0, .null, 0, []), (.nop, .int 0, 0, []), (.putfield 0, .null, 2, [(10, 0)]), (.aload 0, .null, 0, []), (.nop, .int 5, 0, []), (.putfield 0, .null, 3, [(10, 0)]), (.aload 0, .null, 0, []), (.nop, .int 18, 0, []), (.putfield 0, .null, 4, [(10, 0)]), (.nop, .int 0, 0, []), (.istore 3, .null, 0, [])]),
  (43, 66, [(.iload 3, .null, 0, []), (.nop, .int 10, 0, []), (.if_icmp .ge 0, .null, 92, []), (.aload 0, .null, 0, []), (.getfield 0, .null, 8, [(10, 0)]), (.ifCond .ge 0, .null, 92, []), (.iload 3, .null, 0, []), (.ifCond .le 0, .null, 66, []), (.aload 0, .null, 0, []), (.nop, .int 59, 0, []), (.invokevirtual 0, .retAddr 0, 2, [(10, 144)])]),
  (66, 86, [(.aload 0, .null, 0, []), (.invokevirtual 0, .retAddr 0, 1, [(10, 132)]), (.aload 0, .null, 0, []), (.getfield 0, .null, 7, [(10, 0)]), (.aload 0, .null, 0, []), (.getfield 0, .null, 6, [(10, 0)]), (.if_icmp .lt 0, .null, 86, []), (.aload 0, .null, 0, []), (.getfield 0, .null, 8, [(10, 0)]), (.ireturn, .null, 0, [])]),
  (86, 92, [(.iinc 3 0, .int 1, 0, []), (.goto 0, .null, 43, [])]),
  (92, 101, [(.aload 0, .null, 0, []), (.invokevirtual 0, .retAddr 0, 1, [(10, 145)]), (.aload 0, .null, 0, []), (.getfield 0, .null, 8, [(10, 0)]), (.ireturn, .null, 0, [])])])
/-- 132: OverFence$Yard.readClause()V -/
def mc_132 : am_M := (3, 0, [(0, 28, [(.aload 0, .null, 0, []), (.invokevirtual 0, .retAddr 0, 1, [(10, 133)]), (.istore 1, .null, 0, []), (.aload 0, .null, 0, []), (.nop, .int 32, 0, []), (.invokevirtual 0, .retAddr 0, 2, [(10, 144)]), (.aload 0, .null, 0, []), (.invokevirtual 0, .retAddr 0, 1, [(10, 135)]), (.istore 2, .null, 0, []), (.iload 1, .null, 0, []), (.nop, .int 21, 0, []), (.if_icmp .eq 0, .null, 28, []), (.iload 1, .null, 0, []), (.nop, .int 22, 0, []), (.if_icmp .ne 0, .null, 48, [])]),
  (28, 48, [(.aload 0, .null, 0, []), (.nop, .int 32, 0, []), (.invokevirtual 0, .retAddr 0, 2, [(10, 144)]), (.aload 0, .null, 0, []), (.nop, .int 0, 0, []), (.invokevirtual 0, .retAddr 0, 2, [(10, 136)]), (.aload 0, .null, 0, []), (.iload 1, .null, 0, []), (.iload 2, .null, 0, []), (.invokevirtual 0, .retAddr 0, 3, [(10, 141)]), (.goto 0, .null, 73, [])]),
  (48, 62, [(.iload 1, .null, 0, []), (.nop, .int 10, 0, []), (.if_icmp .ne 0, .null, 62, []), (.aload 0, .null, 0, []), (.iload 2, .null, 0, []), (.putfield 0, .null, 3, [(10, 0)]), (.goto 0, .null, 73, [])]),
  (62, 73, [(.iload 1, .null, 0, []), (.nop, .int 11, 0, []), (.if_icmp .ne 0, .null, 73, []), (.aload 0, .null, 0, []), (.iload 2, .null, 0, []), (.putfield 0, .null, 4, [(10, 0)])]),
  (73, 74, [(.return_, .null, 0, [])])])
/-- 133: OverFence$Yard.readWord()I -/
def mc_133 : am_M := (1, 0, [(0, 18, [(.aload 0, .null, 0, []), (.nop, .int 108, 0, []), (.invokevirtual 0, .retAddr 0, 2, [(10, 142)]), (.ifCond .eq 0, .null, 18, []), (.aload 0, .null, 0, []), (.nop, .retAddr 0, 0, []), (.nop, .int 21, 0, []), (.invokevirtual 0, .retAddr 0, 3, [(10, 134)]), (.ireturn, .null, 0, [])]),
  (18, 36, [(.aload 0, .null, 0, []), (.nop, .int 100, 0, []), (.invokevirtual 0, .retAddr 0, 2, [(10, 142)]), (.ifCond .eq 0, .null, 36, []), (.aload 0, .null, 0, []), (.nop, .retAddr 1, 0, []), (.nop, .int 22, 0, []), (.invokevirtual 0, .retAddr 0, 3, [(10, 134)]), (.ireturn, .null, 0, [])]),
  (36, 54, [(.aload 0, .null, 0, []), (.nop, .int 119, 0, []), (.invokevirtual 0, .retAddr 0, 2, [(10, 142)]), (.ifCond .eq 0, .null, 54, []), (.aload 0, .null, 0, []), (.nop, .retAddr 2, 0, []), (.nop, .int 10, 0, []), (.invokevirtual 0, .retAddr 0, 3, [(10, 134)]), (.ireturn, .null, 0, [])]),
  (54, 63, [(.aload 0, .null, 0, []), (.nop, .retAddr 3, 0, []), (.nop, .int 11, 0, []), (.invokevirtual 0, .retAddr 0, 3, [(10, 134)]), (.ireturn, .null, 0, [])])])
/-- 134: OverFence$Yard.spell(Ljava/lang/String;I)I -/
def mc_134 : am_M := (4, 0, [(0, 2, [(.nop, .int 0, 0, []), (.istore 3, .null, 0, [])]),
  (2, 25, [(.iload 3, .null, 0, []), (.aload 1, .null, 0, []), (.invokevirtual 0, .retAddr 0, 1, [(99, 181)]), (.if_icmp .ge 0, .null, 25, []), (.aload 0, .null, 0, []), (.aload 1, .null, 0, []), (.iload 3, .null, 0, []), (.invokevirtual 0, .retAddr 0, 2, [(99, 182)]), (.invokevirtual 0, .retAddr 0, 2, [(10, 144)]), (.iinc 3 0, .int 1, 0, []), (.goto 0, .null, 2, [])]),
  (25, 27, [(.iload 2, .null, 0, []), (.ireturn, .null, 0, [])])])
/-- 135: OverFence$Yard.readNumber()I -/
def mc_135 : am_M := (2, 0, [(0, 13, [(.aload 0, .null, 0, []), (.invokevirtual 0, .retAddr 0, 1, [(10, 143)]), (.ifCond .ne 0, .null, 13, []), (.aload 0, .null, 0, []), (.invokevirtual 0, .retAddr 0, 1, [(10, 145)]), (.nop, .int 0, 0, []), (.ireturn, .null, 0, [])]),
  (13, 75, [(.aload 0, .null, 0, []), (.getfield 0, .null, 5, [(10, 0)]), (.aload 0, .null, 0, []), (.getfield 0, .null, 7, [(10, 0)]), (.baload, .null, 1, []), (.nop, .int 48, 0, []), (.isub, .null, 0, []), (.istore 1, .null, 0, []), (.aload 0, .null, 0, []), (.dup, .null, 0, []), (.getfield 0, .null, 7, [(10, 0)]), (.nop, .int 1, 0, []), (.iadd, .null, 0, []), (.putfield 0, .null, 7, [(10, 0)]), (.iload 1, .null, 0, []), (.ifCond .eq 0, .null, 75, []), (.aload 0, .null, 0, []), (.invokevirtual 0, .retAddr 0, 1, [(10, 143)]), (.ifCond .eq 0, .null, 75, []), (.nop, .int 10, 0, []), (.iload 1, .null, 0, []), (.imul, .null, 0, []), (.aload 0, .null, 0, []), (.getfield 0, .null, 5, [(10, 0)]), (.aload 0, .null, 0, []), (.getfield 0, .null, 7, [(10, 0)]), (.baload, .null, 1, []), (.iadd, .null, 0, []), (.nop, .int 48, 0, []), (.isub, .null, 0, []), (.istore 1, .null, 0, []), (.aload 0, .null, 0, []), (.dup, .null, 0, []), (.getfield 0, .null, 7, [(10, 0)]), (.nop, .int 1, 0, []), (.iadd, .null, 0, []), (.putfield 0, .null, 7, [(10, 0)])]),
  (75, 77, [(.iload 1, .null, 0, []), (.ireturn, .null, 0, [])])])
/-- 136: OverFence$Yard.readEither(I)V -/
def mc_136 : am_M := (3, 0, [(0, 7, [(.aload 0, .null, 0, []), (.iload 1, .null, 0, []), (.invokevirtual 0, .retAddr 0, 2, [(10, 137)]), (.nop, .int 0, 0, []), (.istore 2, .null, 0, [])]),
  (7, 52, [(.iload 2, .null, 0, []), (.aload 0, .null, 0, []), (.getfield 0, .null, 6, [(10, 0)]), (.if_icmp .ge 0, .null, 52, []), (.aload 0, .null, 0, []), (.nop, .int 124, 0, []), (.invokevirtual 0, .retAddr 0, 2, [(10, 142)]), (.ifCond .eq 0, .null, 52, []), (.aload 0, .null, 0, []), (.dup, .null, 0, []), (.getfield 0, .null, 7, [(10, 0)]), (.nop, .int 1, 0, []), (.iadd, .null, 0, []), (.putfield 0, .null, 7, [(10, 0)]), (.aload 0, .null, 0, []), (.iload 1, .null, 0, []), (.invokevirtual 0, .retAddr 0, 2, [(10, 137)]), (.aload 0, .null, 0, []), (.nop, .int 20, 0, []), (.nop, .int 0, 0, []), (.invokevirtual 0, .retAddr 0, 3, [(10, 141)]), (.iinc 2 0, .int 1, 0, []), (.goto 0, .null, 7, [])]),
  (52, 53, [(.return_, .null, 0, [])])])
/-- 137: OverFence$Yard.readBoth(I)V -/
def mc_137 : am_M := (3, 0, [(0, 7, [(.aload 0, .null, 0, []), (.iload 1, .null, 0, []), (.invokevirtual 0, .retAddr 0, 2, [(10, 138)]), (.nop, .int 0, 0, []), (.istore 2, .null, 0, [])]),
  (7, 52, [(.iload 2, .null, 0, []), (.aload 0, .null, 0, []), (.getfield 0, .null, 6, [(10, 0)]), (.if_icmp .ge 0, .null, 52, []), (.aload 0, .null, 0, []), (.nop, .int 38, 0, []), (.invokevirtual 0, .retAddr 0, 2, [(10, 142)]), (.ifCond .eq 0, .null, 52, []), (.aload 0, .null, 0, []), (.dup, .null, 0, []), (.getfield 0, .null, 7, [(10, 0)]), (.nop, .int 1, 0, []), (.iadd, .null, 0, []), (.putfield 0, .null, 7, [(10, 0)]), (.aload 0, .null, 0, []), (.iload 1, .null, 0, []), (.invokevirtual 0, .retAddr 0, 2, [(10, 138)]), (.aload 0, .null, 0, []), (.nop, .int 19, 0, []), (.nop, .int 0, 0, []), (.invokevirtual 0, .retAddr 0, 3, [(10, 141)]), (.iinc 2 0, .int 1, 0, []), (.goto 0, .null, 7, [])]),
  (52, 53, [(.return_, .null, 0, [])])])
/-- 138: OverFence$Yard.readFactor(I)V -/
def mc_138 : am_M := (3, 0, [(0, 25, [(.aload 0, .null, 0, []), (.nop, .int 33, 0, []), (.invokevirtual 0, .retAddr 0, 2, [(10, 142)]), (.istore 2, .null, 0, []), (.iload 2, .null, 0, []), (.ifCond .ne 0, .null, 25, []), (.aload 0, .null, 0, []), (.nop, .int 40, 0, []), (.invokevirtual 0, .retAddr 0, 2, [(10, 142)]), (.ifCond .ne 0, .null, 25, []), (.aload 0, .null, 0, []), (.invokevirtual 0, .retAddr 0, 1, [(10, 139)]), (.return_, .null, 0, [])]),
  (25, 35, [(.iload 1, .null, 0, []), (.nop, .int 5, 0, []), (.if_icmp .lt 0, .null, 35, []), (.aload 0, .null, 0, []), (.invokevirtual 0, .retAddr 0, 1, [(10, 145)]), (.return_, .null, 0, [])]),
  (35, 66, [(.aload 0, .null, 0, []), (.dup, .null, 0, []), (.getfield 0, .null, 7, [(10, 0)]), (.nop, .int 1, 0, []), (.iadd, .null, 0, []), (.putfield 0, .null, 7, [(10, 0)]), (.iload 2, .null, 0, []), (.ifCond .eq 0, .null, 66, []), (.aload 0, .null, 0, []), (.iload 1, .null, 0, []), (.nop, .int 1, 0, []), (.iadd, .null, 0, []), (.invokevirtual 0, .retAddr 0, 2, [(10, 138)]), (.aload 0, .null, 0, []), (.nop, .int 18, 0, []), (.nop, .int 0, 0, []), (.invokevirtual 0, .retAddr 0, 3, [(10, 141)]), (.goto 0, .null, 79, [])]),
  (66, 79, [(.aload 0, .null, 0, []), (.iload 1, .null, 0, []), (.nop, .int 1, 0, []), (.iadd, .null, 0, []), (.invokevirtual 0, .retAddr 0, 2, [(10, 136)]), (.aload 0, .null, 0, []), (.nop, .int 41, 0, []), (.invokevirtual 0, .retAddr 0, 2, [(10, 144)])]),
  (79, 80, [(.return_, .null, 0, [])])])
/-- 139: OverFence$Yard.readTest()V -/
def mc_139 : am_M := (4, 0, [(0, 30, [(.aload 0, .null, 0, []), (.nop, .retAddr 4, 0, []), (.invokevirtual 0, .retAddr 0, 2, [(10, 140)]), (.istore 1, .null, 0, []), (.aload 0, .null, 0, []), (.nop, .retAddr 5, 0, []), (.invokevirtual 0, .retAddr 0, 2, [(10, 140)]), (.istore 2, .null, 0, []), (.aload 0, .null, 0, []), (.invokevirtual 0, .retAddr 0, 1, [(10, 135)]), (.istore 3, .null, 0, []), (.aload 0, .null, 0, []), (.nop, .int 3, 0, []), (.iload 1, .null, 0, []), (.imul, .null, 0, []), (.iload 2, .null, 0, []), (.iadd, .null, 0, []), (.iload 3, .null, 0, []), (.invokevirtual 0, .retAddr 0, 3, [(10, 141)]), (.return_, .null, 0, [])])])
/-- 140: OverFence$Yard.readOneOf(Ljava/lang/String;)I -/
def mc_140 : am_M := (3, 0, [(0, 35, [(.aload 0, .null, 0, []), (.getfield 0, .null, 8, [(10, 0)]), (.ifCond .ge 0, .null, 35, []), (.aload 0, .null, 0, []), (.getfield 0, .null, 7, [(10, 0)]), (.aload 0, .null, 0, []), (.getfield 0, .null, 6, [(10, 0)]), (.if_icmp .ge 0, .null, 35, []), (.aload 1, .null, 0, []), (.aload 0, .null, 0, []), (.getfield 0, .null, 5, [(10, 0)]), (.aload 0, .null, 0, []), (.getfield 0, .null, 7, [(10, 0)]), (.baload, .null, 1, []), (.i2c, .null, 0, []), (.invokevirtual 0, .retAddr 0, 2, [(99, 183)]), (.goto 0, .null, 36, [])]),
  (35, 36, [(.nop, .int (-1), 0, [])]),
  (36, 47, [(.istore 2, .null, 0, []), (.iload 2, .null, 0, []), (.ifCond .ge 0, .null, 47, []), (.aload 0, .null, 0, []), (.invokevirtual 0, .retAddr 0, 1, [(10, 145)]), (.nop, .int 0, 0, []), (.ireturn, .null, 0, [])]),
  (47, 59, [(.aload 0, .null, 0, []), (.dup, .null, 0, []), (.getfield 0, .null, 7, [(10, 0)]), (.nop, .int 1, 0, []), (.iadd, .null, 0, []), (.putfield 0, .null, 7, [(10, 0)]), (.iload 2, .null, 0, []), (.ireturn, .null, 0, [])])])
/-- 141: OverFence$Yard.addStep(II)V -/
def mc_141 : am_M := (3, 0, [(0, 19, [(.aload 0, .null, 0, []), (.getfield 0, .null, 8, [(10, 0)]), (.ifCond .ge 0, .null, 19, []), (.aload 0, .null, 0, []), (.getfield 0, .null, 2, [(10, 0)]), (.aload 0, .null, 0, []), (.getfield 0, .null, 0, [(10, 0)]), (.arraylength, .null, 0, []), (.if_icmp .lt 0, .null, 20, [])]),
  (19, 20, [(.return_, .null, 0, [])]),
  (20, 46, [(.aload 0, .null, 0, []), (.getfield 0, .null, 0, [(10, 0)]), (.aload 0, .null, 0, []), (.getfield 0, .null, 2, [(10, 0)]), (.iload 1, .null, 0, []), (.iload 2, .null, 0, []), (.nop, .int 8, 0, []), (.ishl, .null, 0, []), (.ior, .null, 0, []), (.iastore, .null, 0, []), (.aload 0, .null, 0, []), (.dup, .null, 0, []), (.getfield 0, .null, 2, [(10, 0)]), (.nop, .int 1, 0, []), (.iadd, .null, 0, []), (.putfield 0, .null, 2, [(10, 0)]), (.return_, .null, 0, [])])])
/-- 142: OverFence$Yard.sees(C)Z -/
def mc_142 : am_M := (2, 0, [(0, 35, [(.aload 0, .null, 0, []), (.getfield 0, .null, 8, [(10, 0)]), (.ifCond .ge 0, .null, 35, []), (.aload 0, .null, 0, []), (.getfield 0, .null, 7, [(10, 0)]), (.aload 0, .null, 0, []), (.getfield 0, .null, 6, [(10, 0)]), (.if_icmp .ge 0, .null, 35, []), (.aload 0, .null, 0, []), (.getfield 0, .null, 5, [(10, 0)]), (.aload 0, .null, 0, []), (.getfield 0, .null, 7, [(10, 0)]), (.baload, .null, 1, []), (.iload 1, .null, 0, []), (.if_icmp .ne 0, .null, 35, []), (.nop, .int 1, 0, []), (.goto 0, .null, 36, [])]),
  (35, 36, [(.nop, .int 0, 0, [])]),
  (36, 37, [(.freturn, .null, 0, [])])])
/-- 143: OverFence$Yard.seesDigit()Z -/
def mc_143 : am_M := (1, 0, [(0, 50, [(.aload 0, .null, 0, []), (.getfield 0, .null, 8, [(10, 0)]), (.ifCond .ge 0, .null, 50, []), (.aload 0, .null, 0, []), (.getfield 0, .null, 7, [(10, 0)]), (.aload 0, .null, 0, []), (.getfield 0, .null, 6, [(10, 0)]), (.if_icmp .ge 0, .null, 50, []), (.aload 0, .null, 0, []), (.getfield 0, .null, 5, [(10, 0)]), (.aload 0, .null, 0, []), (.getfield 0, .null, 7, [(10, 0)]), (.baload, .null, 1, []), (.nop, .int 48, 0, []), (.if_icmp .lt 0, .null, 50, []), (.aload 0, .null, 0, []), (.getfield 0, .null, 5, [(10, 0)]), (.aload 0, .null, 0, []), (.getfield 0, .null, 7, [(10, 0)]), (.baload, .null, 1, []), (.nop, .int 57, 0, []), (.if_icmp .gt 0, .null, 50, []), (.nop, .int 1, 0, []), (.goto 0, .null, 51, [])]),
  (50, 51, [(.nop, .int 0, 0, [])]),
  (51, 52, [(.freturn, .null, 0, [])])])
/-- 144: OverFence$Yard.skip(C)V -/
def mc_144 : am_M := (2, 0, [(0, 21, [(.aload 0, .null, 0, []), (.iload 1, .null, 0, []), (.invokevirtual 0, .retAddr 0, 2, [(10, 142)]), (.ifCond .eq 0, .null, 21, []), (.aload 0, .null, 0, []), (.dup, .null, 0, []), (.getfield 0, .null, 7, [(10, 0)]), (.nop, .int 1, 0, []), (.iadd, .null, 0, []), (.putfield 0, .null, 7, [(10, 0)]), (.goto 0, .null, 25, [])]),
  (21, 25, [(.aload 0, .null, 0, []), (.invokevirtual 0, .retAddr 0, 1, [(10, 145)])]),
  (25, 26, [(.return_, .null, 0, [])])])
/-- 145: OverFence$Yard.fail()V -/
def mc_145 : am_M := (1, 0, [(0, 15, [(.aload 0, .null, 0, []), (.getfield 0, .null, 8, [(10, 0)]), (.ifCond .ge 0, .null, 15, []), (.aload 0, .null, 0, []), (.aload 0, .null, 0, []), (.getfield 0, .null, 7, [(10, 0)]), (.putfield 0, .null, 8, [(10, 0)])]),
  (15, 16, [(.return_, .null, 0, [])])])
/-- 146: OverFence.<init>()V -/
def mc_146 : am_M := (1, 44, [(0, 71, [(.aload 0, .null, 0, []), (.pop2, .null, 0, []), (.aload 0, .null, 0, []), (.new 0, .null, 6, []), (.dup, .null, 0, []), (.invokespecial 0, .retAddr 11, 1, [(0, 101)]), (.putfield 0, .null, 0, [(11, 3)]), (.aload 0, .null, 0, []), (.new 0, .null, 6, []), (.dup, .null, 0, []), (.invokespecial 0, .retAddr 11, 1, [(0, 101)]), (.putfield 0, .null, 1, [(11, 3)]), (.aload 0, .null, 0, []), (.new 0, .null, 6, []), (.dup, .null, 0, []), (.invokespecial 0, .retAddr 11, 1, [(0, 101)]), (.putfield 0, .null, 2, [(11, 3)]), (.aload 0, .null, 0, []), (.new 0, .null, 10, []), (.dup, .null, 0, []), (.invokespecial 0, .retAddr 2, 1, [(0, 127)]), (.putfield 0, .null, 3, [(11, 3)]), (.aload 0, .null, 0, []), (.new 0, .null, 1, []), (.dup, .null, 0, []), (.invokespecial 0, .retAddr 2, 1, [(0, 73)]), (.putfield 0, .null, 4, [(11, 3)]), (.aload 0, .null, 0, []), (.new 0, .null, 8, []), (.dup, .null, 0, []), (.invokespecial 0, .retAddr 1, 1, [(0, 121)]), (.putfield 0, .null, 5, [(11, 3)]), (.return_, .null, 0, [])])])
/-- 147: OverFence.feed(I)I -/
def mc_147 : am_M := (2, 0, [(0, 10, [(.iload 1, .null, 0, []), (.ifCond .lt 0, .null, 10, []), (.iload 1, .null, 0, []), (.nop, .int 127, 0, []), (.if_icmp .le 0, .null, 13, [])]),
  (10, 13, [(.nop, .int (-2), 0, []), (.ireturn, .null, 0, [])]),
  (13, 28, [(.aload 0, .null, 0, []), (.getfield 0, .null, 0, [(11, 0)]), (.getfield 0, .null, 6, [(6, 0)]), (.nop, .int 100, 0, []), (.if_icmp .lt 0, .null, 28, []), (.nop, .int (-4), 0, []), (.ireturn, .null, 0, [])]),
  (28, 66, [(.aload 0, .null, 0, []), (.getfield 0, .null, 0, [(11, 0)]), (.getfield 0, .null, 5, [(6, 0)]), (.aload 0, .null, 0, []), (.getfield 0, .null, 0, [(11, 0)]), (.getfield 0, .null, 6, [(6, 0)]), (.iload 1, .null, 0, []), (.i2b, .null, 0, []), (.bastore, .null, 1, []), (.aload 0, .null, 0, []), (.getfield 0, .null, 0, [(11, 0)]), (.dup, .null, 0, []), (.getfield 0, .null, 6, [(6, 0)]), (.nop, .int 1, 0, []), (.iadd, .null, 0, []), (.putfield 0, .null, 6, [(6, 0)]), (.aload 0, .null, 0, []), (.getfield 0, .null, 0, [(11, 0)]), (.getfield 0, .null, 6, [(6, 0)]), (.ireturn, .null, 0, [])])])
/-- 148: OverFence.yard()I -/
def mc_148 : am_M := (2, 0, [(0, 14, [(.aload 0, .null, 0, []), (.getfield 0, .null, 0, [(11, 0)]), (.getfield 0, .null, 8, [(6, 0)]), (.nop, .int 5, 0, []), (.if_icmp .lt 0, .null, 14, []), (.nop, .int (-4), 0, []), (.ireturn, .null, 0, [])]),
  (14, 53, [(.aload 0, .null, 0, []), (.getfield 0, .null, 3, [(11, 0)]), (.aload 0, .null, 0, []), (.getfield 0, .null, 0, [(11, 0)]), (.getfield 0, .null, 5, [(6, 0)]), (.aload 0, .null, 0, []), (.getfield 0, .null, 0, [(11, 0)]), (.getfield 0, .null, 6, [(6, 0)]), (.invokevirtual 0, .retAddr 0, 3, [(10, 131)]), (.istore 1, .null, 0, []), (.aload 0, .null, 0, []), (.getfield 0, .null, 0, [(11, 0)]), (.nop, .int 0, 0, []), (.putfield 0, .null, 6, [(6, 0)]), (.iload 1, .null, 0, []), (.ifCond .lt 0, .null, 53, []), (.nop, .int (-10), 0, []), (.iload 1, .null, 0, []), (.isub, .null, 0, []), (.ireturn, .null, 0, [])]),
  (53, 90, [(.aload 0, .null, 0, []), (.getfield 0, .null, 0, [(11, 0)]), (.getfield 0, .null, 7, [(6, 0)]), (.aload 0, .null, 0, []), (.getfield 0, .null, 3, [(11, 0)]), (.invokevirtual 0, .retAddr 0, 2, [(10, 128)]), (.aload 0, .null, 0, []), (.getfield 0, .null, 0, [(11, 0)]), (.dup, .null, 0, []), (.getfield 0, .null, 8, [(6, 0)]), (.nop, .int 1, 0, []), (.iadd, .null, 0, []), (.putfield 0, .null, 8, [(6, 0)]), (.aload 0, .null, 0, []), (.getfield 0, .null, 0, [(11, 0)]), (.getfield 0, .null, 8, [(6, 0)]), (.nop, .int 1, 0, []), (.isub, .null, 0, []), (.ireturn, .null, 0, [])])])
/-- 149: OverFence.boy(II)I -/
def mc_149 : am_M := (4, 1, [(0, 10, [(.iload 1, .null, 0, []), (.ifCond .lt 0, .null, 10, []), (.iload 1, .null, 0, []), (.nop, .int 7, 0, []), (.if_icmp .lt 0, .null, 12, [])]),
  (10, 12, [(.nop, .int (-1), 0, []), (.ireturn, .null, 0, [])]),
  (12, 22, [(.iload 2, .null, 0, []), (.ifCond .lt 0, .null, 22, []), (.iload 2, .null, 0, []), (.nop, .int 9, 0, []), (.if_icmp .le 0, .null, 25, [])]),
  (22, 25, [(.nop, .int (-2), 0, []), (.ireturn, .null, 0, [])]),
  (25, 39, [(.aload 0, .null, 0, []), (.getfield 0, .null, 0, [(11, 0)]), (.getfield 0, .null, 4, [(6, 0)]), (.nop, .int 5, 0, []), (.if_icmp .lt 0, .null, 39, []), (.nop, .int (-4), 0, []), (.ireturn, .null, 0, [])]),
  (39, 77, [(.aload 0, .null, 0, []), (.getfield 0, .null, 0, [(11, 0)]), (.getfield 0, .null, 4, [(6, 0)]), (.istore 3, .null, 0, []), (.aload 0, .null, 0, []), (.getfield 0, .null, 0, [(11, 0)]), (.getfield 0, .null, 2, [(6, 0)]), (.iload 3, .null, 0, []), (.iload 1, .null, 0, []), (.iload 3, .null, 0, []), (.iload 2, .null, 0, []), (.invokestatic 0, .retAddr 1, 3, [(0, 179)]), (.aastore, .null, 0, []), (.aload 0, .null, 0, []), (.getfield 0, .null, 0, [(11, 0)]), (.dup, .null, 0, []), (.getfield 0, .null, 4, [(6, 0)]), (.nop, .int 1, 0, []), (.iadd, .null, 0, []), (.putfield 0, .null, 4, [(6, 0)]), (.iload 3, .null, 0, []), (.ireturn, .null, 0, [])])])
/-- 150: OverFence.of(II)I -/
def mc_150 : am_M := (4, 0, [(0, 15, [(.aload 0, .null, 0, []), (.getfield 0, .null, 0, [(11, 0)]), (.iload 1, .null, 0, []), (.invokevirtual 0, .retAddr 0, 2, [(6, 103)]), (.astore 3, .null, 0, []), (.aload 3, .null, 0, []), (.ifnonnull 0, .null, 15, []), (.nop, .int (-1), 0, []), (.ireturn, .null, 0, [])]),
  (15, 44, [(.iload 2, .null, 0, []), (.lookupswitch 0 #[], .null, 67, [(0, 44), (1, 49), (2, 54)])]),
  (44, 49, [(.aload 3, .null, 0, []), (.invokevirtual 0, .retAddr 0, 1, [(3, 87), (2, 83), (4, 94), (7, 118), (9, 124), (0, 70), (5, 98)]), (.ireturn, .null, 0, [])]),
  (49, 54, [(.aload 3, .null, 0, []), (.getfield 0, .null, 1, [(3, 0), (2, 0), (4, 0), (7, 0), (9, 0), (0, 0), (5, 0)]), (.ireturn, .null, 0, [])]),
  (54, 67, [(.aload 0, .null, 0, []), (.getfield 0, .null, 0, [(11, 0)]), (.getfield 0, .null, 3, [(6, 0)]), (.aload 3, .null, 0, []), (.getfield 0, .null, 0, [(3, 0), (2, 0), (4, 0), (7, 0), (9, 0), (0, 0), (5, 0)]), (.iaload, .null, 0, []), (.ireturn, .null, 0, [])]),
  (67, 69, [(.nop, .int (-1), 0, []), (.ireturn, .null, 0, [])])])
/-- 151: OverFence.bed(II)I -/
def mc_151 : am_M := (4, 0, [(0, 10, [(.iload 1, .null, 0, []), (.ifCond .lt 0, .null, 10, []), (.iload 1, .null, 0, []), (.nop, .int 10, 0, []), (.if_icmp .lt 0, .null, 12, [])]),
  (10, 12, [(.nop, .int (-1), 0, []), (.ireturn, .null, 0, [])]),
  (12, 21, [(.iload 2, .null, 0, []), (.ifCond .lt 0, .null, 21, []), (.iload 2, .null, 0, []), (.nop, .int 4, 0, []), (.if_icmp .lt 0, .null, 24, [])]),
  (21, 24, [(.nop, .int (-2), 0, []), (.ireturn, .null, 0, [])]),
  (24, 46, [(.aload 0, .null, 0, []), (.getfield 0, .null, 0, [(11, 0)]), (.getfield 0, .null, 1, [(6, 0)]), (.iload 1, .null, 0, []), (.iaload, .null, 0, []), (.istore 3, .null, 0, []), (.aload 0, .null, 0, []), (.getfield 0, .null, 0, [(11, 0)]), (.getfield 0, .null, 1, [(6, 0)]), (.iload 1, .null, 0, []), (.iload 2, .null, 0, []), (.iastore, .null, 0, []), (.iload 3, .null, 0, []), (.ireturn, .null, 0, [])])])
/-- 152: OverFence.set(II)I -/
def mc_152 : am_M := (4, 0, [(0, 12, [(.iload 1, .null, 0, []), (.ifCond .lt 0, .null, 12, []), (.iload 1, .null, 0, []), (.nop, .retAddr 41, 0, []), (.castore, .null, 0, []), (.if_icmp .lt 0, .null, 14, [])]),
  (12, 14, [(.nop, .int (-1), 0, []), (.ireturn, .null, 0, [])]),
  (14, 27, [(.iload 2, .null, 0, []), (.ifCond .lt 0, .null, 27, []), (.iload 2, .null, 0, []), (.nop, .retAddr 41, 0, []), (.iload 1, .null, 0, []), (.faload, .null, 0, []), (.if_icmp .le 0, .null, 30, [])]),
  (27, 30, [(.nop, .int (-2), 0, []), (.ireturn, .null, 0, [])]),
  (30, 52, [(.aload 0, .null, 0, []), (.getfield 0, .null, 0, [(11, 0)]), (.getfield 0, .null, 0, [(6, 0)]), (.iload 1, .null, 0, []), (.iaload, .null, 0, []), (.istore 3, .null, 0, []), (.aload 0, .null, 0, []), (.getfield 0, .null, 0, [(11, 0)]), (.getfield 0, .null, 0, [(6, 0)]), (.iload 1, .null, 0, []), (.iload 2, .null, 0, []), (.iastore, .null, 0, []), (.iload 3, .null, 0, []), (.ireturn, .null, 0, [])])])
/-- 153: OverFence.told(I)I -/
def mc_153 : am_M := (2, 0, [(0, 26, [(.iload 1, .null, 0, []), (.ifCond .lt 0, .null, 26, []), (.iload 1, .null, 0, []), (.aload 0, .null, 0, []), (.getfield 0, .null, 0, [(11, 0)]), (.getfield 0, .null, 0, [(6, 0)]), (.arraylength, .null, 0, []), (.if_icmp .ge 0, .null, 26, []), (.aload 0, .null, 0, []), (.getfield 0, .null, 0, [(11, 0)]), (.getfield 0, .null, 0, [(6, 0)]), (.iload 1, .null, 0, []), (.iaload, .null, 0, []), (.ireturn, .null, 0, [])]),
  (26, 43, [(.iload 1, .null, 0, []), (.nop, .int 10, 0, []), (.if_icmp .ne 0, .null, 43, []), (.aload 0, .null, 0, []), (.getfield 0, .null, 0, [(11, 0)]), (.getfield 0, .null, 7, [(6, 0)]), (.getfield 0, .null, 3, [(10, 0)]), (.ireturn, .null, 0, [])]),
  (43, 60, [(.iload 1, .null, 0, []), (.nop, .int 11, 0, []), (.if_icmp .ne 0, .null, 60, []), (.aload 0, .null, 0, []), (.getfield 0, .null, 0, [(11, 0)]), (.getfield 0, .null, 7, [(6, 0)]), (.getfield 0, .null, 4, [(10, 0)]), (.ireturn, .null, 0, [])]),
  (60, 85, [(.iload 1, .null, 0, []), (.nop, .int 20, 0, []), (.if_icmp .lt 0, .null, 85, []), (.iload 1, .null, 0, []), (.nop, .int 30, 0, []), (.if_icmp .ge 0, .null, 85, []), (.aload 0, .null, 0, []), (.getfield 0, .null, 0, [(11, 0)]), (.getfield 0, .null, 1, [(6, 0)]), (.iload 1, .null, 0, []), (.nop, .int 20, 0, []), (.isub, .null, 0, []), (.iaload, .null, 0, []), (.ireturn, .null, 0, [])]),
  (85, 87, [(.nop, .int (-1), 0, []), (.ireturn, .null, 0, [])])])
/-- 154: OverFence.height(II)I -/
def mc_154 : am_M := (4, 0, [(0, 17, [(.aload 0, .null, 0, []), (.getfield 0, .null, 0, [(11, 0)]), (.iload 1, .null, 0, []), (.invokevirtual 0, .retAddr 0, 2, [(6, 103)]), (.astore 3, .null, 0, []), (.aload 3, .null, 0, []), (.ifnonnull 0, .null, 17, []), (.nop, .int (-1001), 0, []), (.ireturn, .null, 0, [])]),
  (17, 28, [(.iload 2, .null, 0, []), (.invokestatic 0, .retAddr 0, 1, [(0, 175)]), (.ifCond .ne 0, .null, 28, []), (.nop, .int (-1002), 0, []), (.ireturn, .null, 0, [])]),
  (28, 56, [(.aload 0, .null, 0, []), (.getfield 0, .null, 0, [(11, 0)]), (.aload 3, .null, 0, []), (.iload 2, .null, 0, []), (.aload 0, .null, 0, []), (.getfield 0, .null, 0, [(11, 0)]), (.getfield 0, .null, 0, [(6, 0)]), (.nop, .int 0, 0, []), (.iaload, .null, 0, []), (.aload 0, .null, 0, []), (.getfield 0, .null, 0, [(11, 0)]), (.getfield 0, .null, 0, [(6, 0)]), (.nop, .int 1, 0, []), (.iaload, .null, 0, []), (.invokevirtual 0, .retAddr 0, 5, [(6, 106)]), (.ireturn, .null, 0, [])])])
/-- 155: OverFence.falls(II)I -/
def mc_155 : am_M := (4, 0, [(0, 15, [(.aload 0, .null, 0, []), (.getfield 0, .null, 0, [(11, 0)]), (.iload 1, .null, 0, []), (.invokevirtual 0, .retAddr 0, 2, [(6, 103)]), (.astore 3, .null, 0, []), (.aload 3, .null, 0, []), (.ifnonnull 0, .null, 15, []), (.nop, .int (-1), 0, []), (.ireturn, .null, 0, [])]),
  (15, 25, [(.iload 2, .null, 0, []), (.invokestatic 0, .retAddr 0, 1, [(0, 175)]), (.ifCond .ne 0, .null, 25, []), (.nop, .int (-2), 0, []), (.ireturn, .null, 0, [])]),
  (25, 49, [(.aload 0, .null, 0, []), (.getfield 0, .null, 0, [(11, 0)]), (.aload 3, .null, 0, []), (.iload 2, .null, 0, []), (.invokevirtual 0, .retAddr 0, 3, [(6, 107)]), (.ifCond .eq 0, .null, 49, []), (.aload 0, .null, 0, []), (.getfield 0, .null, 0, [(11, 0)]), (.aload 3, .null, 0, []), (.iload 2, .null, 0, []), (.invokevirtual 0, .retAddr 0, 3, [(6, 108)]), (.goto 0, .null, 51, [])]),
  (49, 51, [(.nop, .int (-5), 0, [])]),
  (51, 52, [(.ireturn, .null, 0, [])])])
/-- 156: OverFence.kick(II)I -/
def mc_156 : am_M := (4, 0, [(0, 15, [(.aload 0, .null, 0, []), (.getfield 0, .null, 0, [(11, 0)]), (.iload 1, .null, 0, []), (.invokevirtual 0, .retAddr 0, 2, [(6, 103)]), (.astore 3, .null, 0, []), (.aload 3, .null, 0, []), (.ifnonnull 0, .null, 15, []), (.nop, .int (-1), 0, []), (.ireturn, .null, 0, [])]),
  (15, 25, [(.iload 2, .null, 0, []), (.invokestatic 0, .retAddr 0, 1, [(0, 175)]), (.ifCond .ne 0, .null, 25, []), (.nop, .int (-2), 0, []), (.ireturn, .null, 0, [])]),
  (25, 40, [(.aload 0, .null, 0, []), (.getfield 0, .null, 0, [(11, 0)]), (.getfield 0, .null, 0, [(6, 0)]), (.nop, .int 3, 0, []), (.iaload, .null, 0, []), (.ifCond .gt 0, .null, 40, []), (.nop, .int (-3), 0, []), (.ireturn, .null, 0, [])]),
  (40, 50, [(.aload 0, .null, 0, []), (.getfield 0, .null, 0, [(11, 0)]), (.aload 3, .null, 0, []), (.iload 2, .null, 0, []), (.invokevirtual 0, .retAddr 0, 3, [(6, 111)]), (.ireturn, .null, 0, [])])])
/-- 157: OverFence.night()I -/
def mc_157 : am_M := (1, 0, [(0, 19, [(.aload 0, .null, 0, []), (.getfield 0, .null, 0, [(11, 0)]), (.getfield 0, .null, 0, [(6, 0)]), (.nop, .int 9, 0, []), (.iaload, .null, 0, []), (.nop, .int 999, 0, []), (.if_icmp .lt 0, .null, 19, []), (.nop, .int (-3), 0, []), (.ireturn, .null, 0, [])]),
  (19, 37, [(.aload 0, .null, 0, []), (.getfield 0, .null, 0, [(11, 0)]), (.invokevirtual 0, .retAddr 0, 1, [(6, 112)]), (.aload 0, .null, 0, []), (.getfield 0, .null, 0, [(11, 0)]), (.getfield 0, .null, 0, [(6, 0)]), (.nop, .int 9, 0, []), (.iaload, .null, 0, []), (.ireturn, .null, 0, [])])])
/-- 158: OverFence.odds(III)J -/
def mc_158 : am_M := (7, 0, [(0, 31, [(.aload 0, .null, 0, []), (.getfield 0, .null, 0, [(11, 0)]), (.iload 1, .null, 0, []), (.invokevirtual 0, .retAddr 0, 2, [(6, 103)]), (.astore 4, .null, 0, []), (.aload 4, .null, 0, []), (.ifnull 0, .null, 31, []), (.iload 2, .null, 0, []), (.ifCond .lt 0, .null, 31, []), (.iload 2, .null, 0, []), (.nop, .int 5, 0, []), (.if_icmp .ge 0, .null, 31, []), (.iload 3, .null, 0, []), (.invokestatic 0, .retAddr 0, 1, [(0, 176)]), (.ifCond .ne 0, .null, 35, [])]),
  (31, 35, [(.nop, .long (-9223372036854775808), 0, []), (.lreturn, .null, 0, [])]),
  (35, 41, [(.nop, .int 0, 0, []), (.istore 5, .null, 0, []), (.nop, .int 0, 0, []), (.istore 6, .null, 0, [])]),
  (41, 66, [(.iload 6, .null, 0, []), (.nop, .int 10, 0, []), (.if_icmp .ge 0, .null, 72, []), (.aload 0, .null, 0, []), (.getfield 0, .null, 0, [(11, 0)]), (.aload 4, .null, 0, []), (.iload 6, .null, 0, []), (.invokevirtual 0, .retAddr 0, 3, [(6, 109)]), (.iload 2, .null, 0, []), (.if_icmp .ne 0, .null, 66, []), (.iinc 5 0, .int 1, 0, [])]),
  (66, 72, [(.iinc 6 0, .int 1, 0, []), (.goto 0, .null, 41, [])]),
  (72, 83, [(.iload 5, .null, 0, []), (.i2l, .null, 0, []), (.nop, .long 10, 0, []), (.iload 3, .null, 0, []), (.invokestatic 0, .retAddr 0, 3, [(0, 177)]), (.lreturn, .null, 0, [])])])
/-- 159: OverFence.turn(I)I -/
def mc_159 : am_M := (6, 0, [(0, 9, [(.iload 1, .null, 0, []), (.ifCond .lt 0, .null, 9, []), (.iload 1, .null, 0, []), (.nop, .int 1, 0, []), (.if_icmp .le 0, .null, 11, [])]),
  (9, 11, [(.nop, .int (-1), 0, []), (.ireturn, .null, 0, [])]),
  (11, 34, [(.nop, .int 0, 0, []), (.istore 2, .null, 0, []), (.aload 0, .null, 0, []), (.getfield 0, .null, 0, [(11, 0)]), (.nop, .int 0, 0, []), (.aload 0, .null, 0, []), (.getfield 0, .null, 0, [(11, 0)]), (.getfield 0, .null, 0, [(6, 0)]), (.nop, .int 1, 0, []), (.iaload, .null, 0, []), (.invokevirtual 0, .retAddr 0, 3, [(6, 113)]), (.istore 3, .null, 0, []), (.nop, .int 1, 0, []), (.istore 4, .null, 0, [])]),
  (34, 72, [(.iload 4, .null, 0, []), (.nop, .int 4, 0, []), (.if_icmp .ge 0, .null, 78, []), (.aload 0, .null, 0, []), (.getfield 0, .null, 0, [(11, 0)]), (.iload 4, .null, 0, []), (.aload 0, .null, 0, []), (.getfield 0, .null, 0, [(11, 0)]), (.getfield 0, .null, 0, [(6, 0)]), (.nop, .int 1, 0, []), (.iaload, .null, 0, []), (.invokevirtual 0, .retAddr 0, 3, [(6, 113)]), (.istore 5, .null, 0, []), (.iload 5, .null, 0, []), (.iload 3, .null, 0, []), (.if_icmp .ge 0, .null, 72, []), (.iload 4, .null, 0, []), (.istore 2, .null, 0, []), (.iload 5, .null, 0, []), (.istore 3, .null, 0, [])]),
  (72, 78, [(.iinc 4 0, .int 1, 0, []), (.goto 0, .null, 34, [])]),
  (78, 86, [(.iload 1, .null, 0, []), (.ifCond .ne 0, .null, 86, []), (.iload 2, .null, 0, []), (.goto 0, .null, 87, [])]),
  (86, 87, [(.iload 3, .null, 0, [])]),
  (87, 88, [(.ireturn, .null, 0, [])])])
/-- 160: OverFence.need(I)I -/
def mc_160 : am_M := (3, 0, [(0, 10, [(.iload 1, .null, 0, []), (.ifCond .lt 0, .null, 10, []), (.iload 1, .null, 0, []), (.nop, .int 50, 0, []), (.if_icmp .le 0, .null, 13, [])]),
  (10, 13, [(.nop, .int (-2), 0, []), (.ireturn, .null, 0, [])]),
  (13, 15, [(.nop, .int 0, 0, []), (.istore 2, .null, 0, [])]),
  (15, 44, [(.iload 2, .null, 0, []), (.nop, .int 20, 0, []), (.if_icmp .gt 0, .null, 50, []), (.aload 0, .null, 0, []), (.getfield 0, .null, 0, [(11, 0)]), (.aload 0, .null, 0, []), (.getfield 0, .null, 0, [(11, 0)]), (.getfield 0, .null, 0, [(6, 0)]), (.nop, .int 0, 0, []), (.iaload, .null, 0, []), (.iload 2, .null, 0, []), (.invokevirtual 0, .retAddr 0, 3, [(6, 113)]), (.iload 1, .null, 0, []), (.if_icmp .gt 0, .null, 44, []), (.iload 2, .null, 0, []), (.ireturn, .null, 0, [])]),
  (44, 50, [(.iinc 2 0, .int 1, 0, []), (.goto 0, .null, 15, [])]),
  (50, 53, [(.nop, .int (-5), 0, []), (.ireturn, .null, 0, [])])])
/-- 161: OverFence.bar(I)I -/
def mc_161 : am_M := (6, 0, [(0, 9, [(.iload 1, .null, 0, []), (.ifCond .lt 0, .null, 9, []), (.iload 1, .null, 0, []), (.nop, .int 1, 0, []), (.if_icmp .le 0, .null, 11, [])]),
  (9, 11, [(.nop, .int (-1), 0, []), (.ireturn, .null, 0, [])]),
  (11, 25, [(.nop, .int 0, 0, []), (.istore 2, .null, 0, []), (.aload 0, .null, 0, []), (.getfield 0, .null, 0, [(11, 0)]), (.nop, .int 0, 0, []), (.invokevirtual 0, .retAddr 0, 2, [(6, 114)]), (.istore 3, .null, 0, []), (.nop, .int 1, 0, []), (.istore 4, .null, 0, [])]),
  (25, 55, [(.iload 4, .null, 0, []), (.nop, .int 10, 0, []), (.if_icmp .ge 0, .null, 61, []), (.aload 0, .null, 0, []), (.getfield 0, .null, 0, [(11, 0)]), (.iload 4, .null, 0, []), (.invokevirtual 0, .retAddr 0, 2, [(6, 114)]), (.istore 5, .null, 0, []), (.iload 5, .null, 0, []), (.iload 3, .null, 0, []), (.if_icmp .le 0, .null, 55, []), (.iload 4, .null, 0, []), (.istore 2, .null, 0, []), (.iload 5, .null, 0, []), (.istore 3, .null, 0, [])]),
  (55, 61, [(.iinc 4 0, .int 1, 0, []), (.goto 0, .null, 25, [])]),
  (61, 69, [(.iload 1, .null, 0, []), (.ifCond .ne 0, .null, 69, []), (.iload 2, .null, 0, []), (.goto 0, .null, 70, [])]),
  (69, 70, [(.iload 3, .null, 0, [])]),
  (70, 71, [(.ireturn, .null, 0, [])])])
/-- 162: OverFence.round(III)J -/
def mc_162 : am_M := (4, 0, [(0, 26, [(.iload 1, .null, 0, []), (.ifCond .lt 0, .null, 26, []), (.iload 1, .null, 0, []), (.nop, .int 12, 0, []), (.if_icmp .gt 0, .null, 26, []), (.iload 2, .null, 0, []), (.ifCond .lt 0, .null, 26, []), (.iload 2, .null, 0, []), (.nop, .int 3, 0, []), (.if_icmp .gt 0, .null, 26, []), (.iload 3, .null, 0, []), (.invokestatic 0, .retAddr 0, 1, [(0, 176)]), (.ifCond .ne 0, .null, 30, [])]),
  (26, 30, [(.nop, .long (-9223372036854775808), 0, []), (.lreturn, .null, 0, [])]),
  (30, 75, [(.aload 0, .null, 0, []), (.getfield 0, .null, 4, [(11, 0)]), (.aload 0, .null, 0, []), (.getfield 0, .null, 0, [(11, 0)]), (.iload 1, .null, 0, []), (.aload 0, .null, 0, []), (.getfield 0, .null, 0, [(11, 0)]), (.getfield 0, .null, 0, [(6, 0)]), (.nop, .int 2, 0, []), (.iaload, .null, 0, []), (.invokevirtual 0, .retAddr 0, 4, [(1, 75)]), (.aload 0, .null, 0, []), (.getfield 0, .null, 4, [(11, 0)]), (.aload 0, .null, 0, []), (.getfield 0, .null, 0, [(11, 0)]), (.iload 2, .null, 0, []), (.invokevirtual 0, .retAddr 0, 3, [(1, 80)]), (.aload 0, .null, 0, []), (.getfield 0, .null, 4, [(11, 0)]), (.getfield 0, .null, 2, [(1, 0)]), (.iload 3, .null, 0, []), (.invokestatic 0, .retAddr 0, 3, [(0, 177)]), (.lreturn, .null, 0, [])])])
/-- 163: OverFence.rule(I)I -/
def mc_163 : am_M := (8, 0, [(0, 10, [(.iload 1, .null, 0, []), (.ifCond .lt 0, .null, 10, []), (.iload 1, .null, 0, []), (.nop, .int 12, 0, []), (.if_icmp .le 0, .null, 13, [])]),
  (10, 13, [(.nop, .int (-2), 0, []), (.ireturn, .null, 0, [])]),
  (13, 22, [(.nop, .int 0, 0, []), (.istore 2, .null, 0, []), (.nop, .long 9223372036854775807, 0, []), (.lstore 3, .null, 0, []), (.nop, .int 0, 0, []), (.istore 5, .null, 0, [])]),
  (22, 70, [(.iload 5, .null, 0, []), (.nop, .int 9, 0, []), (.if_icmp .gt 0, .null, 76, []), (.aload 0, .null, 0, []), (.getfield 0, .null, 4, [(11, 0)]), (.aload 0, .null, 0, []), (.getfield 0, .null, 0, [(11, 0)]), (.iload 1, .null, 0, []), (.iload 5, .null, 0, []), (.invokevirtual 0, .retAddr 0, 4, [(1, 75)]), (.aload 0, .null, 0, []), (.getfield 0, .null, 4, [(11, 0)]), (.aload 0, .null, 0, []), (.getfield 0, .null, 0, [(11, 0)]), (.nop, .int 3, 0, []), (.invokevirtual 0, .retAddr 0, 3, [(1, 80)]), (.lstore 6, .null, 0, []), (.lload 6, .null, 0, []), (.lload 3, .null, 0, []), (.lcmp, .null, 0, []), (.ifCond .ge 0, .null, 70, []), (.iload 5, .null, 0, []), (.istore 2, .null, 0, []), (.lload 6, .null, 0, []), (.lstore 3, .null, 0, [])]),
  (70, 76, [(.iinc 5 0, .int 1, 0, []), (.goto 0, .null, 22, [])]),
  (76, 78, [(.iload 2, .null, 0, []), (.ireturn, .null, 0, [])])])
/-- 164: OverFence.owes(III)J -/
def mc_164 : am_M := (6, 0, [(0, 31, [(.aload 0, .null, 0, []), (.getfield 0, .null, 0, [(11, 0)]), (.iload 1, .null, 0, []), (.invokevirtual 0, .retAddr 0, 2, [(6, 103)]), (.astore 4, .null, 0, []), (.aload 4, .null, 0, []), (.ifnull 0, .null, 31, []), (.iload 2, .null, 0, []), (.ifCond .lt 0, .null, 31, []), (.iload 2, .null, 0, []), (.nop, .int 2, 0, []), (.if_icmp .gt 0, .null, 31, []), (.iload 3, .null, 0, []), (.invokestatic 0, .retAddr 0, 1, [(0, 176)]), (.ifCond .ne 0, .null, 35, [])]),
  (31, 35, [(.nop, .long (-9223372036854775808), 0, []), (.lreturn, .null, 0, [])]),
  (35, 65, [(.iload 2, .null, 0, []), (.nop, .int 1, 0, []), (.if_icmp .ne 0, .null, 65, []), (.nop, .long 400, 0, []), (.aload 0, .null, 0, []), (.getfield 0, .null, 0, [(11, 0)]), (.invokevirtual 0, .retAddr 0, 1, [(6, 105)]), (.i2l, .null, 0, []), (.lmul, .null, 0, []), (.aload 0, .null, 0, []), (.getfield 0, .null, 0, [(11, 0)]), (.getfield 0, .null, 4, [(6, 0)]), (.i2l, .null, 0, []), (.iload 3, .null, 0, []), (.invokestatic 0, .retAddr 0, 3, [(0, 177)]), (.lreturn, .null, 0, [])]),
  (65, 77, [(.iload 2, .null, 0, []), (.ifCond .ne 0, .null, 77, []), (.aload 4, .null, 0, []), (.getfield 0, .null, 0, [(3, 0), (2, 0), (4, 0), (7, 0), (9, 0), (0, 0), (5, 0)]), (.goto 0, .null, 89, [])]),
  (77, 89, [(.aload 0, .null, 0, []), (.getfield 0, .null, 0, [(11, 0)]), (.aload 4, .null, 0, []), (.getfield 0, .null, 0, [(3, 0), (2, 0), (4, 0), (7, 0), (9, 0), (0, 0), (5, 0)]), (.invokevirtual 0, .retAddr 0, 2, [(6, 104)])]),
  (89, 112, [(.istore 5, .null, 0, []), (.nop, .long 400, 0, []), (.aload 0, .null, 0, []), (.getfield 0, .null, 0, [(11, 0)]), (.getfield 0, .null, 3, [(6, 0)]), (.iload 5, .null, 0, []), (.iaload, .null, 0, []), (.i2l, .null, 0, []), (.lmul, .null, 0, []), (.nop, .long 1, 0, []), (.iload 3, .null, 0, []), (.invokestatic 0, .retAddr 0, 3, [(0, 177)]), (.lreturn, .null, 0, [])])])
/-- 165: OverFence.who(I)I -/
def mc_165 : am_M := (5, 0, [(0, 10, [(.iload 1, .null, 0, []), (.ifCond .lt 0, .null, 10, []), (.iload 1, .null, 0, []), (.nop, .int 10, 0, []), (.if_icmp .lt 0, .null, 12, [])]),
  (10, 12, [(.nop, .int (-1), 0, []), (.ireturn, .null, 0, [])]),
  (12, 16, [(.nop, .int 0, 0, []), (.istore 2, .null, 0, []), (.nop, .int 0, 0, []), (.istore 3, .null, 0, [])]),
  (16, 61, [(.iload 3, .null, 0, []), (.aload 0, .null, 0, []), (.getfield 0, .null, 0, [(11, 0)]), (.getfield 0, .null, 4, [(6, 0)]), (.if_icmp .ge 0, .null, 67, []), (.aload 0, .null, 0, []), (.getfield 0, .null, 0, [(11, 0)]), (.iload 3, .null, 0, []), (.invokevirtual 0, .retAddr 0, 2, [(6, 103)]), (.astore 4, .null, 0, []), (.aload 4, .null, 0, []), (.ifnull 0, .null, 61, []), (.aload 0, .null, 0, []), (.getfield 0, .null, 0, [(11, 0)]), (.aload 4, .null, 0, []), (.iload 1, .null, 0, []), (.invokevirtual 0, .retAddr 0, 3, [(6, 115)]), (.ifCond .le 0, .null, 61, []), (.iload 2, .null, 0, []), (.nop, .int 1, 0, []), (.iload 3, .null, 0, []), (.ishl, .null, 0, []), (.ior, .null, 0, []), (.istore 2, .null, 0, [])]),
  (61, 67, [(.iinc 3 0, .int 1, 0, []), (.goto 0, .null, 16, [])]),
  (67, 69, [(.iload 2, .null, 0, []), (.ireturn, .null, 0, [])])])
/-- 166: OverFence.cover(I)I -/
def mc_166 : am_M := (6, 0, [(0, 9, [(.iload 1, .null, 0, []), (.ifCond .lt 0, .null, 9, []), (.iload 1, .null, 0, []), (.nop, .int 1, 0, []), (.if_icmp .le 0, .null, 11, [])]),
  (9, 11, [(.nop, .int (-1), 0, []), (.ireturn, .null, 0, [])]),
  (11, 20, [(.nop, .int (-5), 0, []), (.istore 2, .null, 0, []), (.nop, .int (-5), 0, []), (.istore 3, .null, 0, []), (.nop, .int 0, 0, []), (.istore 4, .null, 0, [])]),
  (20, 44, [(.iload 4, .null, 0, []), (.nop, .int 10, 0, []), (.if_icmp .ge 0, .null, 73, []), (.aload 0, .null, 0, []), (.getfield 0, .null, 0, [(11, 0)]), (.getfield 0, .null, 1, [(6, 0)]), (.iload 4, .null, 0, []), (.iaload, .null, 0, []), (.nop, .int 2, 0, []), (.if_icmp .eq 0, .null, 44, []), (.goto 0, .null, 67, [])]),
  (44, 67, [(.aload 0, .null, 0, []), (.getfield 0, .null, 0, [(11, 0)]), (.iload 4, .null, 0, []), (.invokevirtual 0, .retAddr 0, 2, [(6, 116)]), (.istore 5, .null, 0, []), (.iload 5, .null, 0, []), (.iload 3, .null, 0, []), (.if_icmp .le 0, .null, 67, []), (.iload 4, .null, 0, []), (.istore 2, .null, 0, []), (.iload 5, .null, 0, []), (.istore 3, .null, 0, [])]),
  (67, 73, [(.iinc 4 0, .int 1, 0, []), (.goto 0, .null, 20, [])]),
  (73, 81, [(.iload 1, .null, 0, []), (.ifCond .ne 0, .null, 81, []), (.iload 2, .null, 0, []), (.goto 0, .null, 82, [])]),
  (81, 82, [(.iload 3, .null, 0, [])]),
  (82, 83, [(.ireturn, .null, 0, [])])])
/-- 167: OverFence.tale(III)I -/
def mc_167 : am_M := (4, 0, [(0, 15, [(.iload 1, .null, 0, []), (.nop, .int (-1), 0, []), (.if_icmp .ne 0, .null, 15, []), (.aload 0, .null, 0, []), (.getfield 0, .null, 0, [(11, 0)]), (.nop, .int 0, 0, []), (.putfield 0, .null, 12, [(6, 0)]), (.nop, .int 0, 0, []), (.ireturn, .null, 0, [])]),
  (15, 28, [(.aload 0, .null, 0, []), (.getfield 0, .null, 0, [(11, 0)]), (.iload 1, .null, 0, []), (.invokevirtual 0, .retAddr 0, 2, [(6, 103)]), (.ifnonnull 0, .null, 28, []), (.nop, .int (-1), 0, []), (.ireturn, .null, 0, [])]),
  (28, 44, [(.iload 2, .null, 0, []), (.invokestatic 0, .retAddr 0, 1, [(0, 175)]), (.ifCond .eq 0, .null, 44, []), (.iload 3, .null, 0, []), (.ifCond .lt 0, .null, 44, []), (.iload 3, .null, 0, []), (.nop, .int 5, 0, []), (.if_icmp .lt 0, .null, 47, [])]),
  (44, 47, [(.nop, .int (-2), 0, []), (.ireturn, .null, 0, [])]),
  (47, 62, [(.aload 0, .null, 0, []), (.getfield 0, .null, 0, [(11, 0)]), (.getfield 0, .null, 12, [(6, 0)]), (.nop, .int 12, 0, []), (.if_icmp .lt 0, .null, 62, []), (.nop, .int (-4), 0, []), (.ireturn, .null, 0, [])]),
  (62, 131, [(.aload 0, .null, 0, []), (.getfield 0, .null, 0, [(11, 0)]), (.getfield 0, .null, 9, [(6, 0)]), (.aload 0, .null, 0, []), (.getfield 0, .null, 0, [(11, 0)]), (.getfield 0, .null, 12, [(6, 0)]), (.iload 1, .null, 0, []), (.iastore, .null, 0, []), (.aload 0, .null, 0, []), (.getfield 0, .null, 0, [(11, 0)]), (.getfield 0, .null, 10, [(6, 0)]), (.aload 0, .null, 0, []), (.getfield 0, .null, 0, [(11, 0)]), (.getfield 0, .null, 12, [(6, 0)]), (.iload 2, .null, 0, []), (.iastore, .null, 0, []), (.aload 0, .null, 0, []), (.getfield 0, .null, 0, [(11, 0)]), (.getfield 0, .null, 11, [(6, 0)]), (.aload 0, .null, 0, []), (.getfield 0, .null, 0, [(11, 0)]), (.getfield 0, .null, 12, [(6, 0)]), (.iload 3, .null, 0, []), (.iastore, .null, 0, []), (.aload 0, .null, 0, []), (.getfield 0, .null, 0, [(11, 0)]), (.dup, .null, 0, []), (.getfield 0, .null, 12, [(6, 0)]), (.nop, .int 1, 0, []), (.iadd, .null, 0, []), (.putfield 0, .null, 12, [(6, 0)]), (.aload 0, .null, 0, []), (.getfield 0, .null, 0, [(11, 0)]), (.getfield 0, .null, 12, [(6, 0)]), (.ireturn, .null, 0, [])])])
/-- 168: OverFence.looked()I -/
def mc_168 : am_M := (3, 0, [(0, 13, [(.aload 0, .null, 0, []), (.getfield 0, .null, 2, [(11, 0)]), (.aload 0, .null, 0, []), (.getfield 0, .null, 0, [(11, 0)]), (.invokevirtual 0, .retAddr 0, 2, [(6, 102)]), (.nop, .int 0, 0, []), (.istore 1, .null, 0, [])]),
  (13, 57, [(.iload 1, .null, 0, []), (.aload 0, .null, 0, []), (.getfield 0, .null, 2, [(11, 0)]), (.getfield 0, .null, 12, [(6, 0)]), (.if_icmp .ge 0, .null, 96, []), (.aload 0, .null, 0, []), (.getfield 0, .null, 2, [(11, 0)]), (.aload 0, .null, 0, []), (.getfield 0, .null, 2, [(11, 0)]), (.getfield 0, .null, 9, [(6, 0)]), (.iload 1, .null, 0, []), (.iaload, .null, 0, []), (.invokevirtual 0, .retAddr 0, 2, [(6, 103)]), (.astore 2, .null, 0, []), (.aload 2, .null, 0, []), (.ifnull 0, .null, 57, []), (.aload 0, .null, 0, []), (.getfield 0, .null, 2, [(11, 0)]), (.getfield 0, .null, 0, [(6, 0)]), (.nop, .int 3, 0, []), (.iaload, .null, 0, []), (.ifCond .gt 0, .null, 59, [])]),
  (57, 59, [(.iload 1, .null, 0, []), (.ireturn, .null, 0, [])]),
  (59, 90, [(.aload 0, .null, 0, []), (.getfield 0, .null, 2, [(11, 0)]), (.aload 2, .null, 0, []), (.aload 0, .null, 0, []), (.getfield 0, .null, 2, [(11, 0)]), (.getfield 0, .null, 10, [(6, 0)]), (.iload 1, .null, 0, []), (.iaload, .null, 0, []), (.invokevirtual 0, .retAddr 0, 3, [(6, 111)]), (.aload 0, .null, 0, []), (.getfield 0, .null, 2, [(11, 0)]), (.getfield 0, .null, 11, [(6, 0)]), (.iload 1, .null, 0, []), (.iaload, .null, 0, []), (.if_icmp .eq 0, .null, 90, []), (.iload 1, .null, 0, []), (.ireturn, .null, 0, [])]),
  (90, 96, [(.iinc 1 0, .int 1, 0, []), (.goto 0, .null, 13, [])]),
  (96, 99, [(.nop, .int (-5), 0, []), (.ireturn, .null, 0, [])])])
/-- 169: OverFence.act(III)I -/
def mc_169 : am_M := (5, 0, [(0, 25, [(.aload 0, .null, 0, []), (.getfield 0, .null, 5, [(11, 0)]), (.nop, .int 0, 0, []), (.putfield 0, .null, 1, [(8, 0)]), (.aload 0, .null, 0, []), (.getfield 0, .null, 0, [(11, 0)]), (.iload 1, .null, 0, []), (.invokevirtual 0, .retAddr 0, 2, [(6, 103)]), (.astore 4, .null, 0, []), (.aload 4, .null, 0, []), (.ifnonnull 0, .null, 25, []), (.nop, .int 0, 0, []), (.ireturn, .null, 0, [])]),
  (25, 52, [(.iload 2, .null, 0, []), (.lookupswitch 0 #[], .null, 85, [(0, 52), (1, 63), (2, 74)])]),
  (52, 63, [(.aload 4, .null, 0, []), (.iload 3, .null, 0, []), (.aload 0, .null, 0, []), (.getfield 0, .null, 5, [(11, 0)]), (.invokevirtual 0, .retAddr 0, 3, [(3, 90), (2, 85), (4, 90), (7, 90), (9, 85), (0, 72), (5, 90)]), (.ireturn, .null, 0, [])]),
  (63, 74, [(.aload 4, .null, 0, []), (.iload 3, .null, 0, []), (.aload 0, .null, 0, []), (.getfield 0, .null, 5, [(11, 0)]), (.invokevirtual 0, .retAddr 0, 3, [(3, 91), (2, 91), (4, 96), (7, 91), (9, 91), (0, 96), (5, 100)]), (.ireturn, .null, 0, [])]),
  (74, 85, [(.aload 4, .null, 0, []), (.iload 3, .null, 0, []), (.aload 0, .null, 0, []), (.getfield 0, .null, 5, [(11, 0)]), (.invokevirtual 0, .retAddr 0, 3, [(3, 92), (2, 92), (4, 92), (7, 120), (9, 126), (0, 92), (5, 120)]), (.ireturn, .null, 0, [])]),
  (85, 87, [(.nop, .int 0, 0, []), (.ireturn, .null, 0, [])])])
/-- 170: OverFence.trace(I)I -/
def mc_170 : am_M := (2, 0, [(0, 27, [(.iload 1, .null, 0, []), (.ifCond .lt 0, .null, 27, []), (.iload 1, .null, 0, []), (.aload 0, .null, 0, []), (.getfield 0, .null, 5, [(11, 0)]), (.getfield 0, .null, 1, [(8, 0)]), (.if_icmp .ge 0, .null, 27, []), (.iload 1, .null, 0, []), (.aload 0, .null, 0, []), (.getfield 0, .null, 5, [(11, 0)]), (.getfield 0, .null, 0, [(8, 0)]), (.arraylength, .null, 0, []), (.if_icmp .lt 0, .null, 29, [])]),
  (27, 29, [(.nop, .int (-1), 0, []), (.ireturn, .null, 0, [])]),
  (29, 39, [(.aload 0, .null, 0, []), (.getfield 0, .null, 5, [(11, 0)]), (.getfield 0, .null, 0, [(8, 0)]), (.iload 1, .null, 0, []), (.iaload, .null, 0, []), (.ireturn, .null, 0, [])])])
/-- 171: OverFence.as(II)I -/
def mc_171 : am_M := (4, 0, [(0, 23, [(.aload 0, .null, 0, []), (.getfield 0, .null, 0, [(11, 0)]), (.iload 1, .null, 0, []), (.invokevirtual 0, .retAddr 0, 2, [(6, 103)]), (.astore 3, .null, 0, []), (.aload 3, .null, 0, []), (.ifnull 0, .null, 23, []), (.iload 2, .null, 0, []), (.ifCond .lt 0, .null, 23, []), (.iload 2, .null, 0, []), (.nop, .int 7, 0, []), (.if_icmp .lt 0, .null, 25, [])]),
  (23, 25, [(.nop, .int (-1), 0, []), (.ireturn, .null, 0, [])]),
  (25, 40, [(.aload 3, .null, 0, []), (.iload 2, .null, 0, []), (.invokestatic 0, .retAddr 0, 2, [(0, 180)]), (.ifCond .eq 0, .null, 40, []), (.aload 3, .null, 0, []), (.getfield 0, .null, 1, [(3, 0), (2, 0), (4, 0), (7, 0), (9, 0), (0, 0), (5, 0)]), (.goto 0, .null, 42, [])]),
  (40, 42, [(.nop, .int (-6), 0, [])]),
  (42, 43, [(.ireturn, .null, 0, [])])])
/-- 172: OverFence.image()I -/
def mc_172 : am_M := (1, 0, [(0, 24, [(.aload 0, .null, 0, []), (.getfield 0, .null, 1, [(11, 0)]), (.aload 0, .null, 0, []), (.getfield 0, .null, 0, [(11, 0)]), (.invokevirtual 0, .retAddr 0, 2, [(6, 102)]), (.aload 0, .null, 0, []), (.nop, .int 1, 0, []), (.putfield 0, .null, 6, [(11, 1)]), (.aload 0, .null, 0, []), (.getfield 0, .null, 0, [(11, 0)]), (.getfield 0, .null, 4, [(6, 0)]), (.ireturn, .null, 0, [])])])
/-- 173: OverFence.undo()I -/
def mc_173 : am_M := (1, 0, [(0, 10, [(.aload 0, .null, 0, []), (.getfield 0, .null, 6, [(11, 0)]), (.ifCond .ne 0, .null, 10, []), (.nop, .int (-3), 0, []), (.ireturn, .null, 0, [])]),
  (10, 29, [(.aload 0, .null, 0, []), (.getfield 0, .null, 0, [(11, 0)]), (.aload 0, .null, 0, []), (.getfield 0, .null, 1, [(11, 0)]), (.invokevirtual 0, .retAddr 0, 2, [(6, 102)]), (.aload 0, .null, 0, []), (.getfield 0, .null, 0, [(11, 0)]), (.getfield 0, .null, 4, [(6, 0)]), (.ireturn, .null, 0, [])])])
/-- 174: OverFence.count(I)I -/
def mc_174 : am_M := (2, 0, [(0, 36, [(.iload 1, .null, 0, []), (.lookupswitch 0 #[], .null, 76, [(0, 36), (1, 44), (2, 52), (3, 60), (4, 68)])]),
  (36, 44, [(.aload 0, .null, 0, []), (.getfield 0, .null, 0, [(11, 0)]), (.getfield 0, .null, 4, [(6, 0)]), (.ireturn, .null, 0, [])]),
  (44, 52, [(.aload 0, .null, 0, []), (.getfield 0, .null, 0, [(11, 0)]), (.getfield 0, .null, 8, [(6, 0)]), (.ireturn, .null, 0, [])]),
  (52, 60, [(.aload 0, .null, 0, []), (.getfield 0, .null, 0, [(11, 0)]), (.getfield 0, .null, 12, [(6, 0)]), (.ireturn, .null, 0, [])]),
  (60, 68, [(.aload 0, .null, 0, []), (.getfield 0, .null, 0, [(11, 0)]), (.getfield 0, .null, 6, [(6, 0)]), (.ireturn, .null, 0, [])]),
  (68, 76, [(.aload 0, .null, 0, []), (.getfield 0, .null, 5, [(11, 0)]), (.getfield 0, .null, 1, [(8, 0)]), (.ireturn, .null, 0, [])]),
  (76, 78, [(.nop, .int (-1), 0, []), (.ireturn, .null, 0, [])])])
/-- 175: OverFence.isAim(I)Z -/
def mc_175 : am_M := (1, 0, [(0, 14, [(.iload 0, .null, 0, []), (.ifCond .lt 0, .null, 14, []), (.iload 0, .null, 0, []), (.nop, .int 10, 0, []), (.if_icmp .ge 0, .null, 14, []), (.nop, .int 1, 0, []), (.goto 0, .null, 15, [])]),
  (14, 15, [(.nop, .int 0, 0, [])]),
  (15, 16, [(.freturn, .null, 0, [])])])
/-- 176: OverFence.isPart(I)Z -/
def mc_176 : am_M := (1, 0, [(0, 9, [(.iload 0, .null, 0, []), (.ifCond .eq 0, .null, 9, []), (.iload 0, .null, 0, []), (.nop, .int 1, 0, []), (.if_icmp .ne 0, .null, 13, [])]),
  (9, 13, [(.nop, .int 1, 0, []), (.goto 0, .null, 14, [])]),
  (13, 14, [(.nop, .int 0, 0, [])]),
  (14, 15, [(.freturn, .null, 0, [])])])
/-- 177: OverFence.partOf(JJI)J -/
def mc_177 : am_M := (9, 0, [(0, 16, [(.lload 0, .null, 0, []), (.lload 2, .null, 0, []), (.invokestatic 0, .retAddr 0, 2, [(0, 178)]), (.lstore 5, .null, 0, []), (.iload 4, .null, 0, []), (.ifCond .ne 0, .null, 16, []), (.lload 0, .null, 0, []), (.goto 0, .null, 17, [])]),
  (16, 17, [(.lload 2, .null, 0, [])]),
  (17, 31, [(.lstore 7, .null, 0, []), (.lload 5, .null, 0, []), (.nop, .long 0, 0, []), (.lcmp, .null, 0, []), (.ifCond .ne 0, .null, 31, []), (.lload 7, .null, 0, []), (.goto 0, .null, 36, [])]),
  (31, 36, [(.lload 7, .null, 0, []), (.lload 5, .null, 0, []), (.ldiv, .null, 0, [])]),
  (36, 37, [(.lreturn, .null, 0, [])])])
/-- 178: OverFence.commonDivisor(JJ)J -/
def mc_178 : am_M := (11, 0, [(0, 9, [(.lload 0, .null, 0, []), (.lstore 4, .null, 0, []), (.lload 2, .null, 0, []), (.lstore 6, .null, 0, []), (.nop, .int 0, 0, []), (.istore 8, .null, 0, [])]),
  (9, 45, [(.iload 8, .null, 0, []), (.nop, .int 200, 0, []), (.if_icmp .ge 0, .null, 45, []), (.lload 6, .null, 0, []), (.nop, .long 0, 0, []), (.lcmp, .null, 0, []), (.ifCond .eq 0, .null, 45, []), (.lload 4, .null, 0, []), (.lload 6, .null, 0, []), (.lrem, .null, 0, []), (.lstore 9, .null, 0, []), (.lload 6, .null, 0, []), (.lstore 4, .null, 0, []), (.lload 9, .null, 0, []), (.lstore 6, .null, 0, []), (.iinc 8 0, .int 1, 0, []), (.goto 0, .null, 9, [])]),
  (45, 48, [(.lload 4, .null, 0, []), (.lreturn, .null, 0, [])])])
/-- 179: OverFence.newBoy(III)LOverFence$Kick; -/
def mc_179 : am_M := (3, 1, [(0, 40, [(.iload 0, .null, 0, []), (.lookupswitch 0 #[], .null, 100, [(1, 40), (2, 50), (3, 60), (4, 70), (5, 80), (6, 90)])]),
  (40, 50, [(.new 0, .null, 2, []), (.dup, .null, 0, []), (.iload 1, .null, 0, []), (.iload 2, .null, 0, []), (.invokespecial 0, .retAddr 0, 3, [(0, 82)]), (.areturn, .null, 0, [])]),
  (50, 60, [(.new 0, .null, 4, []), (.dup, .null, 0, []), (.iload 1, .null, 0, []), (.iload 2, .null, 0, []), (.invokespecial 0, .retAddr 0, 3, [(0, 93)]), (.areturn, .null, 0, [])]),
  (60, 70, [(.new 0, .null, 7, []), (.dup, .null, 0, []), (.iload 1, .null, 0, []), (.iload 2, .null, 0, []), (.invokespecial 0, .retAddr 0, 3, [(0, 117)]), (.areturn, .null, 0, [])]),
  (70, 80, [(.new 0, .null, 9, []), (.dup, .null, 0, []), (.iload 1, .null, 0, []), (.iload 2, .null, 0, []), (.invokespecial 0, .retAddr 0, 3, [(0, 123)]), (.areturn, .null, 0, [])]),
  (80, 90, [(.new 0, .null, 0, []), (.dup, .null, 0, []), (.iload 1, .null, 0, []), (.iload 2, .null, 0, []), (.invokespecial 0, .retAddr 0, 3, [(0, 69)]), (.areturn, .null, 0, [])]),
  (90, 100, [(.new 0, .null, 5, []), (.dup, .null, 0, []), (.iload 1, .null, 0, []), (.iload 2, .null, 0, []), (.invokespecial 0, .retAddr 0, 3, [(0, 97)]), (.areturn, .null, 0, [])]),
  (100, 110, [(.new 0, .null, 3, []), (.dup, .null, 0, []), (.iload 1, .null, 0, []), (.iload 2, .null, 0, []), (.invokespecial 0, .retAddr 0, 3, [(0, 86)]), (.areturn, .null, 0, [])])])
/-- 180: OverFence.isOfKind(LOverFence$Kick;I)Z -/
def mc_180 : am_M := (2, 0, [(0, 44, [(.iload 1, .null, 0, []), (.lookupswitch 0 #[], .null, 76, [(0, 44), (1, 46), (2, 51), (3, 56), (4, 61), (5, 66), (6, 71)])]),
  (44, 46, [(.nop, .int 1, 0, []), (.freturn, .null, 0, [])]),
  (46, 51, [(.aload 0, .null, 0, []), (.instanceof 0, .null, 0, [(3, 0), (2, 1), (4, 0), (7, 0), (9, 1), (0, 0), (5, 0)]), (.freturn, .null, 0, [])]),
  (51, 56, [(.aload 0, .null, 0, []), (.instanceof 0, .null, 0, [(3, 0), (2, 0), (4, 1), (7, 0), (9, 0), (0, 1), (5, 0)]), (.freturn, .null, 0, [])]),
  (56, 61, [(.aload 0, .null, 0, []), (.instanceof 0, .null, 0, [(3, 0), (2, 0), (4, 0), (7, 1), (9, 0), (0, 0), (5, 1)]), (.freturn, .null, 0, [])]),
  (61, 66, [(.aload 0, .null, 0, []), (.instanceof 0, .null, 0, [(3, 0), (2, 0), (4, 0), (7, 0), (9, 1), (0, 0), (5, 0)]), (.freturn, .null, 0, [])]),
  (66, 71, [(.aload 0, .null, 0, []), (.instanceof 0, .null, 0, [(3, 0), (2, 0), (4, 0), (7, 0), (9, 0), (0, 1), (5, 0)]), (.freturn, .null, 0, [])]),
  (71, 76, [(.aload 0, .null, 0, []), (.instanceof 0, .null, 0, [(3, 0), (2, 0), (4, 0), (7, 0), (9, 0), (0, 0), (5, 1)]), (.freturn, .null, 0, [])]),
  (76, 78, [(.nop, .int 0, 0, []), (.freturn, .null, 0, [])])])
/-- 181: java/lang/String.length()I -/
def mc_181 : am_M := (1, 0, [(0, 11, [(.aload 0, .null, 0, []), (.caload, .null, 0, []), (.castore, .null, 0, []), (.aload 0, .null, 0, []), (.invokevirtual 0, .retAddr 0, 1, [(99, 185)]), (.ishr, .null, 0, []), (.ireturn, .null, 0, [])])])
/-- 182: java/lang/String.charAt(I)C -/
def mc_182 : am_M := (2, 0, [(0, 16, [(.aload 0, .null, 0, []), (.invokevirtual 0, .retAddr 0, 1, [(99, 186)]), (.ifCond .eq 0, .null, 16, []), (.aload 0, .null, 0, []), (.caload, .null, 0, []), (.iload 1, .null, 0, []), (.invokestatic 0, .retAddr 0, 2, [(0, 188)]), (.dreturn, .null, 1, [])]),
  (16, 25, [(.aload 0, .null, 0, []), (.caload, .null, 0, []), (.iload 1, .null, 0, []), (.athrow, .null, 0, []), (.dreturn, .null, 1, [])])])
/-- 183: java/lang/String.indexOf(I)I -/
def mc_183 : am_M := (2, 0, [(0, 7, [(.aload 0, .null, 0, []), (.iload 1, .null, 0, []), (.nop, .int 0, 0, []), (.invokevirtual 0, .retAddr 0, 3, [(99, 184)]), (.ireturn, .null, 0, [])])])
/-- 184: java/lang/String.indexOf(II)I -/
def mc_184 : am_M := (3, 0, [(0, 23, [(.aload 0, .null, 0, []), (.invokevirtual 0, .retAddr 0, 1, [(99, 186)]), (.ifCond .eq 0, .null, 23, []), (.aload 0, .null, 0, []), (.caload, .null, 0, []), (.iload 1, .null, 0, []), (.iload 2, .null, 0, []), (.aload 0, .null, 0, []), (.invokevirtual 0, .retAddr 0, 1, [(99, 181)]), (.invokestatic 0, .retAddr 0, 4, [(0, 190)]), (.goto 0, .null, 36, [])]),
  (23, 36, [(.aload 0, .null, 0, []), (.caload, .null, 0, []), (.iload 1, .null, 0, []), (.iload 2, .null, 0, []), (.aload 0, .null, 0, []), (.invokevirtual 0, .retAddr 0, 1, [(99, 181)]), (.athrow, .null, 0, [])]),
  (36, 37, [(.ireturn, .null, 0, [])])])
/-- 185: java/lang/String.coder()B -/
def mc_185 : am_M := (1, 0, [(0, 13, [(.nop, .int 1, 0, []), (.ifCond .eq 0, .null, 13, []), (.aload 0, .null, 0, []), (.saload, .null, 0, []), (.goto 0, .null, 14, [])]),
  (13, 14, [(.nop, .int 1, 0, [])]),
  (14, 15, [(.dreturn, .null, 0, [])])])
/-- 186: java/lang/String.isLatin1()Z -/
def mc_186 : am_M := (1, 0, [(0, 17, [(.nop, .int 1, 0, []), (.ifCond .eq 0, .null, 17, []), (.aload 0, .null, 0, []), (.saload, .null, 0, []), (.ifCond .ne 0, .null, 17, []), (.nop, .int 1, 0, []), (.goto 0, .null, 18, [])]),
  (17, 18, [(.nop, .int 0, 0, [])]),
  (18, 19, [(.freturn, .null, 0, [])])])
/-- 187: java/lang/String.checkIndex(II)V -/
def mc_187 : am_M := (2, 0, [(0, 10, [(.iload 0, .null, 0, []), (.iload 1, .null, 0, []), (.nop, .retAddr 42, 0, []), (.invokestatic 0, .retAddr 0, 3, [(0, 194)]), (.pop, .null, 0, []), (.return_, .null, 0, [])])])
/-- 188: java/lang/StringLatin1.charAt([BI)C -/
def mc_188 : am_M := (2, 0, [(0, 15, [(.iload 1, .null, 0, []), (.aload 0, .null, 0, []), (.castore, .null, 0, []), (.invokestatic 0, .retAddr 0, 2, [(0, 187)]), (.aload 0, .null, 0, []), (.iload 1, .null, 0, []), (.faload, .null, 1, []), (.nop, .int 255, 0, []), (.iand, .null, 0, []), (.i2c, .null, 0, []), (.dreturn, .null, 1, [])])])
/-- 189: java/lang/StringLatin1.canEncode(I)Z -/
def mc_189 : am_M := (1, 0, [(0, 15, [(.iload 0, .null, 0, []), (.ifCond .lt 0, .null, 15, []), (.iload 0, .null, 0, []), (.nop, .int 255, 0, []), (.if_icmp .gt 0, .null, 15, []), (.nop, .int 1, 0, []), (.goto 0, .null, 16, [])]),
  (15, 16, [(.nop, .int 0, 0, [])]),
  (16, 17, [(.freturn, .null, 0, [])])])
/-- 190: java/lang/StringLatin1.indexOf([BIII)I -/
def mc_190 : am_M := (4, 0, [(0, 9, [(.iload 1, .null, 0, []), (.invokestatic 0, .retAddr 0, 1, [(0, 189)]), (.ifCond .ne 0, .null, 9, []), (.nop, .int (-1), 0, []), (.ireturn, .null, 0, [])]),
  (9, 29, [(.iload 2, .null, 0, []), (.nop, .int 0, 0, []), (.invokestatic 0, .retAddr 0, 2, [(0, 192)]), (.istore 2, .null, 0, []), (.iload 3, .null, 0, []), (.aload 0, .null, 0, []), (.castore, .null, 0, []), (.invokestatic 0, .retAddr 0, 2, [(0, 193)]), (.istore 3, .null, 0, []), (.iload 2, .null, 0, []), (.iload 3, .null, 0, []), (.if_icmp .lt 0, .null, 29, []), (.nop, .int (-1), 0, []), (.ireturn, .null, 0, [])]),
  (29, 37, [(.aload 0, .null, 0, []), (.iload 1, .null, 0, []), (.iload 2, .null, 0, []), (.iload 3, .null, 0, []), (.invokestatic 0, .retAddr 0, 4, [(0, 191)]), (.ireturn, .null, 0, [])])])
/-- 191: java/lang/StringLatin1.indexOfChar([BIII)I -/
def mc_191 : am_M := (6, 0, [(0, 7, [(.iload 1, .null, 0, []), (.i2b, .null, 0, []), (.istore 4, .null, 0, []), (.iload 2, .null, 0, []), (.istore 5, .null, 0, [])]),
  (7, 25, [(.iload 5, .null, 0, []), (.iload 3, .null, 0, []), (.if_icmp .ge 0, .null, 31, []), (.aload 0, .null, 0, []), (.iload 5, .null, 0, []), (.faload, .null, 1, []), (.iload 4, .null, 0, []), (.if_icmp .ne 0, .null, 25, []), (.iload 5, .null, 0, []), (.ireturn, .null, 0, [])]),
  (25, 31, [(.iinc 5 0, .int 1, 0, []), (.goto 0, .null, 7, [])]),
  (31, 33, [(.nop, .int (-1), 0, []), (.ireturn, .null, 0, [])])])
/-- 192: java/lang/Math.max(II)I -/
def mc_192 : am_M := (2, 0, [(0, 9, [(.iload 0, .null, 0, []), (.iload 1, .null, 0, []), (.if_icmp .lt 0, .null, 9, []), (.iload 0, .null, 0, []), (.goto 0, .null, 10, [])]),
  (9, 10, [(.iload 1, .null, 0, [])]),
  (10, 11, [(.ireturn, .null, 0, [])])])
/-- 193: java/lang/Math.min(II)I -/
def mc_193 : am_M := (2, 0, [(0, 9, [(.iload 0, .null, 0, []), (.iload 1, .null, 0, []), (.if_icmp .gt 0, .null, 9, []), (.iload 0, .null, 0, []), (.goto 0, .null, 10, [])]),
  (9, 10, [(.iload 1, .null, 0, [])]),
  (10, 11, [(.ireturn, .null, 0, [])])])
/-- 194: jdk/internal/util/Preconditions.checkIndex(IILjava/util/function/BiFunction;)I -/
def mc_194 : am_M := (3, 0, [(0, 9, [(.iload 0, .null, 0, []), (.ifCond .lt 0, .null, 9, []), (.iload 0, .null, 0, []), (.iload 1, .null, 0, []), (.if_icmp .lt 0, .null, 16, [])]),
  (9, 16, [(.aload 2, .null, 0, []), (.iload 0, .null, 0, []), (.iload 1, .null, 0, []), (.athrow, .null, 0, []), (.athrow, .null, 0, [])]),
  (16, 18, [(.iload 0, .null, 0, []), (.ireturn, .null, 0, [])])])
/-- 195: java/util/Arrays.fill([JJ)V -/
def mc_195 : am_M := (5, 0, [(0, 6, [(.nop, .int 0, 0, []), (.istore 3, .null, 0, []), (.aload 0, .null, 0, []), (.arraylength, .null, 0, []), (.istore 4, .null, 0, [])]),
  (6, 22, [(.iload 3, .null, 0, []), (.iload 4, .null, 0, []), (.if_icmp .ge 0, .null, 22, []), (.aload 0, .null, 0, []), (.iload 3, .null, 0, []), (.lload 1, .null, 0, []), (.lastore, .null, 0, []), (.iinc 3 0, .int 1, 0, []), (.goto 0, .null, 6, [])]),
  (22, 23, [(.return_, .null, 0, [])])])
def am_pg (i : Nat) : am_M := match i with
  | 0 => mc_0
  | 1 => mc_1
  | 2 => mc_2
  | 3 => mc_3
  | 4 => mc_4
  | 5 => mc_5
  | 6 => mc_6
  | 7 => mc_7
  | 8 => mc_8
  | 9 => mc_9
  | 10 => mc_10
  | 11 => mc_11
  | 12 => mc_12
  | 13 => mc_13
  | 14 => mc_14
  | 15 => mc_15
  | 16 => mc_16
  | 17 => mc_17
  | 18 => mc_18
  | 19 => mc_19
  | 20 => mc_20
  | 21 => mc_21
  | 22 => mc_22
  | 23 => mc_23
  | 24 => mc_24
  | 25 => mc_25
  | 26 => mc_26
  | 27 => mc_27
  | 28 => mc_28
  | 29 => mc_29
  | 30 => mc_30
  | 31 => mc_31
  | 32 => mc_32
  | 33 => mc_33
  | 34 => mc_34
  | 35 => mc_35
  | 36 => mc_36
  | 37 => mc_37
  | 38 => mc_38
  | 39 => mc_39
  | 40 => mc_40
  | 41 => mc_41
  | 42 => mc_42
  | 43 => mc_43
  | 44 => mc_44
  | 45 => mc_45
  | 46 => mc_46
  | 47 => mc_47
  | 48 => mc_48
  | 49 => mc_49
  | 50 => mc_50
  | 51 => mc_51
  | 52 => mc_52
  | 53 => mc_53
  | 54 => mc_54
  | 55 => mc_55
  | 56 => mc_56
  | 57 => mc_57
  | 58 => mc_58
  | 59 => mc_59
  | 60 => mc_60
  | 61 => mc_61
  | 62 => mc_62
  | 63 => mc_63
  | 64 => mc_64
  | 65 => mc_65
  | 66 => mc_66
  | 67 => mc_67
  | 68 => mc_68
  | 69 => mc_69
  | 70 => mc_70
  | 71 => mc_71
  | 72 => mc_72
  | 73 => mc_73
  | 74 => mc_74
  | 75 => mc_75
  | 76 => mc_76
  | 77 => mc_77
  | 78 => mc_78
  | 79 => mc_79
  | 80 => mc_80
  | 81 => mc_81
  | 82 => mc_82
  | 83 => mc_83
  | 84 => mc_84
  | 85 => mc_85
  | 86 => mc_86
  | 87 => mc_87
  | 88 => mc_88
  | 89 => mc_89
  | 90 => mc_90
  | 91 => mc_91
  | 92 => mc_92
  | 93 => mc_93
  | 94 => mc_94
  | 95 => mc_95
  | 96 => mc_96
  | 97 => mc_97
  | 98 => mc_98
  | 99 => mc_99
  | 100 => mc_100
  | 101 => mc_101
  | 102 => mc_102
  | 103 => mc_103
  | 104 => mc_104
  | 105 => mc_105
  | 106 => mc_106
  | 107 => mc_107
  | 108 => mc_108
  | 109 => mc_109
  | 110 => mc_110
  | 111 => mc_111
  | 112 => mc_112
  | 113 => mc_113
  | 114 => mc_114
  | 115 => mc_115
  | 116 => mc_116
  | 117 => mc_117
  | 118 => mc_118
  | 119 => mc_119
  | 120 => mc_120
  | 121 => mc_121
  | 122 => mc_122
  | 123 => mc_123
  | 124 => mc_124
  | 125 => mc_125
  | 126 => mc_126
  | 127 => mc_127
  | 128 => mc_128
  | 129 => mc_129
  | 130 => mc_130
  | 131 => mc_131
  | 132 => mc_132
  | 133 => mc_133
  | 134 => mc_134
  | 135 => mc_135
  | 136 => mc_136
  | 137 => mc_137
  | 138 => mc_138
  | 139 => mc_139
  | 140 => mc_140
  | 141 => mc_141
  | 142 => mc_142
  | 143 => mc_143
  | 144 => mc_144
  | 145 => mc_145
  | 146 => mc_146
  | 147 => mc_147
  | 148 => mc_148
  | 149 => mc_149
  | 150 => mc_150
  | 151 => mc_151
  | 152 => mc_152
  | 153 => mc_153
  | 154 => mc_154
  | 155 => mc_155
  | 156 => mc_156
  | 157 => mc_157
  | 158 => mc_158
  | 159 => mc_159
  | 160 => mc_160
  | 161 => mc_161
  | 162 => mc_162
  | 163 => mc_163
  | 164 => mc_164
  | 165 => mc_165
  | 166 => mc_166
  | 167 => mc_167
  | 168 => mc_168
  | 169 => mc_169
  | 170 => mc_170
  | 171 => mc_171
  | 172 => mc_172
  | 173 => mc_173
  | 174 => mc_174
  | 175 => mc_175
  | 176 => mc_176
  | 177 => mc_177
  | 178 => mc_178
  | 179 => mc_179
  | 180 => mc_180
  | 181 => mc_181
  | 182 => mc_182
  | 183 => mc_183
  | 184 => mc_184
  | 185 => mc_185
  | 186 => mc_186
  | 187 => mc_187
  | 188 => mc_188
  | 189 => mc_189
  | 190 => mc_190
  | 191 => mc_191
  | 192 => mc_192
  | 193 => mc_193
  | 194 => mc_194
  | 195 => mc_195
  | _ => (0, 0, [])
def am_md (i : Nat) : MethodName × ByteArray × Option FieldType := match i with
  | 0 => (⟨"OverFenceModel", "<init>", "()V"⟩, prog_14_method_1_code, none)
  | 1 => (⟨"OverFenceModel", "in", "(III)Z"⟩, prog_14_method_3_code, some .boolean)
  | 2 => (⟨"OverFenceModel", "isBoy", "(I)Z"⟩, prog_14_method_4_code, some .boolean)
  | 3 => (⟨"OverFenceModel", "isDigit", "(I)Z"⟩, prog_14_method_5_code, some .boolean)
  | 4 => (⟨"OverFenceModel", "feed", "(I)I"⟩, prog_14_method_6_code, some .int)
  | 5 => (⟨"OverFenceModel", "here", "()I"⟩, prog_14_method_7_code, some .int)
  | 6 => (⟨"OverFenceModel", "must", "(I)V"⟩, prog_14_method_8_code, none)
  | 7 => (⟨"OverFenceModel", "spells", "(Ljava/lang/String;)V"⟩, prog_14_method_9_code, none)
  | 8 => (⟨"OverFenceModel", "figures", "()I"⟩, prog_14_method_10_code, some .int)
  | 9 => (⟨"OverFenceModel", "among", "(Ljava/lang/String;)I"⟩, prog_14_method_11_code, some .int)
  | 10 => (⟨"OverFenceModel", "emits", "(I)V"⟩, prog_14_method_12_code, none)
  | 11 => (⟨"OverFenceModel", "factor", "()V"⟩, prog_14_method_13_code, none)
  | 12 => (⟨"OverFenceModel", "every", "()V"⟩, prog_14_method_14_code, none)
  | 13 => (⟨"OverFenceModel", "some", "()V"⟩, prog_14_method_15_code, none)
  | 14 => (⟨"OverFenceModel", "much", "(ILjava/lang/String;)V"⟩, prog_14_method_16_code, none)
  | 15 => (⟨"OverFenceModel", "tellsHere", "(ILjava/lang/String;)V"⟩, prog_14_method_17_code, none)
  | 16 => (⟨"OverFenceModel", "clauseHere", "()V"⟩, prog_14_method_18_code, none)
  | 17 => (⟨"OverFenceModel", "yard", "()I"⟩, prog_14_method_19_code, some .int)
  | 18 => (⟨"OverFenceModel", "tellsOf", "(II)I"⟩, prog_14_method_20_code, some .int)
  | 19 => (⟨"OverFenceModel", "boy", "(II)I"⟩, prog_14_method_21_code, some .int)
  | 20 => (⟨"OverFenceModel", "of", "(II)I"⟩, prog_14_method_22_code, some .int)
  | 21 => (⟨"OverFenceModel", "bed", "(II)I"⟩, prog_14_method_23_code, some .int)
  | 22 => (⟨"OverFenceModel", "mostOf", "(I)I"⟩, prog_14_method_24_code, some .int)
  | 23 => (⟨"OverFenceModel", "set", "(II)I"⟩, prog_14_method_25_code, some .int)
  | 24 => (⟨"OverFenceModel", "told", "(I)I"⟩, prog_14_method_26_code, some .int)
  | 25 => (⟨"OverFenceModel", "lifted", "(II)I"⟩, prog_14_method_27_code, some .int)
  | 26 => (⟨"OverFenceModel", "plainHeight", "(II)I"⟩, prog_14_method_28_code, some .int)
  | 27 => (⟨"OverFenceModel", "heightOf", "(II)I"⟩, prog_14_method_29_code, some .int)
  | 28 => (⟨"OverFenceModel", "isOver", "(II)Z"⟩, prog_14_method_30_code, some .boolean)
  | 29 => (⟨"OverFenceModel", "bedOf", "(II)I"⟩, prog_14_method_31_code, some .int)
  | 30 => (⟨"OverFenceModel", "height", "(II)I"⟩, prog_14_method_32_code, some .int)
  | 31 => (⟨"OverFenceModel", "falls", "(II)I"⟩, prog_14_method_33_code, some .int)
  | 32 => (⟨"OverFenceModel", "becomes", "(II)I"⟩, prog_14_method_34_code, some .int)
  | 33 => (⟨"OverFenceModel", "goes", "(II)I"⟩, prog_14_method_35_code, some .int)
  | 34 => (⟨"OverFenceModel", "kick", "(II)I"⟩, prog_14_method_36_code, some .int)
  | 35 => (⟨"OverFenceModel", "night", "()I"⟩, prog_14_method_37_code, some .int)
  | 36 => (⟨"OverFenceModel", "lowest", "(JJI)J"⟩, prog_14_method_38_code, some .long)
  | 37 => (⟨"OverFenceModel", "odds", "(III)J"⟩, prog_14_method_39_code, some .long)
  | 38 => (⟨"OverFenceModel", "oversOf", "(I)I"⟩, prog_14_method_40_code, some .int)
  | 39 => (⟨"OverFenceModel", "oversAll", "()I"⟩, prog_14_method_41_code, some .int)
  | 40 => (⟨"OverFenceModel", "turn", "(I)I"⟩, prog_14_method_42_code, some .int)
  | 41 => (⟨"OverFenceModel", "need", "(I)I"⟩, prog_14_method_43_code, some .int)
  | 42 => (⟨"OverFenceModel", "bar", "(I)I"⟩, prog_14_method_44_code, some .int)
  | 43 => (⟨"OverFenceModel", "looksForBeds", "(I)V"⟩, prog_14_method_45_code, none)
  | 44 => (⟨"OverFenceModel", "kicksAll", "(I)V"⟩, prog_14_method_46_code, none)
  | 45 => (⟨"OverFenceModel", "rounds", "(I)V"⟩, prog_14_method_47_code, none)
  | 46 => (⟨"OverFenceModel", "roundSum", "(I)J"⟩, prog_14_method_48_code, some .long)
  | 47 => (⟨"OverFenceModel", "round", "(III)J"⟩, prog_14_method_49_code, some .long)
  | 48 => (⟨"OverFenceModel", "rule", "(I)I"⟩, prog_14_method_50_code, some .int)
  | 49 => (⟨"OverFenceModel", "owes", "(III)J"⟩, prog_14_method_51_code, some .long)
  | 50 => (⟨"OverFenceModel", "fallsOn", "(II)I"⟩, prog_14_method_52_code, some .int)
  | 51 => (⟨"OverFenceModel", "who", "(I)I"⟩, prog_14_method_53_code, some .int)
  | 52 => (⟨"OverFenceModel", "cover", "(I)I"⟩, prog_14_method_54_code, some .int)
  | 53 => (⟨"OverFenceModel", "tale", "(III)I"⟩, prog_14_method_55_code, some .int)
  | 54 => (⟨"OverFenceModel", "looked", "()I"⟩, prog_14_method_56_code, some .int)
  | 55 => (⟨"OverFenceModel", "ranBody", "(I)V"⟩, prog_14_method_57_code, none)
  | 56 => (⟨"OverFenceModel", "isUnder", "(II)Z"⟩, prog_14_method_58_code, some .boolean)
  | 57 => (⟨"OverFenceModel", "plainKicks", "(I)I"⟩, prog_14_method_59_code, some .int)
  | 58 => (⟨"OverFenceModel", "kicksActs", "(I)I"⟩, prog_14_method_60_code, some .int)
  | 59 => (⟨"OverFenceModel", "plainFetches", "(I)I"⟩, prog_14_method_61_code, some .int)
  | 60 => (⟨"OverFenceModel", "fetchesActs", "(I)I"⟩, prog_14_method_62_code, some .int)
  | 61 => (⟨"OverFenceModel", "plainPays", "(I)I"⟩, prog_14_method_63_code, some .int)
  | 62 => (⟨"OverFenceModel", "paysActs", "(I)I"⟩, prog_14_method_64_code, some .int)
  | 63 => (⟨"OverFenceModel", "act", "(III)I"⟩, prog_14_method_65_code, some .int)
  | 64 => (⟨"OverFenceModel", "trace", "(I)I"⟩, prog_14_method_66_code, some .int)
  | 65 => (⟨"OverFenceModel", "as", "(II)I"⟩, prog_14_method_67_code, some .int)
  | 66 => (⟨"OverFenceModel", "image", "()I"⟩, prog_14_method_68_code, some .int)
  | 67 => (⟨"OverFenceModel", "undo", "()I"⟩, prog_14_method_69_code, some .int)
  | 68 => (⟨"OverFenceModel", "count", "(I)I"⟩, prog_14_method_70_code, some .int)
  | 69 => (⟨"OverFence$Bent", "<init>", "(II)V"⟩, prog_2_method_1_code, none)
  | 70 => (⟨"OverFence$Bent", "kind", "()I"⟩, prog_2_method_2_code, some .int)
  | 71 => (⟨"OverFence$Bent", "bend", "()I"⟩, prog_2_method_3_code, some .int)
  | 72 => (⟨"OverFence$Bent", "kicks", "(ILOverFence$Trace;)I"⟩, prog_2_method_4_code, some .int)
  | 73 => (⟨"OverFence$Chances", "<init>", "()V"⟩, prog_3_method_1_code, none)
  | 74 => (⟨"OverFence$Chances", "cellOf", "(III)I"⟩, prog_3_method_2_code, some .int)
  | 75 => (⟨"OverFence$Chances", "run", "(LOverFence$Scene;II)V"⟩, prog_3_method_3_code, none)
  | 76 => (⟨"OverFence$Chances", "findLifts", "(LOverFence$Scene;)V"⟩, prog_3_method_4_code, none)
  | 77 => (⟨"OverFence$Chances", "spread", "(LOverFence$Scene;LOverFence$Kick;I)V"⟩, prog_3_method_5_code, none)
  | 78 => (⟨"OverFence$Chances", "sortAims", "(LOverFence$Scene;LOverFence$Kick;I)V"⟩, prog_3_method_6_code, none)
  | 79 => (⟨"OverFence$Chances", "move", "(IIIZZ)V"⟩, prog_3_method_7_code, none)
  | 80 => (⟨"OverFence$Chances", "sumOf", "(LOverFence$Scene;I)J"⟩, prog_3_method_8_code, some .long)
  | 81 => (⟨"OverFence$Chances", "valueOf", "([IIIII)J"⟩, prog_3_method_9_code, some .long)
  | 82 => (⟨"OverFence$Hard", "<init>", "(II)V"⟩, prog_4_method_1_code, none)
  | 83 => (⟨"OverFence$Hard", "kind", "()I"⟩, prog_4_method_2_code, some .int)
  | 84 => (⟨"OverFence$Hard", "rise", "(II)I"⟩, prog_4_method_3_code, some .int)
  | 85 => (⟨"OverFence$Hard", "kicks", "(ILOverFence$Trace;)I"⟩, prog_4_method_4_code, some .int)
  | 86 => (⟨"OverFence$Kick", "<init>", "(II)V"⟩, prog_5_method_1_code, none)
  | 87 => (⟨"OverFence$Kick", "kind", "()I"⟩, prog_5_method_2_code, some .int)
  | 88 => (⟨"OverFence$Kick", "rise", "(II)I"⟩, prog_5_method_3_code, some .int)
  | 89 => (⟨"OverFence$Kick", "bend", "()I"⟩, prog_5_method_4_code, some .int)
  | 90 => (⟨"OverFence$Kick", "kicks", "(ILOverFence$Trace;)I"⟩, prog_5_method_5_code, some .int)
  | 91 => (⟨"OverFence$Kick", "fetches", "(ILOverFence$Trace;)I"⟩, prog_5_method_6_code, some .int)
  | 92 => (⟨"OverFence$Kick", "pays", "(ILOverFence$Trace;)I"⟩, prog_5_method_7_code, some .int)
  | 93 => (⟨"OverFence$Low", "<init>", "(II)V"⟩, prog_6_method_1_code, none)
  | 94 => (⟨"OverFence$Low", "kind", "()I"⟩, prog_6_method_2_code, some .int)
  | 95 => (⟨"OverFence$Low", "rise", "(II)I"⟩, prog_6_method_3_code, some .int)
  | 96 => (⟨"OverFence$Low", "fetches", "(ILOverFence$Trace;)I"⟩, prog_6_method_4_code, some .int)
  | 97 => (⟨"OverFence$Paying", "<init>", "(II)V"⟩, prog_7_method_1_code, none)
  | 98 => (⟨"OverFence$Paying", "kind", "()I"⟩, prog_7_method_2_code, some .int)
  | 99 => (⟨"OverFence$Paying", "rise", "(II)I"⟩, prog_7_method_3_code, some .int)
  | 100 => (⟨"OverFence$Paying", "fetches", "(ILOverFence$Trace;)I"⟩, prog_7_method_4_code, some .int)
  | 101 => (⟨"OverFence$Scene", "<init>", "()V"⟩, prog_8_method_1_code, none)
  | 102 => (⟨"OverFence$Scene", "takeOver", "(LOverFence$Scene;)V"⟩, prog_8_method_2_code, none)
  | 103 => (⟨"OverFence$Scene", "boyAt", "(I)LOverFence$Kick;"⟩, prog_8_method_3_code, some (.object "OverFence$Kick"))
  | 104 => (⟨"OverFence$Scene", "numberAhead", "(I)I"⟩, prog_8_method_4_code, some .int)
  | 105 => (⟨"OverFence$Scene", "allPanes", "()I"⟩, prog_8_method_5_code, some .int)
  | 106 => (⟨"OverFence$Scene", "heightOf", "(LOverFence$Kick;III)I"⟩, prog_8_method_6_code, some .int)
  | 107 => (⟨"OverFence$Scene", "goesOver", "(LOverFence$Kick;I)Z"⟩, prog_8_method_7_code, some .boolean)
  | 108 => (⟨"OverFence$Scene", "bedOf", "(LOverFence$Kick;I)I"⟩, prog_8_method_8_code, some .int)
  | 109 => (⟨"OverFence$Scene", "becomes", "(LOverFence$Kick;I)I"⟩, prog_8_method_9_code, some .int)
  | 110 => (⟨"OverFence$Scene", "throwsBack", "(II)Z"⟩, prog_8_method_10_code, some .boolean)
  | 111 => (⟨"OverFence$Scene", "play", "(LOverFence$Kick;I)I"⟩, prog_8_method_11_code, some .int)
  | 112 => (⟨"OverFence$Scene", "sleep", "()V"⟩, prog_8_method_12_code, none)
  | 113 => (⟨"OverFence$Scene", "oversOfAll", "(II)I"⟩, prog_8_method_13_code, some .int)
  | 114 => (⟨"OverFence$Scene", "oversByAim", "(I)I"⟩, prog_8_method_14_code, some .int)
  | 115 => (⟨"OverFence$Scene", "kicksOnto", "(LOverFence$Kick;I)I"⟩, prog_8_method_15_code, some .int)
  | 116 => (⟨"OverFence$Scene", "kicksOfAllOnto", "(I)I"⟩, prog_8_method_16_code, some .int)
  | 117 => (⟨"OverFence$Shy", "<init>", "(II)V"⟩, prog_9_method_1_code, none)
  | 118 => (⟨"OverFence$Shy", "kind", "()I"⟩, prog_9_method_2_code, some .int)
  | 119 => (⟨"OverFence$Shy", "rise", "(II)I"⟩, prog_9_method_3_code, some .int)
  | 120 => (⟨"OverFence$Shy", "pays", "(ILOverFence$Trace;)I"⟩, prog_9_method_4_code, some .int)
  | 121 => (⟨"OverFence$Trace", "<init>", "()V"⟩, prog_10_method_1_code, none)
  | 122 => (⟨"OverFence$Trace", "mark", "(I)V"⟩, prog_10_method_2_code, none)
  | 123 => (⟨"OverFence$Wild", "<init>", "(II)V"⟩, prog_11_method_1_code, none)
  | 124 => (⟨"OverFence$Wild", "kind", "()I"⟩, prog_11_method_2_code, some .int)
  | 125 => (⟨"OverFence$Wild", "rise", "(II)I"⟩, prog_11_method_3_code, some .int)
  | 126 => (⟨"OverFence$Wild", "pays", "(ILOverFence$Trace;)I"⟩, prog_11_method_4_code, some .int)
  | 127 => (⟨"OverFence$Yard", "<init>", "()V"⟩, prog_12_method_1_code, none)
  | 128 => (⟨"OverFence$Yard", "takeOver", "(LOverFence$Yard;)V"⟩, prog_12_method_2_code, none)
  | 129 => (⟨"OverFence$Yard", "liftOf", "(LOverFence$Kick;IIII)I"⟩, prog_12_method_3_code, some .int)
  | 130 => (⟨"OverFence$Yard", "holds", "(II)Z"⟩, prog_12_method_4_code, some .boolean)
  | 131 => (⟨"OverFence$Yard", "read", "([BI)I"⟩, prog_12_method_5_code, some .int)
  | 132 => (⟨"OverFence$Yard", "readClause", "()V"⟩, prog_12_method_6_code, none)
  | 133 => (⟨"OverFence$Yard", "readWord", "()I"⟩, prog_12_method_7_code, some .int)
  | 134 => (⟨"OverFence$Yard", "spell", "(Ljava/lang/String;I)I"⟩, prog_12_method_8_code, some .int)
  | 135 => (⟨"OverFence$Yard", "readNumber", "()I"⟩, prog_12_method_9_code, some .int)
  | 136 => (⟨"OverFence$Yard", "readEither", "(I)V"⟩, prog_12_method_10_code, none)
  | 137 => (⟨"OverFence$Yard", "readBoth", "(I)V"⟩, prog_12_method_11_code, none)
  | 138 => (⟨"OverFence$Yard", "readFactor", "(I)V"⟩, prog_12_method_12_code, none)
  | 139 => (⟨"OverFence$Yard", "readTest", "()V"⟩, prog_12_method_13_code, none)
  | 140 => (⟨"OverFence$Yard", "readOneOf", "(Ljava/lang/String;)I"⟩, prog_12_method_14_code, some .int)
  | 141 => (⟨"OverFence$Yard", "addStep", "(II)V"⟩, prog_12_method_15_code, none)
  | 142 => (⟨"OverFence$Yard", "sees", "(C)Z"⟩, prog_12_method_16_code, some .boolean)
  | 143 => (⟨"OverFence$Yard", "seesDigit", "()Z"⟩, prog_12_method_17_code, some .boolean)
  | 144 => (⟨"OverFence$Yard", "skip", "(C)V"⟩, prog_12_method_18_code, none)
  | 145 => (⟨"OverFence$Yard", "fail", "()V"⟩, prog_12_method_19_code, none)
  | 146 => (⟨"OverFence", "<init>", "()V"⟩, prog_1_method_1_code, none)
  | 147 => (⟨"OverFence", "feed", "(I)I"⟩, prog_1_method_2_code, some .int)
  | 148 => (⟨"OverFence", "yard", "()I"⟩, prog_1_method_3_code, some .int)
  | 149 => (⟨"OverFence", "boy", "(II)I"⟩, prog_1_method_4_code, some .int)
  | 150 => (⟨"OverFence", "of", "(II)I"⟩, prog_1_method_5_code, some .int)
  | 151 => (⟨"OverFence", "bed", "(II)I"⟩, prog_1_method_6_code, some .int)
  | 152 => (⟨"OverFence", "set", "(II)I"⟩, prog_1_method_7_code, some .int)
  | 153 => (⟨"OverFence", "told", "(I)I"⟩, prog_1_method_8_code, some .int)
  | 154 => (⟨"OverFence", "height", "(II)I"⟩, prog_1_method_9_code, some .int)
  | 155 => (⟨"OverFence", "falls", "(II)I"⟩, prog_1_method_10_code, some .int)
  | 156 => (⟨"OverFence", "kick", "(II)I"⟩, prog_1_method_11_code, some .int)
  | 157 => (⟨"OverFence", "night", "()I"⟩, prog_1_method_12_code, some .int)
  | 158 => (⟨"OverFence", "odds", "(III)J"⟩, prog_1_method_13_code, some .long)
  | 159 => (⟨"OverFence", "turn", "(I)I"⟩, prog_1_method_14_code, some .int)
  | 160 => (⟨"OverFence", "need", "(I)I"⟩, prog_1_method_15_code, some .int)
  | 161 => (⟨"OverFence", "bar", "(I)I"⟩, prog_1_method_16_code, some .int)
  | 162 => (⟨"OverFence", "round", "(III)J"⟩, prog_1_method_17_code, some .long)
  | 163 => (⟨"OverFence", "rule", "(I)I"⟩, prog_1_method_18_code, some .int)
  | 164 => (⟨"OverFence", "owes", "(III)J"⟩, prog_1_method_19_code, some .long)
  | 165 => (⟨"OverFence", "who", "(I)I"⟩, prog_1_method_20_code, some .int)
  | 166 => (⟨"OverFence", "cover", "(I)I"⟩, prog_1_method_21_code, some .int)
  | 167 => (⟨"OverFence", "tale", "(III)I"⟩, prog_1_method_22_code, some .int)
  | 168 => (⟨"OverFence", "looked", "()I"⟩, prog_1_method_23_code, some .int)
  | 169 => (⟨"OverFence", "act", "(III)I"⟩, prog_1_method_24_code, some .int)
  | 170 => (⟨"OverFence", "trace", "(I)I"⟩, prog_1_method_25_code, some .int)
  | 171 => (⟨"OverFence", "as", "(II)I"⟩, prog_1_method_26_code, some .int)
  | 172 => (⟨"OverFence", "image", "()I"⟩, prog_1_method_27_code, some .int)
  | 173 => (⟨"OverFence", "undo", "()I"⟩, prog_1_method_28_code, some .int)
  | 174 => (⟨"OverFence", "count", "(I)I"⟩, prog_1_method_29_code, some .int)
  | 175 => (⟨"OverFence", "isAim", "(I)Z"⟩, prog_1_method_30_code, some .boolean)
  | 176 => (⟨"OverFence", "isPart", "(I)Z"⟩, prog_1_method_31_code, some .boolean)
  | 177 => (⟨"OverFence", "partOf", "(JJI)J"⟩, prog_1_method_32_code, some .long)
  | 178 => (⟨"OverFence", "commonDivisor", "(JJ)J"⟩, prog_1_method_33_code, some .long)
  | 179 => (⟨"OverFence", "newBoy", "(III)LOverFence$Kick;"⟩, prog_1_method_34_code, some (.object "OverFence$Kick"))
  | 180 => (⟨"OverFence", "isOfKind", "(LOverFence$Kick;I)Z"⟩, prog_1_method_35_code, some .boolean)
  | 181 => (⟨"java/lang/String", "length", "()I"⟩, prog_18_method_54_code, some .int)
  | 182 => (⟨"java/lang/String", "charAt", "(I)C"⟩, prog_18_method_56_code, some .char)
  | 183 => (⟨"java/lang/String", "indexOf", "(I)I"⟩, prog_18_method_79_code, some .int)
  | 184 => (⟨"java/lang/String", "indexOf", "(II)I"⟩, prog_18_method_80_code, some .int)
  | 185 => (⟨"java/lang/String", "coder", "()B"⟩, prog_18_method_152_code, some .byte)
  | 186 => (⟨"java/lang/String", "isLatin1", "()Z"⟩, prog_18_method_154_code, some .boolean)
  | 187 => (⟨"java/lang/String", "checkIndex", "(II)V"⟩, prog_18_method_155_code, none)
  | 188 => (⟨"java/lang/StringLatin1", "charAt", "([BI)C"⟩, prog_19_method_2_code, some .char)
  | 189 => (⟨"java/lang/StringLatin1", "canEncode", "(I)Z"⟩, prog_19_method_4_code, some .boolean)
  | 190 => (⟨"java/lang/StringLatin1", "indexOf", "([BIII)I"⟩, prog_19_method_22_code, some .int)
  | 191 => (⟨"java/lang/StringLatin1", "indexOfChar", "([BIII)I"⟩, prog_19_method_23_code, some .int)
  | 192 => (⟨"java/lang/Math", "max", "(II)I"⟩, prog_17_method_65_code, some .int)
  | 193 => (⟨"java/lang/Math", "min", "(II)I"⟩, prog_17_method_69_code, some .int)
  | 194 => (⟨"jdk/internal/util/Preconditions", "checkIndex", "(IILjava/util/function/BiFunction;)I"⟩, prog_23_method_11_code, some .int)
  | 195 => (⟨"java/util/Arrays", "fill", "([JJ)V"⟩, prog_22_method_101_code, none)
  | _ => (⟨"", "", ""⟩, ⟨#[]⟩, none)
