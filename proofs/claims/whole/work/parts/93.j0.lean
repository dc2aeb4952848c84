/-! Every method's contract, and the law's walk. -/
theorem all_Mk : ∀ i, i < 196 → am_mk am_md am_pg i
  | 0, _ => cm_k0
  | 1, _ => cm_k1
  | 2, _ => cm_k2
  | 3, _ => cm_k3
  | 4, _ => cm_k4
  | 5, _ => cm_k5
  | 6, _ => cm_k6
  | 7, _ => cm_k7
  | 8, _ => cm_k8
  | 9, _ => cm_k9
  | 10, _ => cm_k10
  | 11, _ => cm_k11
  | 12, _ => cm_k12
  | 13, _ => cm_k13
  | 14, _ => cm_k14
  | 15, _ => cm_k15
  | 16, _ => cm_k16
  | 17, _ => cm_k17
  | 18, _ => cm_k18
  | 19, _ => cm_k19
  | 20, _ => cm_k20
  | 21, _ => cm_k21
  | 22, _ => cm_k22
  | 23, _ => cm_k23
  | 24, _ => cm_k24
  | 25, _ => cm_k25
  | 26, _ => cm_k26
  | 27, _ => cm_k27
  | 28, _ => cm_k28
  | 29, _ => cm_k29
  | 30, _ => cm_k30
  | 31, _ => cm_k31
  | 32, _ => cm_k32
  | 33, _ => cm_k33
  | 34, _ => cm_k34
  | 35, _ => cm_k35
  | 36, _ => cm_k36
  | 37, _ => cm_k37
  | 38, _ => cm_k38
  | 39, _ => cm_k39
  | 40, _ => cm_k40
  | 41, _ => cm_k41
  | 42, _ => cm_k42
  | 43, _ => cm_k43
  | 44, _ => cm_k44
  | 45, _ => cm_k45
  | 46, _ => cm_k46
  | 47, _ => cm_k47
  | 48, _ => cm_k48
  | 49, _ => cm_k49
  | 50, _ => cm_k50
  | 51, _ => cm_k51
  | 52, _ => cm_k52
  | 53, _ => cm_k53
  | 54, _ => cm_k54
  | 55, _ => cm_k55
  | 56, _ => cm_k56
  | 57, _ => cm_k57
  | 58, _ => cm_k58
  | 59, _ => cm_k59
  | 60, _ => cm_k60
  | 61, _ => cm_k61
  | 62, _ => cm_k62
  | 63, _ => cm_k63
  | 64, _ => cm_k64
  | 65, _ => cm_k65
  | 66, _ => cm_k66
  | 67, _ => cm_k67
  | 68, _ => cm_k68
  | 69, _ => cm_k69
  | 70, _ => cm_k70
  | 71, _ => cm_k71
  | 72, _ => cm_k72
  | 73, _ => cm_k73
  | 74, _ => cm_k74
  | 75, _ => cm_k75
  | 76, _ => cm_k76
  | 77, _ => cm_k77
  | 78, _ => cm_k78
  | 79, _ => cm_k79
  | 80, _ => cm_k80
  | 81, _ => cm_k81
  | 82, _ => cm_k82
  | 83, _ => cm_k83
  | 84, _ => cm_k84
  | 85, _ => cm_k85
  | 86, _ => cm_k86
  | 87, _ => cm_k87
  | 88, _ => cm_k88
  | 89, _ => cm_k89
  | 90, _ => cm_k90
  | 91, _ => cm_k91
  | 92, _ => cm_k92
  | 93, _ => cm_k93
  | 94, _ => cm_k94
  | 95, _ => cm_k95
  | 96, _ => cm_k96
  | 97, _ => cm_k97
  | 98, _ => cm_k98
  | 99, _ => cm_k99
  | 100, _ => cm_k100
  | 101, _ => cm_k101
  | 102, _ => cm_k102
  | 103, _ => cm_k103
  | 104, _ => cm_k104
  | 105, _ => cm_k105
  | 106, _ => cm_k106
  | 107, _ => cm_k107
  | 108, _ => cm_k108
  | 109, _ => cm_k109
  | 110, _ => cm_k110
  | 111, _ => cm_k111
  | 112, _ => cm_k112
  | 113, _ => cm_k113
  | 114, _ => cm_k114
  | 115, _ => cm_k115
  | 116, _ => cm_k116
  | 117, _ => cm_k117
  | 118, _ => cm_k118
  | 119, _ => cm_k119
  | 120, _ => cm_k120
  | 121, _ => cm_k121
  | 122, _ => cm_k122
  | 123, _ => cm_k123
  | 124, _ => cm_k124
  | 125, _ => cm_k125
  | 126, _ => cm_k126
  | 127, _ => cm_k127
  | 128, _ => cm_k128
  | 129, _ => cm_k129
  | 130, _ => cm_k130
  | 131, _ => cm_k131
  | 132, _ => cm_k132
  | 133, _ => cm_k133
  | 134, _ => cm_k134
  | 135, _ => cm_k135
  | 136, _ => cm_k136
  | 137, _ => cm_k137
  | 138, _ => cm_k138
  | 139, _ => cm_k139
  | 140, _ => cm_k140
  | 141, _ => cm_k141
  | 142, _ => cm_k142
  | 143, _ => cm_k143
  | 144, _ => cm_k144
  | 145, _ => cm_k145
  | 146, _ => cm_k146
  | 147, _ => cm_k147
  | 148, _ => cm_k148
  | 149, _ => cm_k149
  | 150, _ => cm_k150
  | 151, _ => cm_k151
  | 152, _ => cm_k152
  | 153, _ => cm_k153
  | 154, _ => cm_k154
  | 155, _ => cm_k155
  | 156, _ => cm_k156
  | 157, _ => cm_k157
  | 158, _ => cm_k158
  | 159, _ => cm_k159
  | 160, _ => cm_k160
  | 161, _ => cm_k161
  | 162, _ => cm_k162
  | 163, _ => cm_k163
  | 164, _ => cm_k164
  | 165, _ => cm_k165
  | 166, _ => cm_k166
  | 167, _ => cm_k167
  | 168, _ => cm_k168
  | 169, _ => cm_k169
  | 170, _ => cm_k170
  | 171, _ => cm_k171
  | 172, _ => cm_k172
  | 173, _ => cm_k173
  | 174, _ => cm_k174
  | 175, _ => cm_k175
  | 176, _ => cm_k176
  | 177, _ => cm_k177
  | 178, _ => cm_k178
  | 179, _ => cm_k179
  | 180, _ => cm_k180
  | 181, _ => cm_k181
  | 182, _ => cm_k182
  | 183, _ => cm_k183
  | 184, _ => cm_k184
  | 185, _ => cm_k185
  | 186, _ => cm_k186
  | 187, _ => cm_k187
  | 188, _ => cm_k188
  | 189, _ => cm_k189
  | 190, _ => cm_k190
  | 191, _ => cm_k191
  | 192, _ => cm_k192
  | 193, _ => cm_k193
  | 194, _ => cm_k194
  | 195, _ => cm_k195
  | n + 196, h => absurd h (by omega)
theorem all_ok : ∀ i, i < 196 → ∃ cert, am_mok am_md am_pg 196 i cert = true
  | 0, _ => ⟨_, ck_0⟩
  | 1, _ => ⟨_, ck_1⟩
  | 2, _ => ⟨_, ck_2⟩
  | 3, _ => ⟨_, ck_3⟩
  | 4, _ => ⟨_, ck_4⟩
  | 5, _ => ⟨_, ck_5⟩
  | 6, _ => ⟨_, ck_6⟩
  | 7, _ => ⟨_, ck_7⟩
  | 8, _ => ⟨_, ck_8⟩
  | 9, _ => ⟨_, ck_9⟩
  | 10, _ => ⟨_, ck_10⟩
  | 11, _ => ⟨_, ck_11⟩
  | 12, _ => ⟨_, ck_12⟩
  | 13, _ => ⟨_, ck_13⟩
  | 14, _ => ⟨_, ck_14⟩
  | 15, _ => ⟨_, ck_15⟩
  | 16, _ => ⟨_, ck_16⟩
  | 17, _ => ⟨_, ck_17⟩
  | 18, _ => ⟨_, ck_18⟩
  | 19, _ => ⟨_, ck_19⟩
  | 20, _ => ⟨_, ck_20⟩
  | 21, _ => ⟨_, ck_21⟩
  | 22, _ => ⟨_, ck_22⟩
  | 23, _ => ⟨_, ck_23⟩
  | 24, _ => ⟨_, ck_24⟩
  | 25, _ => ⟨_, ck_25⟩
  | 26, _ => ⟨_, ck_26⟩
  | 27, _ => ⟨_, ck_27⟩
  | 28, _ => ⟨_, ck_28⟩
  | 29, _ => ⟨_, ck_29⟩
  | 30, _ => ⟨_, ck_30⟩
  | 31, _ => ⟨_, ck_31⟩
  | 32, _ => ⟨_, ck_32⟩
  | 33, _ => ⟨_, ck_33⟩
  | 34, _ => ⟨_, ck_34⟩
  | 35, _ => ⟨_, ck_35⟩
  | 36, _ => ⟨_, ck_36⟩
  | 37, _ => ⟨_, ck_37⟩
  | 38, _ => ⟨_, ck_38⟩
  | 39, _ => ⟨_, ck_39⟩
  | 40, _ => ⟨_, ck_40⟩
  | 41, _ => ⟨_, ck_41⟩
  | 42, _ => ⟨_, ck_42⟩
  | 43, _ => ⟨_, ck_43⟩
  | 44, _ => ⟨_, ck_44⟩
  | 45, _ => ⟨_, ck_45⟩
  | 46, _ => ⟨_, ck_46⟩
  | 47, _ => ⟨_, ck_47⟩
  | 48, _ => ⟨_, ck_48⟩
  | 49, _ => ⟨_, ck_49⟩
  | 50, _ => ⟨_, ck_50⟩
  | 51, _ => ⟨_, ck_51⟩
  | 52, _ => ⟨_, ck_52⟩
  | 53, _ => ⟨_, ck_53⟩
  | 54, _ => ⟨_, ck_54⟩
  | 55, _ => ⟨_, ck_55⟩
  | 56, _ => ⟨_, ck_56⟩
  | 57, _ => ⟨_, ck_57⟩
  | 58, _ => ⟨_, ck_58⟩
  | 59, _ => ⟨_, ck_59⟩
  | 60, _ => ⟨_, ck_60⟩
  | 61, _ => ⟨_, ck_61⟩
  | 62, _ => ⟨_, ck_62⟩
  | 63, _ => ⟨_, ck_63⟩
  | 64, _ => ⟨_, ck_64⟩
  | 65, _ => ⟨_, ck_65⟩
  | 66, _ => ⟨_, ck_66⟩
  | 67, _ => ⟨_, ck_67⟩
  | 68, _ => ⟨_, ck_68⟩
  | 69, _ => ⟨_, ck_69⟩
  | 70, _ => ⟨_, ck_70⟩
  | 71, _ => ⟨_, ck_71⟩
  | 72, _ => ⟨_, ck_72⟩
  | 73, _ => ⟨_, ck_73⟩
  | 74, _ => ⟨_, ck_74⟩
  | 75, _ => ⟨_, ck_75⟩
  | 76, _ => ⟨_, ck_76⟩
  | 77, _ => ⟨_, ck_77⟩
  | 78, _ => ⟨_, ck_78⟩
  | 79, _ => ⟨_, ck_79⟩
  | 80, _ => ⟨_, ck_80⟩
  | 81, _ => ⟨_, ck_81⟩
  | 82, _ => ⟨_, ck_82⟩
  | 83, _ => ⟨_, ck_83⟩
  | 84, _ => ⟨_, ck_84⟩
  | 85, _ => ⟨_, ck_85⟩
  | 86, _ => ⟨_, ck_86⟩
  | 87, _ => ⟨_, ck_87⟩
  | 88, _ => ⟨_, ck_88⟩
  | 89, _ => ⟨_, ck_89⟩
  | 90, _ => ⟨_, ck_90⟩
  | 91, _ => ⟨_, ck_91⟩
  | 92, _ => ⟨_, ck_92⟩
  | 93, _ => ⟨_, ck_93⟩
  | 94, _ => ⟨_, ck_94⟩
  | 95, _ => ⟨_, ck_95⟩
  | 96, _ => ⟨_, ck_96⟩
  | 97, _ => ⟨_, ck_97⟩
  | 98, _ => ⟨_, ck_98⟩
  | 99, _ => ⟨_, ck_99⟩
  | 100, _ => ⟨_, ck_100⟩
  | 101, _ => ⟨_, ck_101⟩
  | 102, _ => ⟨_, ck_102⟩
  | 103, _ => ⟨_, ck_103⟩
  | 104, _ => ⟨_, ck_104⟩
  | 105, _ => ⟨_, ck_105⟩
  | 106, _ => ⟨_, ck_106⟩
  | 107, _ => ⟨_, ck_107⟩
  | 108, _ => ⟨_, ck_108⟩
  | 109, _ => ⟨_, ck_109⟩
  | 110, _ => ⟨_, ck_110⟩
  | 111, _ => ⟨_, ck_111⟩
  | 112, _ => ⟨_, ck_112⟩
  | 113, _ => ⟨_, ck_113⟩
  | 114, _ => ⟨_, ck_114⟩
  | 115, _ => ⟨_, ck_115⟩
  | 116, _ => ⟨_, ck_116⟩
  | 117, _ => ⟨_, ck_117⟩
  | 118, _ => ⟨_, ck_118⟩
  | 119, _ => ⟨_, ck_119⟩
  | 120, _ => ⟨_, ck_120⟩
  | 121, _ => ⟨_, ck_121⟩
  | 122, _ => ⟨_, ck_122⟩
  | 123, _ => ⟨_, ck_123⟩
  | 124, _ => ⟨_, ck_124⟩
  | 125, _ => ⟨_, ck_125⟩
  | 126, _ => ⟨_, ck_126⟩
  | 127, _ => ⟨_, ck_127⟩
  | 128, _ => ⟨_, ck_128⟩
  | 129, _ => ⟨_, ck_129⟩
  | 130, _ => ⟨_, ck_130⟩
  | 131, _ => ⟨_, ck_131⟩
  | 132, _ => ⟨_, ck_132⟩
  | 133, _ => ⟨_, ck_133⟩
  | 134, _ => ⟨_, ck_134⟩
  | 135, _ => ⟨_, ck_135⟩
  | 136, _ => ⟨_, ck_136⟩
  | 137, _ => ⟨_, ck_137⟩
  | 138, _ => ⟨_, ck_138⟩
  | 139, _ => ⟨_, ck_139⟩
  | 140, _ => ⟨_, ck_140⟩
  | 141, _ => ⟨_, ck_141⟩
  | 142, _ => ⟨_, ck_142⟩
  | 143, _ => ⟨_, ck_143⟩
  | 144, _ => ⟨_, ck_144⟩
  | 145, _ => ⟨_, ck_145⟩
  | 146, _ => ⟨_, ck_146⟩
  | 147, _ => ⟨_, ck_147⟩
  | 148, _ => ⟨_, ck_148⟩
  | 149, _ => ⟨_, ck_149⟩
  | 150, _ => ⟨_, ck_150⟩
  | 151, _ => ⟨_, ck_151⟩
  | 152, _ => ⟨_, ck_152⟩
  | 153, _ => ⟨_, ck_153⟩
  | 154, _ => ⟨_, ck_154⟩
  | 155, _ => ⟨_, ck_155⟩
  | 156, _ => ⟨_, ck_156⟩
  | 157, _ => ⟨_, ck_157⟩
  | 158, _ => ⟨_, ck_158⟩
  | 159, _ => ⟨_, ck_159⟩
  | 160, _ => ⟨_, ck_160⟩
  | 161, _ => ⟨_, ck_161⟩
  | 162, _ => ⟨_, ck_162⟩
  | 163, _ => ⟨_, ck_163⟩
  | 164, _ => ⟨_, ck_164⟩
  | 165, _ => ⟨_, ck_165⟩
  | 166, _ => ⟨_, ck_166⟩
  | 167, _ => ⟨_, ck_167⟩
  | 168, _ => ⟨_, ck_168⟩
  | 169, _ => ⟨_, ck_169⟩
  | 170, _ => ⟨_, ck_170⟩
  | 171, _ => ⟨_, ck_171⟩
  | 172, _ => ⟨_, ck_172⟩
  | 173, _ => ⟨_, ck_173⟩
  | 174, _ => ⟨_, ck_174⟩
  | 175, _ => ⟨_, ck_175⟩
  | 176, _ => ⟨_, ck_176⟩
  | 177, _ => ⟨_, ck_177⟩
  | 178, _ => ⟨_, ck_178⟩
  | 179, _ => ⟨_, ck_179⟩
  | 180, _ => ⟨_, ck_180⟩
  | 181, _ => ⟨_, ck_181⟩
  | 182, _ => ⟨_, ck_182⟩
  | 183, _ => ⟨_, ck_183⟩
  | 184, _ => ⟨_, ck_184⟩
  | 185, _ => ⟨_, ck_185⟩
  | 186, _ => ⟨_, ck_186⟩
  | 187, _ => ⟨_, ck_187⟩
  | 188, _ => ⟨_, ck_188⟩
  | 189, _ => ⟨_, ck_189⟩
  | 190, _ => ⟨_, ck_190⟩
  | 191, _ => ⟨_, ck_191⟩
  | 192, _ => ⟨_, ck_192⟩
  | 193, _ => ⟨_, ck_193⟩
  | 194, _ => ⟨_, ck_194⟩
  | 195, _ => ⟨_, ck_195⟩
  | n + 196, h => absurd h (by omega)
section MWF
variable {l : Launch}
/-- as Met.ofW, of any method that no native row stands for -/
theorem Met.ofWF {y : MethodName} {ws ws' : List Cond} {rm : Room} {Pc : Array Value → State → Prop} {Qc : Array Value → State → Outcome → State → Prop} {mc ms : Nat} {free : Addr → Prop} {cc : ByteArray} {maxL : Nat} {ret : Option FieldType} (hy : plainFor y = true) (hw : ws = Cond.code y cc maxL ret :: ws') (body : ∀ p e s m args below meth c s₁, BodyLoose p l y (headSpec ws rm) cc maxL ret e s m args below meth c s₁ → c.maxLocals = maxL → Pc args s → W p l e (headSpec ws rm).room s m args below meth c s.heap [] 0 0 (MQ below Qc args s mc ms free) (entryFrame m args maxL)) : Met l y ws rm Pc Qc mc ms free := by
  refine MetFree.of_bodySF (code := cc) (maxLocals := maxL) (ret := ret) hy ?_ ?_
  · intro args s m h hn
    obtain ⟨meth, c, h1, h2, h3, h4, h5, h6, -, -⟩ := Cond.code_spec hn (atoms_spec (ws := ws) h _ (by rw [hw]; exact List.mem_cons_self))
    exact ⟨meth, c, h1, h2, h3, h4, h5, h6⟩
  · intro p e s m args below meth c s₁ B hml hP _
    have hh0 : s₁.heap = s.heap := by rw [B.state]; rfl
    obtain ⟨t, a1, o, b1, b2, b3⟩ := body p e s m args below meth c s₁ B hml hP s₁ hh0 (Stand.of_body B)
    exact ⟨t, o, a1, b1, b2, ⟨b3.1, b3.2⟩⟩
end MWF
theorem am_soundF {l : Launch} {g : am_G} {O : am_O} {md : am_D} {pg : Nat → am_M} {NM : Nat} (ho : am_ov g) (hO : ∀ q, (O q).1 < 2 ^ 31) (hO40 : (O 40).1 ≤ 2200) (hMk : ∀ i, i < NM → am_mk md pg i) (hpl : ∀ i, i < NM → plainFor (md i).1 = true) (hok : ∀ i, i < NM → ∃ cert, am_mok md pg NM i cert = true) (hpg : ∀ i, NM ≤ i → (pg i).2.2 = []) : ∀ d, am_met l g O md pg d (am_run O pg d)
  | 0 => fun _ _ _ _ h => h.elim
  | d + 1 => by
    intro i as h P hC
    obtain ⟨hsz, hC⟩ := hC
    by_cases hi : i < NM
    · refine Met.ofWF (cc := (md i).2.1) (maxL := (pg i).1) (ret := (md i).2.2) (hpl i hi) rfl ?_
      intro p e s m args below meth c s₁ B hml hv
      obtain ⟨rfl, hR, hF1, hF2⟩ := hv
      have hts0 := atoms_spec (ws := am_ws md pg i) B.pre
      have hts : ∀ w ∈ am_tb, w.before ((as.map (am_v g)).toArray) s = true := fun w hw => hts0 w (List.mem_cons_of_mem _ hw)
      have hown : s.vm.findClass (md i).1.cls = some m.cls := findClass_of_methodNamed B.named
      have hnm : meth.name = (md i).1.name := (name_of_methodNamed B.named B.method).1
      obtain ⟨cert, hcert⟩ := hok i hi
      rw [lg_entry_eq]
      refine hC (am_Jm p l e (headSpec (am_ws md pg i) (am_rm (d + 1) (pg i).2.1)).room s m ((as.map (am_v g)).toArray) below meth c (MQ below (am_Q g P) ((as.map (am_v g)).toArray) s (pg i).2.1 (2200 * (pg i).2.1) (am_A0 g)) g (pg i).1 (pg i).2.1) ?_ s.heap [] _ hR va_S.rf (am_l0_lr ho hsz) (Nat.zero_le _)
      intro a q hf u L st h' hB
      obtain ⟨cs, hcs⟩ := am_mok_at hcert hf
      exact am_bk_sound (d := d) (md := md) (pg := pg) (NM := NM) (own := (md i).1.cls) (nm := (md i).1.name) (ret := (md i).2.2) B.exec B.bytes hml hown hnm hts ho hF1 hF2 hO hO40 (Nat.le_refl _) (Nat.le_refl _) (Nat.le_refl _) (Nat.le_refl _) (am_soundF ho hO hO40 hMk hpl hok hpg d) hMk (am_rt_met B.exec B.bytes B.returns B.notSynchronized) hcs hB
    · exfalso
      refine hC (fun _ _ _ _ _ => False) ?_
      intro a q hf
      rw [hpg i (by omega)] at hf
      cases hf
theorem all_pl1 : ∀ i, i < 196 → i = 192 ∨ i = 193 ∨ plainName (am_md i).1.cls = true := by decide +kernel
theorem all_pl : ∀ i, i < 196 → plainFor (am_md i).1 = true := by
  intro i hi
  rcases all_pl1 i hi with rfl | rfl | h
  · show plainFor ⟨"java/lang/Math", "max", "(II)I"⟩ = true
    decide +kernel
  · show plainFor ⟨"java/lang/Math", "min", "(II)I"⟩ = true
    decide +kernel
  · exact plainFor_of_name h
theorem all_pg : ∀ i, 196 ≤ i → (am_pg i).2.2 = [] := by
  intro i hi
  obtain ⟨k, rfl⟩ : ∃ k, i = k + 196 := ⟨i - 196, by omega⟩
  rfl
/-! THE CLAIM OUT OF ONE WALK OF THE LAW'S BODY. Your part is whole_start (and what it stands on); all else here is the same for every law, but numbers. -/
def R_law : String := "OverFenceLaw"
def lw_P (b : Addr) (xs : List Int32) (args : Array Value) (s : State) : Prop := args = #[.ref b] ∧ s.IntsAt b xs ∧ xs.length ≤ 256 ∧ (Jvm.Cond.and given_1 narrow_1).before args s = true
def lw_Q (_ : Array Value) (s : State) (o : Outcome) (t : State) : Prop := o = .returned (some (.int 1)) ∧ Framed s o t [] 600000 7302250
def lw_Z (below : List Frame) (a : Array Value) (s : State) : State → Prop := fun t => ∃ o, t.status = .running ∧ Ended t below o ∧ lw_Q a s o t
/-- the law's own end, with 1 on the stack, nothing written that was there before, its room as the claim has it -/
theorem lw_ret {p : Program} {l : Launch} {e : Env} {s : State} {m : MethodId} {below : List Frame} {meth : Method} {c : Code} {b : Nat} (hx : p.tables.exec = Jvm.exec) (hb : c.code = code) (hr : meth.sig.returnType = ret) (hlocks : meth.locks = false) {pc : Nat} {H : Heap} {ls : Array Slot} (hdg : decode code pc = .ok (.ireturn, 1)) : W p l e room_1 s m #[Value.ref b] below meth c H [] 600000 7302250 (lw_Z below #[Value.ref b] s) (F0 m pc ls [.int 1]) := by
  intro T hT X
  obtain ⟨fs, hret, hrun, hended, hW, hframe⟩ := X.leave (v := some (.int 1)) (hlocks := hlocks) (fun h => by rw [hr] at h; cases h)
  have hmeth' : T.vm.method? m = some meth := X.method'
  refine ⟨T.setFrames fs, ?_, .returned (some (.int 1)), hrun, hended, rfl, ⟨_, rfl⟩, hW, hframe⟩
  jvm_step X.here [X.here.top, hx, hb, hdg, hmeth', hr, ret, narrow_b1]
  (try refine ⟨rfl, ?_⟩); (try refine ⟨rfl, ?_⟩)
  first | (intro acts; rw [hret _ acts rfl rfl rfl]) | rw [hret _ _ rfl rfl rfl]
  exact Steps.refl _
/-- what holds at the law's entry: the machine, the code, the tables' words (any of lw_tbl by 'hts w (by decide +kernel)'), the script of L ints xs at the cell b, what the Statement gives of the start (any of its parts by flat_of_before) -/
def lw_At (p : Program) (s : State) (m : MethodId) (meth : Method) (c : Code) (b L : Nat) (xs : Nat → Int32) : Prop :=
  p.tables.exec = Jvm.exec ∧ c.code = code ∧ meth.sig.returnType = ret ∧ c.maxLocals = 4 ∧ s.vm.findClass R_law = some m.cls ∧ (∀ w ∈ lw_tbl, w.before #[Value.ref b] s = true) ∧ va_X b L xs s s.heap ∧ b < s.heap.size ∧ meth.locks = false ∧ (Jvm.Cond.and given_1 narrow_1).before #[Value.ref b] s = true ∧ meth.name = "law"
/-- YOUR PART: from the entry, for every script of at most 256 ints, the law comes to its end with true -/
theorem whole_start {p : Program} {e : Env} {s : State} {m : MethodId} {below : List Frame} {meth : Method} {c : Code} (l : Launch) {b L : Nat} {xs : Nat → Int32} (hL : L ≤ 256) (C0 : lw_At p s m meth c b L xs) : W p l e room_1 s m #[Value.ref b] below meth c s.heap [] 0 0 (lw_Z below #[Value.ref b] s) (entryFrame m ([Value.ref b] : List Value).toArray 4) := by
  obtain ⟨hx, hb, hret, hml, hown, hts, hX, hbl, hlk, hgv, hnm⟩ := C0
  obtain ⟨g, hg1, hg43, hov, hF1, hF2⟩ := st_all hts hgv hX
  have hts' : ∀ w ∈ am_tb, w.before #[Value.ref b] s = true := fun w hw => hts w (List.mem_filter.mp hw).1
  have hO : ∀ q, (O1 L xs q).1 < 2 ^ 31 := O1_lt hL
  have hO40 : (O1 L xs 40).1 ≤ 2200 := by show 10 ≤ 2200; decide
  have hrt : am_rt p l e room_1 s m #[Value.ref b] below meth c (lw_Z below #[Value.ref b] s) g code ret 200 lwP := by
    intro u h r H locs ls pc hu hP hR hS hk
    cases hP
    refine va_forget (fun q hq => by have := hS.2.2 q hq; unfold am_A0 at this; rw [hg1] at this; exact this) ?_
    refine W.widen (k := 600000) (n := 7302250) (by omega) (by omega) ?_
    exact lw_ret hx hb hret hlk hk.1
  have hC := am_soundF (l := l) (g := g) (O := O1 L xs) hov hO hO40 all_Mk all_pl all_ok all_pg 40
  have hJ : am_Jm p l e room_1 s m #[Value.ref b] below meth c (lw_Z below #[Value.ref b] s) g 4 200 0 0 [some (.retAddr 43), none, none, none] [] [] := by
    refine law_abs (O := O1 L xs) (L := L) ?_ (O1_ok L xs) rfl hL rfl (fun _ _ => rfl)
    intro a q hf u L' st h' hB
    obtain ⟨cs, hcs⟩ := ck_law_at hf
    exact am_bk_sound (d := 40) (md := am_md) (pg := am_pg) (NM := 196) (own := "OverFenceLaw") (nm := "law") (ret := ret) hx hb hml hown hnm hts' hov hF1 hF2 hO hO40 (by decide) (by decide) (by decide) (by decide) hC all_Mk hrt hcs hB
  have hv : [Value.retAddr 43].map (am_v g) = [Value.ref b] := by
    show [g.2.1 43] = _
    rw [hg43]
  have hlr := am_l0_lr (g := g) hov (as := [.retAddr 43]) (nL := 4) (by decide)
  rw [hv] at hlr
  rw [lg_entry_eq]
  exact hJ s.heap [] _ ⟨by rw [hg1]; rfl, fun k q hq => by simp [am_w] at hq⟩ va_S.rf hlr (Nat.zero_le _)
