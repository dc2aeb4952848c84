theorem ck_law_at {a : Nat} {q : Nat × List am_A} (hf : am_find mc_law.2.2 a = some q) : ∃ cs, am_bk am_md am_pg 196 "OverFenceLaw" "law" ret 4 code q.1 a q.2 cs = true := ck_law (a, q) (am_find_mem hf)
/-- the numbers at the start -/
def r0 (j : Nat) : Int32 := if j = 143 then 5 else if j = 383 then 5 else if j = 623 then 5 else if j = 743 then 5 else if j = 144 then 18 else if j = 384 then 18 else if j = 624 then 18 else if j = 744 then 18 else 0
def a0 (f : Nat → Int32) (c : Nat) : Nat → Int32 := if c = 2 then f else if c = 14 then f else if c = 26 then f else if c = 46 then upd (upd (upd (upd (fun _ => 0) 14 (- nI 1)) 2 (nI 2)) 3 (nI 3)) 4 (nI 15) else fun _ => 0
theorem st_wd {O : am_O} (hO : (O 40).1 = 10) : oC O 0 ++ mC 45 = wd r0 (a0 (O 40).2) (fun _ _ => none) (fun _ _ => 0) 0 (.retAddr 44) 51 52 [] := by
  unfold oC sC
  rw [hO]
  rfl
def q0 (j : Nat) : Nat := if j = 2 then 2 else if j = 3 then 3 else if j = 4 then 15 else 0
/-- the image, on both sides -/
def IM (N : Nat) (r : Nat → Int32) (a : Nat → Nat → Int32) (k : Nat → Nat → Option Nat) (B : am_H) : Prop := (r 6 = nI 0 ∧ r 904 = nI 0) ∨ (r 6 = nI 1 ∧ r 904 = nI 1 ∧ ∃ (q' : Nat → Nat) (tk' : List (Nat × Nat)) (wl' sp' : Nat), MR (a 47) q' tk' wl' sp' ∧ QR N q' ∧ YR tk' wl' sp' ∧ CR B (a 14) (a 15) (a 17) (a 18) (a 20) (a 22) (a 23) (a 24) (k 16) (r 264) (r 266) (r 268) (r 272) (r 382) (r 383) (r 384) q' tk' wl' sp' ∧ KR B (k 16))
/-- the traces, on both sides -/
def TR (r : Nat → Int32) (a : Nat → Nat → Int32) (bl : List Nat) : Prop := r 861 = nI bl.length ∧ tb (a 44) bl ∧ r 916 = nI bl.length ∧ tb (a 54) bl ∧ bl.length ≤ 19
def OO2 (o1 o2 : Nat) : Prop := (o1 = 51 ∧ o2 = 52) ∨ (o1 = 52 ∧ o2 = 51)
/-- what holds between calls -/
def LI (N : Nat) (h : am_H) : Prop := ∃ (r : Nat → Int32) (a : Nat → Nat → Int32) (k : Nat → Nat → Option Nat) (l : Nat → Nat → Int64) (w : Int64) (t : Value) (o1 o2 : Nat) (B : am_H) (q : Nat → Nat) (tk : List (Nat × Nat)) (wl sp : Nat) (bl : List Nat), h = wd r a k l w t o1 o2 B ∧ MR (a 46) q tk wl sp ∧ QR N q ∧ YR tk wl sp ∧ CR B (a 2) (a 3) (a 5) (a 6) (a 8) (a 10) (a 11) (a 12) (k 4) (r 24) (r 26) (r 28) (r 32) (r 142) (r 143) (r 144) q tk wl sp ∧ KR B (k 4) ∧ TR r a bl ∧ OO2 o1 o2 ∧ IM N r a k B
theorem CR_B {B B' : am_H} {fn fb fp ft fs f10 f11 f12 : Nat → Int32} {kb : Nat → Option Nat} {x4 x6 x8 x12 z2 z3 z4 : Int32} {q : Nat → Nat} {tk : List (Nat × Nat)} {wl sp : Nat} (h : CR B fn fb fp ft fs f10 f11 f12 kb x4 x6 x8 x12 z2 z3 z4 q tk wl sp) (hB : ∀ (m : Nat) x, B[m]? = some x → B'[m]? = some x) : CR B' fn fb fp ft fs f10 f11 f12 kb x4 x6 x8 x12 z2 z3 z4 q tk wl sp := by
  obtain ⟨hn, hbd, hpn, hbo, hr⟩ := h
  refine ⟨hn, hbd, hpn, fun i hi => ?_, hr⟩
  obtain ⟨m, h1, h2, h3⟩ := hbo i hi
  exact ⟨m, h1, hB m _ h2, h3⟩
/-- what a call of the reference leaves as it was -/
def FM (r : Nat → Int32) (a : Nat → Nat → Int32) (r' : Nat → Int32) (a' : Nat → Nat → Int32) : Prop := (∀ j, j < 900 → r' j = r j) ∧ r' 904 = r 904 ∧ r' 916 = r 916 ∧ (∀ c, c < 46 → a' c = a c) ∧ a' 47 = a 47 ∧ a' 54 = a 54
theorem IM_s {N M : Nat} {r r' r2 : Nat → Int32} {a a' a2 : Nat → Nat → Int32} {k k' : Nat → Nat → Option Nat} {l l' : Nat → Nat → Int64} {B B' : am_H} (h : IM N r a k B) (hF : FC r a k l B r' a' k' l' B') (hM : FM r' a' r2 a2) (hN : N ≤ M) (hM2 : M ≤ 100000) : IM M r2 a2 k' B' := by
  obtain ⟨f1, f2, f3, f4, f5, f6, f7, f8, f9, f10, f11⟩ := hF
  obtain ⟨m1, m2, m3, m4, m5, m6⟩ := hM
  have e6 : r2 6 = r 6 := by rw [m1 6 (by omega), f8]
  have e904 : r2 904 = r 904 := by rw [m2, f1 904 (by omega)]
  have e47 : a2 47 = a 47 := by rw [m5, f2 47 (by omega)]
  have ea : ∀ c, 13 ≤ c → c ≤ 24 → a2 c = a c := fun c h1 h2 => by rw [m4 c (by omega), f4 c h1 h2]
  have er : ∀ j, 260 ≤ j → j < 500 → r2 j = r j := fun j h1 h2 => by rw [m1 j (by omega), f5 j h1 h2]
  rcases h with ⟨h1, h2⟩ | ⟨h1, h2, q', tk', wl', sp', g1, g2, g3, g4, g5⟩
  · exact Or.inl ⟨by rw [e6]; exact h1, by rw [e904]; exact h2⟩
  · refine Or.inr ⟨by rw [e6]; exact h1, by rw [e904]; exact h2, q', tk', wl', sp', by rw [e47]; exact g1, QR_mono g2 hN hM2, g3, ?_, by rw [f6]; exact KR_m g5 f7⟩
    rw [ea 14 (by omega) (by omega), ea 15 (by omega) (by omega), ea 17 (by omega) (by omega), ea 18 (by omega) (by omega), ea 20 (by omega) (by omega), ea 22 (by omega) (by omega), ea 23 (by omega) (by omega), ea 24 (by omega) (by omega), er 264 (by omega) (by omega), er 266 (by omega) (by omega), er 268 (by omega) (by omega), er 272 (by omega) (by omega), er 382 (by omega) (by omega), er 383 (by omega) (by omega), er 384 (by omega) (by omega), f6]
    exact CR_B g4 f7
theorem TR_s {r r' r2 : Nat → Int32} {a a' a2 : Nat → Nat → Int32} {k k' : Nat → Nat → Option Nat} {l l' : Nat → Nat → Int64} {B B' : am_H} {bl : List Nat} (h : TR r a bl) (hF : FC r a k l B r' a' k' l' B') (hM : FM r' a' r2 a2) : TR r2 a2 bl := by
  obtain ⟨f1, f2, f3, f4, f5, f6, f7, f8, f9, f10, f11⟩ := hF
  obtain ⟨m1, m2, m3, m4, m5, m6⟩ := hM
  obtain ⟨t1, t2, t3, t4, t5⟩ := h
  exact ⟨by rw [m1 861 (by omega), f9]; exact t1, by rw [m4 44 (by omega), f10]; exact t2, by rw [m3, f1 916 (by omega)]; exact t3, by rw [m6, f2 54 (by omega)]; exact t4, t5⟩
/-- a call of the class and one of the reference keep it -/
theorem LI_s {N M : Nat} {r r' r2 : Nat → Int32} {a a' a2 : Nat → Nat → Int32} {k k' : Nat → Nat → Option Nat} {l l' l2 : Nat → Nat → Int64} {w' : Int64} {t' : Value} {p1 p2 : Nat} {B B' : am_H} {bl : List Nat} {q' : Nat → Nat} {tk' : List (Nat × Nat)} {wl' sp' : Nat} (hK : KR B (k 4)) (hT : TR r a bl) (hI : IM N r a k B) (hN : N ≤ M) (hM2 : M ≤ 100000) (hF : FC r a k l B r' a' k' l' B') (hC : CR B' (a' 2) (a' 3) (a' 5) (a' 6) (a' 8) (a' 10) (a' 11) (a' 12) (k' 4) (r' 24) (r' 26) (r' 28) (r' 32) (r' 142) (r' 143) (r' 144) q' tk' wl' sp') (hM : FM r' a' r2 a2) (hMR : MR (a2 46) q' tk' wl' sp') (hQ : QR M q') (hY : YR tk' wl' sp') (hO : OO2 p1 p2) : LI M (wd r2 a2 k' l2 w' t' p1 p2 B') := by
  refine ⟨r2, a2, k', l2, w', t', p1, p2, B', q', tk', wl', sp', bl, rfl, hMR, hQ, hY, ?_, hF.2.2.2.2.2.2.2.2.2.2 hK, TR_s hT hF hM, hO, IM_s hI hF hM hN hM2⟩
  obtain ⟨m1, m2, m3, m4, m5, m6⟩ := hM
  rw [m4 2 (by omega), m4 3 (by omega), m4 5 (by omega), m4 6 (by omega), m4 8 (by omega), m4 10 (by omega), m4 11 (by omega), m4 12 (by omega), m1 24 (by omega), m1 26 (by omega), m1 28 (by omega), m1 32 (by omega), m1 142 (by omega), m1 143 (by omega), m1 144 (by omega)]
  exact hC
theorem MR_0 {f : Nat → Int32} : MR (a0 f 46) q0 [] 5 18 := by
  have e : a0 f 46 = upd (upd (upd (upd (fun _ => 0) 14 (- nI 1)) 2 (nI 2)) 3 (nI 3)) 4 (nI 15) := rfl
  rw [e]
  refine ⟨fun j hj h14 => ?_, Or.inl ⟨?_, rfl, rfl, rfl⟩⟩
  · unfold q0
    by_cases c2 : j = 2
    · subst c2; rfl
    · by_cases c3 : j = 3
      · subst c3; rfl
      · by_cases c4 : j = 4
        · subst c4; rfl
        · rw [up2_n c4, up2_n c3, up2_n c2, up2_n h14, if_neg c2, if_neg c3, if_neg c4]
          rfl
  · rfl
theorem QR_0s : QR 100 q0 := by
  refine ⟨⟨?_, ?_, ?_, ?_, ?_, ?_, ?_, ?_, ?_⟩, ⟨?_, ?_, ?_, ?_, ?_⟩, fun i hi => ?_, fun i hi => ⟨?_, ?_, ?_⟩, fun i hi => ?_, fun i hi => ?_⟩
  all_goals first | decide | skip
  · unfold q0; rw [if_neg (by omega), if_neg (by omega), if_neg (by omega)]; omega
  · unfold q0; rw [if_neg (by omega), if_neg (by omega), if_neg (by omega)]; omega
  · unfold q0; rw [if_neg (by omega), if_neg (by omega), if_neg (by omega)]; omega
  · unfold q0; rw [if_neg (by omega), if_neg (by omega), if_neg (by omega)]; omega
  · exact absurd hi (by show ¬ i < 0; omega)
  · unfold q0; rw [if_neg (by omega), if_neg (by omega), if_neg (by omega)]; omega
theorem LI_0 {f : Nat → Int32} (hf : ∀ j, j < 10 → f j = nI (q0 j)) : LI 100 (wd r0 (a0 f) (fun _ _ => none) (fun _ _ => 0) 0 (.retAddr 44) 51 52 []) := by
  refine ⟨r0, a0 f, fun _ _ => none, fun _ _ => 0, 0, .retAddr 44, 51, 52, [], q0, [], 5, 18, [], rfl, MR_0, QR_0s, ⟨rfl, by decide, by decide, by decide⟩, ⟨hf, fun j hj => ?_, fun j hj => absurd hj (Nat.not_lt_zero j), fun j hj => absurd hj (Nat.not_lt_zero j), ⟨rfl, rfl, rfl, rfl⟩, fun j hj => absurd hj (Nat.not_lt_zero j), fun j hj => absurd hj (Nat.not_lt_zero j), rfl, rfl, rfl, trivial, fun _ _ _ => rfl⟩, fun i hi => Or.inl rfl, ⟨rfl, fun j hj => absurd hj (Nat.not_lt_zero j), rfl, fun j hj => absurd hj (Nat.not_lt_zero j), by decide⟩, Or.inl ⟨rfl, rfl⟩, Or.inl ⟨rfl, rfl⟩⟩
  unfold q0
  rw [if_neg (by omega), if_neg (by omega), if_neg (by omega)]
  rfl
