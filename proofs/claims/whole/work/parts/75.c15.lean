/-! Kicks by chances as the class works them out: its cells, a kick in its place. -/
def ci (ke la om : Nat) : Nat := om * (om + 1) * (om + 2) / 6 + (ke + la) * (ke + la + 1) / 2 + la
def i3 (c : Nat) : Nat := if c < 1 then 0 else if c < 4 then 1 else if c < 10 then 2 else if c < 20 then 3 else if c < 35 then 4 else if c < 56 then 5 else if c < 84 then 6 else if c < 120 then 7 else if c < 165 then 8 else if c < 220 then 9 else if c < 286 then 10 else if c < 364 then 11 else 12
def i2 (c : Nat) : Nat := if c < 1 then 0 else if c < 3 then 1 else if c < 6 then 2 else if c < 10 then 3 else if c < 15 then 4 else if c < 21 then 5 else if c < 28 then 6 else if c < 36 then 7 else if c < 45 then 8 else if c < 55 then 9 else if c < 66 then 10 else if c < 78 then 11 else 12
def iv2 (om r : Nat) : Nat × Nat × Nat := (i2 r - (r - i2 r * (i2 r + 1) / 2), r - i2 r * (i2 r + 1) / 2, om)
def iv (c : Nat) : Nat × Nat × Nat := iv2 (i3 c) (c - i3 c * (i3 c + 1) * (i3 c + 2) / 6)
theorem iv_c1 {j : Nat} (hj : j < 2197) : j / 169 < j % 13 + j / 13 % 13 ∨ (iv (ci (j % 13) (j / 13 % 13) (j / 169)) = (j % 13, j / 13 % 13, j / 169) ∧ ci (j % 13) (j / 13 % 13) (j / 169) < 455) := co_dec (N := 2197) (P := fun j => j / 169 < j % 13 + j / 13 % 13 ∨ (iv (ci (j % 13) (j / 13 % 13) (j / 169)) = (j % 13, j / 13 % 13, j / 169) ∧ ci (j % 13) (j / 13 % 13) (j / 169) < 455)) (by decide +kernel) hj
theorem iv_ci (om : Nat) (h1 : om < 13) (la : Nat) (h2 : la < 13) (ke : Nat) (h3 : ke < 13) (h : ke + la ≤ om) : iv (ci ke la om) = (ke, la, om) ∧ ci ke la om < 455 := by
  have hh := iv_c1 (j := ke + 13 * la + 169 * om) (by omega)
  rw [dc_k h3, dc_l h3 h2, dc_o h3 h2] at hh
  rcases hh with hh | hh
  · omega
  · exact hh
theorem dc_inj {ke la om ke' la' om' : Nat} (h1 : ke < 13) (h2 : la < 13) (g1 : ke' < 13) (g2 : la' < 13) (e : ke + 13 * la + 169 * om = ke' + 13 * la' + 169 * om') : ke = ke' ∧ la = la' ∧ om = om' := by
  have a := dc_k (la := la) (om := om) h1
  have b := dc_l (om := om) h1 h2
  have c := dc_o (om := om) h1 h2
  rw [e, dc_k g1] at a
  rw [e, dc_l g1 g2] at b
  rw [e, dc_o g1 g2] at c
  exact ⟨a.symm, b.symm, c.symm⟩
theorem ci_lt {ke la om : Nat} (h : ke + la ≤ om) (h' : om ≤ 12) : ci ke la om < 455 := (iv_ci om (by omega) la (by omega) ke (by omega) h).2
theorem ci_inj {ke la om ke' la' om' : Nat} (h : ke + la ≤ om) (h' : om ≤ 12) (g : ke' + la' ≤ om') (g' : om' ≤ 12) (e : ci ke la om = ci ke' la' om') : ke = ke' ∧ la = la' ∧ om = om' := by
  have h1 := (iv_ci om (by omega) la (by omega) ke (by omega) h).1
  have h2 := (iv_ci om' (by omega) la' (by omega) ke' (by omega) g).1
  rw [e, h2] at h1
  cases h1
  exact ⟨rfl, rfl, rfl⟩
def CL (L : Nat → Int64) (F : Nat → Nat) : Prop := ∀ ke la om, ke + la ≤ om → om ≤ 12 → L (ci ke la om) = lN (F (ke + 13 * la + 169 * om))
theorem CL_up {L : Nat → Int64} {F : Nat → Nat} {ke la om v : Nat} (h : CL L F) (h1 : ke + la ≤ om) (h2 : om ≤ 12) : CL (vp_updL L (ci ke la om) (lN v)) (va_up F (ke + 13 * la + 169 * om) v) := by
  intro ke' la' om' g1 g2
  by_cases c : ke' = ke ∧ la' = la ∧ om' = om
  · obtain ⟨c1, c2, c3⟩ := c
    subst c1 c2 c3
    rw [pk_uLs, up_s]
  · have n1 : ci ke' la' om' ≠ ci ke la om := fun e => c (ci_inj g1 g2 h1 h2 e)
    have n2 : ke' + 13 * la' + 169 * om' ≠ ke + 13 * la + 169 * om := fun e => c (dc_inj (by omega) (by omega) (by omega) (by omega) e)
    rw [pk_uLn n1, up_n n2]
    exact h ke' la' om' g1 g2
theorem CL_congr {L : Nat → Int64} {F F' : Nat → Nat} (h : CL L F) (e : ∀ j, j < 2197 → j % 13 + j / 13 % 13 ≤ j / 169 → F j = F' j) : CL L F' := by
  intro ke la om g1 g2
  rw [h ke la om g1 g2, e _ (by omega) (by rw [dc_k (by omega), dc_l (by omega) (by omega), dc_o (by omega) (by omega)]; exact g1)]
theorem CL_at {L : Nat → Int64} {F : Nat → Nat} {ke la om : Nat} (h : CL L F) (h1 : ke + la ≤ om) (h2 : om ≤ 12) : L (ci ke la om) = lN (F (ke + 13 * la + 169 * om)) := h ke la om h1 h2
/-- the ways while a kick is being worked in: those of p are behind it -/
def H5 (q : Nat → Nat) (tk : List (Nat × Nat)) (wl sp b : Nat) (D : Nat → Nat) (p : Nat → Bool) (i : Nat) : Nat := G5 q tk wl sp b D p i + (if p i = true then 0 else D i)
theorem G5_congr {q : Nat → Nat} {tk : List (Nat × Nat)} {wl sp b : Nat} {D : Nat → Nat} {p p' : Nat → Bool} {i : Nat} (h : ∀ j, j < 2197 → 0 < D j → p j = p' j) : G5 q tk wl sp b D p i = G5 q tk wl sp b D p' i := by
  unfold G5
  refine sm_congr (fun j hj => ?_)
  rcases Nat.eq_zero_or_pos (D j) with c | c
  · rw [c, Nat.mul_zero]
    split <;> split <;> rfl
  · rw [h j hj c]
theorem H5_congr {q : Nat → Nat} {tk : List (Nat × Nat)} {wl sp b : Nat} {D : Nat → Nat} {p p' : Nat → Bool} {i : Nat} (h : ∀ j, j < 2197 → 0 < D j → p j = p' j) (hi : i < 2197) : H5 q tk wl sp b D p i = H5 q tk wl sp b D p' i := by
  unfold H5
  rw [G5_congr h]
  rcases Nat.eq_zero_or_pos (D i) with c | c
  · rw [c]
    split <;> split <;> rfl
  · rw [h i hi c]
theorem H5_no {q : Nat → Nat} {tk : List (Nat × Nat)} {wl sp b : Nat} {D : Nat → Nat} {p : Nat → Bool} {i : Nat} (h : ∀ j, j < 2197 → 0 < D j → p j = false) (hi : i < 2197) : H5 q tk wl sp b D p i = D i := by
  rw [H5_congr (p' := fun _ => false) h hi]
  unfold H5 G5
  rw [sm_congr (g := fun _ => 0) (fun j _ => if_neg Bool.false_ne_true), sm_zero, if_neg Bool.false_ne_true, Nat.zero_add]
theorem H5_all {q : Nat → Nat} {tk : List (Nat × Nat)} {wl sp b : Nat} {D : Nat → Nat} {p : Nat → Bool} {i : Nat} (h : ∀ j, j < 2197 → 0 < D j → p j = true) (hi : i < 2197) : H5 q tk wl sp b D p i = G5 q tk wl sp b D (fun _ => true) i := by
  rw [H5_congr (p' := fun _ => true) h hi]
  unfold H5
  rw [if_pos rfl, Nat.add_zero]
theorem G5_none {q : Nat → Nat} {tk : List (Nat × Nat)} {wl sp b : Nat} {D : Nat → Nat} {p : Nat → Bool} {j0 : Nat} (h : ∀ j, j < 2197 → 0 < D j → p j = true → ∀ aim, to5 q tk wl sp b j aim ≠ j0) : G5 q tk wl sp b D p j0 = 0 := by
  unfold G5
  rw [sm_congr (g := fun _ => 0) (fun j hj => ?_), sm_zero]
  by_cases c : p j = true
  · rw [if_pos c]
    rcases Nat.eq_zero_or_pos (D j) with c2 | c2
    · rw [c2, Nat.mul_zero]
    · have e : c5 q tk wl sp b j j0 = 0 := by
        unfold c5 cn
        rw [sm_congr (g := fun _ => 0) (fun aim _ => if_neg (fun h' => h j hj c2 c aim (of_decide_eq_true h'))), sm_zero]
      rw [e, Nat.zero_mul]
  · rw [if_neg c]
theorem H5_at {q : Nat → Nat} {tk : List (Nat × Nat)} {wl sp b : Nat} {D : Nat → Nat} {p : Nat → Bool} {j0 : Nat} (hp : p j0 = false) (h : ∀ j, j < 2197 → 0 < D j → p j = true → ∀ aim, to5 q tk wl sp b j aim ≠ j0) : H5 q tk wl sp b D p j0 = D j0 := by
  unfold H5
  rw [G5_none h, hp, if_neg Bool.false_ne_true, Nat.zero_add]
theorem G5_st {q : Nat → Nat} {tk : List (Nat × Nat)} {wl sp b : Nat} {D : Nat → Nat} {p p' : Nat → Bool} {j0 i : Nat} (hj : j0 < 2197) (hp : p j0 = false) (hp' : p' j0 = true) (he : ∀ j, j < 2197 → 0 < D j → j ≠ j0 → p' j = p j) : G5 q tk wl sp b D p' i = G5 q tk wl sp b D p i + c5 q tk wl sp b j0 i * D j0 := by
  unfold G5
  refine sm_one hj (fun j hjl hne => ?_) ?_
  · rcases Nat.eq_zero_or_pos (D j) with c | c
    · rw [c, Nat.mul_zero]
      split <;> split <;> rfl
    · rw [he j hjl c hne]
  · rw [hp, hp', if_pos rfl, if_neg Bool.false_ne_true, Nat.zero_add]
theorem H5_ne {q : Nat → Nat} {tk : List (Nat × Nat)} {wl sp b : Nat} {D : Nat → Nat} {p p' : Nat → Bool} {j0 i : Nat} (hj : j0 < 2197) (hp : p j0 = false) (hp' : p' j0 = true) (he : ∀ j, j < 2197 → 0 < D j → j ≠ j0 → p' j = p j) (hi : i < 2197) (hne : i ≠ j0) : H5 q tk wl sp b D p' i = H5 q tk wl sp b D p i + c5 q tk wl sp b j0 i * D j0 := by
  unfold H5
  rw [G5_st hj hp hp' he]
  rcases Nat.eq_zero_or_pos (D i) with c | c
  · rw [c]
    have e1 : (if p' i = true then 0 else 0) = 0 := by split <;> rfl
    have e2 : (if p i = true then 0 else 0) = 0 := by split <;> rfl
    rw [e1, e2]
    omega
  · rw [he i hi c hne]
    omega
theorem H5_eq {q : Nat → Nat} {tk : List (Nat × Nat)} {wl sp b : Nat} {D : Nat → Nat} {p p' : Nat → Bool} {j0 : Nat} (hj : j0 < 2197) (hp : p j0 = false) (hp' : p' j0 = true) (he : ∀ j, j < 2197 → 0 < D j → j ≠ j0 → p' j = p j) (h : ∀ j, j < 2197 → 0 < D j → p j = true → ∀ aim, to5 q tk wl sp b j aim ≠ j0) : H5 q tk wl sp b D p' j0 = c5 q tk wl sp b j0 j0 * D j0 := by
  unfold H5
  rw [G5_st hj hp hp' he, G5_none h, hp', if_pos rfl]
  omega
/-- what a kick is, for the class: 0 within, 3 a pane, 4 a roof, 1 on the ground -/
def ca (q : Nat → Nat) (tk : List (Nat × Nat)) (wl b ke aim : Nat) : Nat := if ov (va_up q 5 (q 5 + ke)) tk wl b aim = true then (if q (16 + bq q b aim) = 2 then 3 else if q (16 + bq q b aim) = 3 then 4 else 1) else 0
def nC (q : Nat → Nat) (tk : List (Nat × Nat)) (wl b ke x n : Nat) : Nat := cn (fun aim => decide (ca q tk wl b ke aim = x)) n
def tB (q : Nat → Nat) (sp bk om : Nat) : Bool := decide (q 8 + om + 1 ≤ bk ∧ q 4 ≠ sp)
theorem bq_2 (q : Nat → Nat) (i aim m : Nat) : bq (va_up q 2 m) i aim = bq q i aim := by
  unfold bq
  simp (disch := omega) only [up_n]
theorem ov_25 (q : Nat → Nat) (tk : List (Nat × Nat)) (wl b aim m n : Nat) : ov (va_up (va_up q 2 m) 5 n) tk wl b aim = ov (va_up q 5 n) tk wl b aim := by
  unfold ov hq
  simp (disch := omega) only [up_n, up_s]
theorem e5_ca (q : Nat → Nat) (tk : List (Nat × Nat)) (wl sp b bk ke om aim : Nat) : e5 (va_up q 2 bk) tk wl sp b ke om aim = if ca q tk wl b ke aim = 1 then (if tB q sp bk om = true then 1 else 2) else ca q tk wl b ke aim := by
  unfold e5 ca bc tB
  rw [bq_2, up_n (show 5 ≠ 2 by omega), ov_25]
  simp (disch := omega) only [up_n, up_s, decide_eq_true_eq]
  by_cases c1 : ov (va_up q 5 (q 5 + ke)) tk wl b aim = true
  · simp only [if_pos c1]
    by_cases c2 : q (16 + bq q b aim) = 2
    · simp only [if_pos c2, Nat.reduceEqDiff, if_false]
    · simp only [if_neg c2]
      by_cases c3 : q (16 + bq q b aim) = 3
      · simp only [if_pos c3, Nat.reduceEqDiff, if_false]
      · simp only [if_neg c3, if_true]
  · simp only [if_neg c1, Nat.reduceEqDiff, if_false]
theorem ca_c (q : Nat → Nat) (tk : List (Nat × Nat)) (wl b ke aim : Nat) : ca q tk wl b ke aim = 0 ∨ ca q tk wl b ke aim = 1 ∨ ca q tk wl b ke aim = 3 ∨ ca q tk wl b ke aim = 4 := by
  unfold ca
  (repeat' split) <;> omega
theorem cn_congr {f g : Nat → Bool} {n : Nat} (h : ∀ i, i < n → f i = g i) : cn f n = cn g n := sm_congr (fun i hi => by simp only [h i hi])
theorem cn_zero {f : Nat → Bool} {n : Nat} (h : ∀ i, i < n → f i = false) : cn f n = 0 := by
  unfold cn
  rw [sm_congr (g := fun _ => 0) (fun i hi => by rw [h i hi]; rfl), sm_zero]
theorem cn_or {f g h : Nat → Bool} {n : Nat} (h1 : ∀ i, i < n → h i = (f i || g i)) (h2 : ∀ i, i < n → f i = true → g i = false) : cn h n = cn f n + cn g n := by
  unfold cn
  rw [← sm_add]
  refine sm_congr (fun i hi => ?_)
  simp only [h1 i hi]
  cases c : f i
  · cases g i <;> rfl
  · rw [h2 i hi c]; rfl
theorem to5_b {q : Nat → Nat} {tk : List (Nat × Nat)} {wl sp b bk ke la om aim : Nat} (h1 : ke < 13) (h2 : la < 13) (hb : ke + la ≠ q 3) : to5 (va_up q 2 bk) tk wl sp b (ke + 13 * la + 169 * om) aim = ke + 13 * la + 169 * om + (if ca q tk wl b ke aim = 0 then 0 else if ca q tk wl b ke aim = 4 then 182 else if ca q tk wl b ke aim = 3 then 170 else if tB q sp bk om = true then 169 else 170) := by
  unfold to5
  rw [dc_k h1, dc_l h1 h2, dc_o h1 h2, up_n (show 3 ≠ 2 by omega), if_neg hb, e5_ca]
  unfold st5
  rcases ca_c q tk wl b ke aim with c | c | c | c <;> rw [c] <;> cases tB q sp bk om <;> simp only [Nat.reduceEqDiff, if_true, if_false, Bool.false_eq_true, reduceIte]
theorem c5_0 {q : Nat → Nat} {tk : List (Nat × Nat)} {wl sp b bk ke la om : Nat} (h1 : ke < 13) (h2 : la < 13) (hb : ke + la = q 3) (i : Nat) : c5 (va_up q 2 bk) tk wl sp b (ke + 13 * la + 169 * om) i = if i = ke + 13 * la + 169 * om then 10 else 0 := by
  have e1 : ∀ aim, to5 (va_up q 2 bk) tk wl sp b (ke + 13 * la + 169 * om) aim = ke + 13 * la + 169 * om := fun aim => by
    unfold to5
    rw [dc_k h1, dc_l h1 h2, up_n (show 3 ≠ 2 by omega), if_pos hb]
  unfold c5
  by_cases c : i = ke + 13 * la + 169 * om
  · rw [if_pos c, c]
    simp only [e1, decide_true]
    rfl
  · rw [if_neg c]
    exact cn_zero (fun aim _ => by rw [e1]; exact decide_eq_false (fun h => c h.symm))
theorem c5_1 {q : Nat → Nat} {tk : List (Nat × Nat)} {wl sp b bk ke la om : Nat} (h1 : ke < 13) (h2 : la < 13) (hb : ke + la ≠ q 3) (i : Nat) : c5 (va_up q 2 bk) tk wl sp b (ke + 13 * la + 169 * om) i = if i = ke + 13 * la + 169 * om then nC q tk wl b ke 0 10 else if i = ke + 13 * la + 169 * om + 182 then nC q tk wl b ke 4 10 else if i = ke + 13 * la + 169 * om + 170 then nC q tk wl b ke 3 10 + (if tB q sp bk om = true then 0 else nC q tk wl b ke 1 10) else if i = ke + 13 * la + 169 * om + 169 then (if tB q sp bk om = true then nC q tk wl b ke 1 10 else 0) else 0 := by
  unfold c5 nC
  have e1 : ∀ aim, to5 (va_up q 2 bk) tk wl sp b (ke + 13 * la + 169 * om) aim = _ := fun aim => to5_b (tk := tk) (wl := wl) (sp := sp) (b := b) (bk := bk) (om := om) (aim := aim) h1 h2 hb
  simp only [e1]
  clear e1
  generalize ke + 13 * la + 169 * om = j
  by_cases c0 : i = j
  · rw [if_pos c0]
    refine cn_congr (fun aim _ => decide_eq_decide.mpr ?_)
    rcases ca_c q tk wl b ke aim with c | c | c | c <;> rw [c] <;> cases tB q sp bk om <;> simp only [Nat.reduceEqDiff, eq_self, if_true, if_false, Bool.false_eq_true, reduceIte, Nat.add_zero, iff_true, iff_false, or_true, true_or, or_false, false_or, or_self] <;> omega
  · rw [if_neg c0]
    by_cases c1 : i = j + 182
    · rw [if_pos c1]
      refine cn_congr (fun aim _ => decide_eq_decide.mpr ?_)
      rcases ca_c q tk wl b ke aim with c | c | c | c <;> rw [c] <;> cases tB q sp bk om <;> simp only [Nat.reduceEqDiff, eq_self, if_true, if_false, Bool.false_eq_true, reduceIte, Nat.add_zero, iff_true, iff_false, or_true, true_or, or_false, false_or, or_self] <;> omega
    · rw [if_neg c1]
      by_cases c2 : i = j + 170
      · rw [if_pos c2]
        cases ht : tB q sp bk om
        · rw [show (if (false = true) then 0 else cn (fun aim => decide (ca q tk wl b ke aim = 1)) 10) = cn (fun aim => decide (ca q tk wl b ke aim = 1)) 10 from if_neg Bool.false_ne_true]
          refine cn_or (fun aim _ => ?_) (fun aim _ h => ?_)
          · rw [← Bool.decide_or]
            refine decide_eq_decide.mpr ?_
            rcases ca_c q tk wl b ke aim with c | c | c | c <;> rw [c] <;> simp only [Nat.reduceEqDiff, eq_self, if_true, if_false, Bool.false_eq_true, reduceIte, Nat.add_zero, iff_true, iff_false, or_true, true_or, or_false, false_or, or_self] <;> omega
          · have := of_decide_eq_true h
            exact decide_eq_false (by omega)
        · rw [show (if (true = true) then 0 else cn (fun aim => decide (ca q tk wl b ke aim = 1)) 10) = 0 from if_pos rfl, Nat.add_zero]
          refine cn_congr (fun aim _ => decide_eq_decide.mpr ?_)
          rcases ca_c q tk wl b ke aim with c | c | c | c <;> rw [c] <;> simp only [Nat.reduceEqDiff, eq_self, if_true, if_false, Bool.false_eq_true, reduceIte, Nat.add_zero, iff_true, iff_false, or_true, true_or, or_false, false_or, or_self] <;> omega
      · rw [if_neg c2]
        by_cases c3 : i = j + 169
        · rw [if_pos c3]
          cases ht : tB q sp bk om
          · rw [show (if (false = true) then cn (fun aim => decide (ca q tk wl b ke aim = 1)) 10 else 0) = 0 from if_neg Bool.false_ne_true]
            refine cn_zero (fun aim _ => decide_eq_false ?_)
            rcases ca_c q tk wl b ke aim with c | c | c | c <;> rw [c] <;> simp only [Nat.reduceEqDiff, eq_self, if_true, if_false, Bool.false_eq_true, reduceIte, Nat.add_zero, iff_true, iff_false, or_true, true_or, or_false, false_or, or_self] <;> omega
          · rw [show (if (true = true) then cn (fun aim => decide (ca q tk wl b ke aim = 1)) 10 else 0) = cn (fun aim => decide (ca q tk wl b ke aim = 1)) 10 from if_pos rfl]
            refine cn_congr (fun aim _ => decide_eq_decide.mpr ?_)
            rcases ca_c q tk wl b ke aim with c | c | c | c <;> rw [c] <;> simp only [Nat.reduceEqDiff, eq_self, if_true, if_false, Bool.false_eq_true, reduceIte, Nat.add_zero, iff_true, iff_false, or_true, true_or, or_false, false_or, or_self] <;> omega
        · rw [if_neg c3]
          refine cn_zero (fun aim _ => decide_eq_false ?_)
          rcases ca_c q tk wl b ke aim with c | c | c | c <;> rw [c] <;> cases tB q sp bk om <;> simp only [Nat.reduceEqDiff, eq_self, if_true, if_false, Bool.false_eq_true, reduceIte, Nat.add_zero, iff_true, iff_false, or_true, true_or, or_false, false_or, or_self] <;> omega
/-- what is behind the place (ke, om, la): ke and om fall, la rises -/
def pr (ke0 om0 la0 j : Nat) : Bool := decide (ke0 < j % 13 ∨ (j % 13 = ke0 ∧ (om0 < j / 169 ∨ (j / 169 = om0 ∧ j / 13 % 13 < la0))))
theorem pr_0 {ke om la : Nat} (h1 : ke < 13) (h2 : la < 13) : pr ke om la (ke + 13 * la + 169 * om) = false := by
  unfold pr
  rw [dc_k h1, dc_l h1 h2, dc_o h1 h2]
  exact decide_eq_false (by omega)
theorem pr_1 {ke om la : Nat} (h1 : ke < 13) (h2 : la < 13) : pr ke om (la + 1) (ke + 13 * la + 169 * om) = true := by
  unfold pr
  rw [dc_k h1, dc_l h1 h2, dc_o h1 h2]
  exact decide_eq_true (by omega)
theorem pr_e {ke om la j : Nat} (h : j ≠ ke + 13 * la + 169 * om) : pr ke om (la + 1) j = pr ke om la j := by
  unfold pr
  exact decide_eq_decide.mpr (by omega)
theorem to5_d {q : Nat → Nat} {tk : List (Nat × Nat)} {wl sp b bk kd j aim : Nat} (hk : kd < 12) (hs : S5 q kd j) : to5 (va_up q 2 bk) tk wl sp b j aim = j ∨ ((to5 (va_up q 2 bk) tk wl sp b j aim) / 169 = j / 169 + 1 ∧ j % 13 ≤ (to5 (va_up q 2 bk) tk wl sp b j aim) % 13) := by
  obtain ⟨ke, la, om, g1, g2, g3, g4, g5, g6⟩ := dc_e j
  unfold S5 at hs
  rw [g4, g5, g6] at hs
  by_cases hb : ke + la = q 3
  · left
    unfold to5
    rw [g4, g5, up_n (show 3 ≠ 2 by omega), if_pos hb]
  · rw [g3, to5_b g1 g2 hb]
    (repeat' split) <;> omega
theorem pr_s {q : Nat → Nat} {tk : List (Nat × Nat)} {wl sp b bk kd ke om la : Nat} {D : Nat → Nat} (hk : kd < 12) (hD : ∀ j, 0 < D j → S5 q kd j) (h1 : ke < 13) (h2 : la < 13) : ∀ j, j < 2197 → 0 < D j → pr ke om la j = true → ∀ aim, to5 (va_up q 2 bk) tk wl sp b j aim ≠ ke + 13 * la + 169 * om := by
  intro j hj hd hp aim e
  have hp' := of_decide_eq_true hp
  rcases to5_d (tk := tk) (wl := wl) (sp := sp) (b := b) (bk := bk) (aim := aim) hk (hD j hd) with c | c
  · rw [c] at e
    subst e
    rw [dc_k h1, dc_l h1 h2, dc_o h1 h2] at hp'
    omega
  · rw [e, dc_k h1, dc_o h1 h2] at c
    omega
/-- one place's kicks, written one behind the other -/
def mv (q : Nat → Nat) (tk : List (Nat × Nat)) (wl sp b bk : Nat) (F : Nat → Nat) (ke la om : Nat) : Nat → Nat :=
  if F (ke + 13 * la + 169 * om) = 0 then F else if ke + la < q 3 then
    va_up (va_up (va_up (va_up F (ke + 13 * la + 169 * om) (F (ke + 13 * la + 169 * om) * nC q tk wl b ke 0 10)) (ke + 13 * la + 169 * om + 182) (F (ke + 13 * la + 169 * om + 182) + F (ke + 13 * la + 169 * om) * nC q tk wl b ke 4 10)) (ke + 13 * la + 169 * om + 170) (F (ke + 13 * la + 169 * om + 170) + F (ke + 13 * la + 169 * om) * nC q tk wl b ke 3 10)) (if tB q sp bk om = true then ke + 13 * la + 169 * om + 169 else ke + 13 * la + 169 * om + 170) ((va_up (va_up (va_up F (ke + 13 * la + 169 * om) (F (ke + 13 * la + 169 * om) * nC q tk wl b ke 0 10)) (ke + 13 * la + 169 * om + 182) (F (ke + 13 * la + 169 * om + 182) + F (ke + 13 * la + 169 * om) * nC q tk wl b ke 4 10)) (ke + 13 * la + 169 * om + 170) (F (ke + 13 * la + 169 * om + 170) + F (ke + 13 * la + 169 * om) * nC q tk wl b ke 3 10)) (if tB q sp bk om = true then ke + 13 * la + 169 * om + 169 else ke + 13 * la + 169 * om + 170) + F (ke + 13 * la + 169 * om) * nC q tk wl b ke 1 10)
  else va_up F (ke + 13 * la + 169 * om) (F (ke + 13 * la + 169 * om) * 10)
theorem mv_H5 {q : Nat → Nat} {tk : List (Nat × Nat)} {wl sp b bk kd ke om la : Nat} {D : Nat → Nat} (hk : kd < 12) (hD : ∀ j, 0 < D j → S5 q kd j) (h1 : ke + la ≤ om) (h2 : om ≤ kd) {i : Nat} (hi : i < 2197) : mv q tk wl sp b bk (H5 (va_up q 2 bk) tk wl sp b D (pr ke om la)) ke la om i = H5 (va_up q 2 bk) tk wl sp b D (pr ke om (la + 1)) i := by
  have hke : ke < 13 := by omega
  have hla : la < 13 := by omega
  have hp := pr_0 (om := om) hke hla
  have hp' := pr_1 (om := om) hke hla
  have hs := pr_s (tk := tk) (wl := wl) (sp := sp) (b := b) (bk := bk) (om := om) hk hD hke hla
  have hj : ke + 13 * la + 169 * om < 2197 := by omega
  have hat := H5_at (q := va_up q 2 bk) (tk := tk) (wl := wl) (sp := sp) (b := b) hp hs
  have heq := H5_eq (q := va_up q 2 bk) (tk := tk) (wl := wl) (sp := sp) (b := b) (D := D) hj hp hp' (fun j _ _ hne => pr_e hne) hs
  have hne : ∀ i, i < 2197 → i ≠ ke + 13 * la + 169 * om → _ := fun i hi hn => H5_ne (q := va_up q 2 bk) (tk := tk) (wl := wl) (sp := sp) (b := b) (D := D) hj hp hp' (fun j _ _ hne => pr_e hne) hi hn
  have hz : D (ke + 13 * la + 169 * om) = 0 ∨ ke + la ≤ q 3 := by
    rcases Nat.eq_zero_or_pos (D (ke + 13 * la + 169 * om)) with c | c
    · exact Or.inl c
    · exact Or.inr ((S5_iff hke hla).mp (hD _ c)).2.2
  unfold mv
  rw [hat]
  by_cases c0 : D (ke + 13 * la + 169 * om) = 0
  · rw [if_pos c0]
    by_cases c : i = ke + 13 * la + 169 * om
    · subst c
      rw [heq, hat, c0, Nat.mul_zero]
    · rw [hne i hi c, c0, Nat.mul_zero, Nat.add_zero]
  · rw [if_neg c0]
    by_cases cb : ke + la < q 3
    · rw [if_pos cb]
      have hc5 := fun i => c5_1 (tk := tk) (wl := wl) (sp := sp) (b := b) (bk := bk) (om := om) hke hla (show ke + la ≠ q 3 by omega) i
      by_cases c : i = ke + 13 * la + 169 * om
      · rw [c, heq, hc5, if_pos rfl]
        have n1 : ke + 13 * la + 169 * om ≠ (if tB q sp bk om = true then ke + 13 * la + 169 * om + 169 else ke + 13 * la + 169 * om + 170) := by split <;> omega
        rw [up_n n1, up_n (by omega), up_n (by omega), up_s, Nat.mul_comm]
      · rw [hne i hi c, hc5, if_neg c]
        generalize hF : H5 (va_up q 2 bk) tk wl sp b D (pr ke om la) = F at *
        generalize D (ke + 13 * la + 169 * om) = d at *
        generalize ke + 13 * la + 169 * om = j at *
        generalize nC q tk wl b ke 0 10 = n0
        generalize nC q tk wl b ke 4 10 = n4
        generalize nC q tk wl b ke 3 10 = n3
        generalize nC q tk wl b ke 1 10 = n1
        by_cases c1 : i = j + 182
        · subst c1
          rw [if_pos rfl]
          cases tB q sp bk om
          · simp (disch := omega) only [Bool.false_eq_true, if_false, up_n, up_s]
            rw [Nat.mul_comm]
          · simp (disch := omega) only [if_true, up_n, up_s]
            rw [Nat.mul_comm]
        · rw [if_neg c1]
          by_cases c2 : i = j + 170
          · subst c2
            rw [if_pos rfl]
            cases tB q sp bk om
            · simp (disch := omega) only [Bool.false_eq_true, if_false, up_n, up_s]
              rw [Nat.add_mul, Nat.mul_comm d n3, Nat.mul_comm d n1]
              omega
            · simp (disch := omega) only [if_true, up_n, up_s]
              exact congrArg (F (j + 170) + ·) (Nat.mul_comm d n3)
          · rw [if_neg c2]
            by_cases c3 : i = j + 169
            · subst c3
              rw [if_pos rfl]
              cases tB q sp bk om
              · simp (disch := omega) only [Bool.false_eq_true, if_false, up_n, up_s, Nat.zero_mul, Nat.add_zero]
              · simp (disch := omega) only [if_true, up_n, up_s]
                rw [Nat.mul_comm d n1]
            · rw [if_neg c3, Nat.zero_mul, Nat.add_zero]
              cases tB q sp bk om
              · simp (disch := omega) only [Bool.false_eq_true, if_false, up_n]
                first | done | rfl
              · simp (disch := omega) only [if_true, up_n]
                first | done | rfl
    · rw [if_neg cb]
      have hc5 := fun i => c5_0 (tk := tk) (wl := wl) (sp := sp) (b := b) (bk := bk) (om := om) hke hla (show ke + la = q 3 by omega) i
      by_cases c : i = ke + 13 * la + 169 * om
      · rw [c, up_s, heq, hc5, if_pos rfl, Nat.mul_comm]
      · rw [up_n c, hne i hi c, hc5, if_neg c, Nat.zero_mul, Nat.add_zero]
/-! Sums over places, in the class's order. -/
theorem sm_app (f : Nat → Nat) (a : Nat) : ∀ b, sm f (a + b) = sm f a + sm (fun i => f (a + i)) b
  | 0 => rfl
  | b + 1 => by
    show sm f (a + b) + f (a + b) = sm f a + (sm (fun i => f (a + i)) b + f (a + b))
    rw [sm_app f a b, Nat.add_assoc]
theorem sm_blk (f : Nat → Nat) (b : Nat) : ∀ n, sm f (b * n) = sm (fun i => sm (fun j => f (b * i + j)) b) n
  | 0 => rfl
  | n + 1 => by
    rw [Nat.mul_succ, sm_app, sm_blk f b n]
    rfl
theorem sm_tr {f : Nat → Nat} {a b : Nat} (h : a ≤ b) (h0 : ∀ i, a ≤ i → i < b → f i = 0) : sm f b = sm f a := by
  obtain ⟨c, e⟩ : ∃ c, b = a + c := ⟨b - a, by omega⟩
  subst e
  rw [sm_app, sm_congr (g := fun _ => 0) (fun i hi => h0 (a + i) (by omega) (by omega)), sm_zero, Nat.add_zero]
theorem sm_3 {f : Nat → Nat} {kd : Nat} (hk : kd ≤ 12) (h : ∀ j, j < 2197 → ¬ (j % 13 + j / 13 % 13 ≤ j / 169 ∧ j / 169 ≤ kd) → f j = 0) : sm f 2197 = sm (fun om => sm (fun ke => sm (fun la => f (ke + 13 * la + 169 * om)) (om - ke + 1)) (om + 1)) (kd + 1) := by
  have e1 : sm f 2197 = sm (fun om => sm (fun r => f (169 * om + r)) 169) 13 := sm_blk f 169 13
  rw [e1, sm_tr (a := kd + 1) (b := 13) (by omega) (fun om h1 h2 => by
    rw [sm_congr (g := fun _ => 0) (fun r hr => h _ (by omega) (by omega)), sm_zero])]
  refine sm_congr (fun om hom => ?_)
  have e2 : sm (fun r => f (169 * om + r)) 169 = sm (fun la => sm (fun ke => f (169 * om + (13 * la + ke))) 13) 13 := sm_blk (fun r => f (169 * om + r)) 13 13
  rw [e2, sm_comm, sm_tr (a := om + 1) (b := 13) (by omega) (fun ke h1 h2 => by
    rw [sm_congr (g := fun _ => 0) (fun la hla => h _ (by omega) (by omega)), sm_zero])]
  refine sm_congr (fun ke hke => ?_)
  rw [sm_tr (a := om - ke + 1) (b := 13) (by omega) (fun la h1 h2 => h _ (by omega) (by rw [show 169 * om + (13 * la + ke) = ke + 13 * la + 169 * om by omega, dc_k (by omega), dc_l (by omega) h2, dc_o (by omega) h2]; omega))]
  exact sm_congr (fun la _ => congrArg f (by omega))
theorem D5_out {q : Nat → Nat} {tk : List (Nat × Nat)} {wl sp kd : Nat} (hk : kd ≤ 12) {j : Nat} (h : ¬ (j % 13 + j / 13 % 13 ≤ j / 169 ∧ j / 169 ≤ kd)) : D5 q tk wl sp kd j = 0 := by
  rcases Nat.eq_zero_or_pos (D5 q tk wl sp kd j) with c | c
  · exact c
  · have := D5_S5 q tk wl sp kd hk j c
    exact absurd ⟨this.1, this.2.1⟩ h
theorem RS_3 (q q' : Nat → Nat) (tk : List (Nat × Nat)) (wl sp w : Nat) {kd : Nat} (hk : kd ≤ 12) : RS q w (D5 q' tk wl sp kd) = sm (fun om => sm (fun ke => sm (fun la => vl q w (ke + 13 * la + 169 * om) * D5 q' tk wl sp kd (ke + 13 * la + 169 * om)) (om - ke + 1)) (om + 1)) (kd + 1) := by
  unfold RS
  exact sm_3 hk (fun j _ h => by rw [D5_out hk h, Nat.mul_zero])
theorem CL_0 : CL (vp_updL (fun _ => lN 0) 0 (lN 1)) (fun i => if i = 0 then 1 else 0) := by
  have h : CL (fun _ => lN 0) (fun _ => 0) := fun _ _ _ _ _ => rfl
  have h2 := CL_up (ke := 0) (la := 0) (om := 0) (v := 1) h (by omega) (by omega)
  exact CL_congr h2 (fun j _ _ => rfl)
