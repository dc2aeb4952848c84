/-! A method of the program, whole: what the abstract machine shows is a contract of the real one's. -/
theorem am_find_mem : ∀ {bl : List (Nat × Nat × List am_A)} {i : Nat} {q : Nat × List am_A}, am_find bl i = some q → (i, q) ∈ bl
  | [], _, _, h => by cases h
  | (a, b) :: bl, i, q, h => by
    unfold am_find at h
    split at h
    · rename_i e
      cases h
      rw [← e]
      exact List.mem_cons_self
    · exact List.mem_cons_of_mem _ (am_find_mem h)
def am_mok (md : am_D) (pg : Nat → am_M) (NM : Nat) (i : Nat) (cert : List (List (Nat × List (List Nat)))) : Bool := ((pg i).2.2.zip cert).all (fun x => am_bk md pg NM (md i).1.cls (md i).1.name (md i).2.2 (pg i).1 (md i).2.1 x.1.2.1 x.1.1 x.1.2.2 x.2) && decide ((pg i).2.2.length ≤ cert.length)
theorem am_mok_at {md : am_D} {pg : Nat → am_M} {NM i : Nat} {cert : List (List (Nat × List (List Nat)))} (hk : am_mok md pg NM i cert = true) {a : Nat} {q : Nat × List am_A} (hf : am_find (pg i).2.2 a = some q) : ∃ cs, am_bk md pg NM (md i).1.cls (md i).1.name (md i).2.2 (pg i).1 (md i).2.1 q.1 a q.2 cs = true := by
  unfold am_mok at hk
  rw [Bool.and_eq_true] at hk
  obtain ⟨h1, h2⟩ := hk
  have h2 := of_decide_eq_true h2
  obtain ⟨j, hj⟩ := List.getElem?_of_mem (am_find_mem hf)
  have hjl : j < (pg i).2.2.length := (List.getElem?_eq_some_iff.mp hj).1
  obtain ⟨y, hy⟩ : ∃ y, cert[j]? = some y := ⟨_, List.getElem?_eq_getElem (by omega)⟩
  have hz : ((a, q), y) ∈ (pg i).2.2.zip cert := List.mem_of_getElem? (i := j) (by rw [List.getElem?_zip_eq_some]; exact ⟨hj, hy⟩)
  exact ⟨y, List.all_eq_true.mp h1 _ hz⟩
theorem am_sound {l : Launch} {g : am_G} {O : am_O} {md : am_D} {pg : Nat → am_M} {NM : Nat} (ho : am_ov g) (hO : ∀ q, (O q).1 < 2 ^ 31) (hO40 : (O 40).1 ≤ 2200) (hMk : ∀ i, i < NM → am_mk md pg i) (hpl : ∀ i, i < NM → plainName (md i).1.cls = true) (hok : ∀ i, i < NM → ∃ cert, am_mok md pg NM i cert = true) (hpg : ∀ i, NM ≤ i → (pg i).2.2 = []) : ∀ d, am_met l g O md pg d (am_run O pg d)
  | 0 => fun _ _ _ _ h => h.elim
  | d + 1 => by
    intro i as h P hC
    obtain ⟨hsz, hC⟩ := hC
    by_cases hi : i < NM
    · refine Met.ofW (cc := (md i).2.1) (maxL := (pg i).1) (ret := (md i).2.2) (hpl i hi) rfl ?_
      intro p e s m args below meth c s₁ B hml hv
      obtain ⟨rfl, hR, hF1, hF2⟩ := hv
      have hts0 := atoms_spec (ws := am_ws md pg i) B.pre
      have hts : ∀ w ∈ am_tb, w.before ((as.map (am_v g)).toArray) s = true := fun w hw => hts0 w (List.mem_cons_of_mem _ hw)
      have hown : s.vm.findClass (md i).1.cls = some m.cls := findClass_of_methodNamed B.named
      have hnm : meth.name = (md i).1.name := (name_of_methodNamed B.named B.method).1
      obtain ⟨cert, hcert⟩ := hok i hi
      rw [lg_entry_eq]
      refine hC (am_Jm p l e (headSpec (am_ws md pg i) (am_rm (d + 1) (pg i).2.1)).room s m ((as.map (am_v g)).toArray) below meth c (MQ below (am_Q g P) ((as.map (am_v g)).toArray) s (pg i).2.1 (2200 * (pg i).2.1) (am_A0 g)) g (pg i).1 (pg i).2.1) ?_ s.heap [] _ hR va_S.rf (am_l0_lr ho hsz) (Nat.zero_le _)
      intro a q hf u L st h' hB
      obtain ⟨cs, hcs⟩ := am_mok_at hcert hf
      exact am_bk_sound (d := d) (md := md) (pg := pg) (NM := NM) (own := (md i).1.cls) (nm := (md i).1.name) (ret := (md i).2.2) B.exec B.bytes hml hown hnm hts ho hF1 hF2 hO hO40 (Nat.le_refl _) (Nat.le_refl _) (Nat.le_refl _) (Nat.le_refl _) (am_sound ho hO hO40 hMk hpl hok hpg d) hMk (am_rt_met B.exec B.bytes B.returns B.notSynchronized) hcs hB
    · exfalso
      refine hC (fun _ _ _ _ _ => False) ?_
      intro a q hf
      rw [hpg i (by omega)] at hf
      cases hf
