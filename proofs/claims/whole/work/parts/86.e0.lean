/-! What every call keeps of the numbers. -/
theorem QR_mono {N M : Nat} {q : Nat → Nat} (h : QR N q) (h1 : N ≤ M) (h2 : M ≤ 100000) : QR M q := by
  obtain ⟨⟨h0, h1, h2, h4, h9, h10, h11, h12, h13⟩, ⟨h3, h6, h7, h8, hN⟩, hb, hk, htl, htp⟩ := h
  exact ⟨⟨h0, h1, h2, h4, h9, h10, h11, h12, h13⟩, ⟨by omega, by omega, by omega, by omega, by omega⟩, hb, fun i hi => ⟨(hk i hi).1, (hk i hi).2.1, by have := (hk i hi).2.2; omega⟩, htl, htp⟩
theorem cl_le {x : Int32} {n : Nat} (h : inb x 0 n = true) (hn : n < 2147483648) : x.toNatClampNeg ≤ n := by
  rcases inb_c x 0 n (by omega) hn with c | ⟨j, _, h2, e, _⟩
  · rw [c] at h; exact b_tf h.symm
  · subst e; rw [q_cl (by omega)]; exact h2
theorem ib_lt {x : Int32} {n : Nat} (h : isb x n = true) (hn : n < 2147483648) : x.toNatClampNeg < n := by
  rcases isb_c x n hn with c | ⟨j, h2, e, _⟩
  · rw [c] at h; exact b_tf h.symm
  · subst e; rw [q_cl (by omega)]; exact h2
theorem QR_feed {N : Nat} {q : Nat → Nat} (h : QR N q) (x : Int32) : QR N (Q_feed q x) := by
  unfold Q_feed
  split
  · rename_i c
    have hx := cl_le c (by omega)
    split
    · exact h
    · obtain ⟨⟨h0, h1, h2, h4, h9, h10, h11, h12, h13⟩, ⟨h3, h6, h7, h8, hN⟩, hb, hk, htl, htp⟩ := h
      refine ⟨⟨?_, ?_, ?_, ?_, ?_, ?_, ?_, ?_, ?_⟩, ⟨?_, ?_, ?_, ?_, ?_⟩, fun i hi => ?_, fun i hi => ?_, fun i hi => ?_, fun i hi => ?_⟩
      · first | omega | (simp (disch := omega) only [up_n, up_s]; first | done | omega)
      · first | omega | (simp (disch := omega) only [up_n, up_s]; first | done | omega)
      · first | omega | (simp (disch := omega) only [up_n, up_s]; first | done | omega)
      · first | omega | (simp (disch := omega) only [up_n, up_s]; first | done | omega)
      · first | omega | (simp (disch := omega) only [up_n, up_s]; first | done | omega)
      · first | omega | (simp (disch := omega) only [up_n, up_s]; first | done | omega)
      · first | omega | (simp (disch := omega) only [up_n, up_s]; first | done | omega)
      · first | omega | (simp (disch := omega) only [up_n, up_s]; first | done | omega)
      · first | omega | (simp (disch := omega) only [up_n, up_s]; first | done | omega)
      · first | omega | (simp (disch := omega) only [up_n, up_s]; first | done | omega)
      · first | omega | (simp (disch := omega) only [up_n, up_s]; first | done | omega)
      · first | omega | (simp (disch := omega) only [up_n, up_s]; first | done | omega)
      · first | omega | (simp (disch := omega) only [up_n, up_s]; first | done | omega)
      · first | omega | (simp (disch := omega) only [up_n, up_s]; first | done | omega)
      · (try simp (disch := omega) only [up_n, up_s] at hi)
        first | omega | (simp (disch := omega) only [up_n, up_s]; first | exact hb i hi | omega | (have := htl i hi; omega)) | exact hb i hi
      · (try simp (disch := omega) only [up_n, up_s] at hi)
        first | omega | (simp (disch := omega) only [up_n, up_s]; first | (have := hk i hi; omega) | omega | (have := htl i hi; omega)) | (have := hk i hi; omega)
      · (try simp (disch := omega) only [up_n, up_s] at hi)
        first | omega | (simp (disch := omega) only [up_n, up_s]; first | exact htl i hi | omega | (have := htl i hi; omega)) | exact htl i hi
      · (try simp (disch := omega) only [up_n, up_s] at hi)
        by_cases c : i = q 13
        · subst c
          simp (disch := omega) only [up_n, up_s]
          first | done | omega | exact ⟨by omega, by omega, by omega⟩
        · simp (disch := omega) only [up_n, up_s]
          first | exact hb i (by omega) | (have := hk i (by omega); omega) | (have := htl i (by omega); omega) | exact htp i (by omega)
  · exact h
theorem QR_boy {N : Nat} {q : Nat → Nat} (h : QR N q) (x y : Int32) : QR N (Q_boy q x y) := by
  unfold Q_boy
  split
  · rename_i c
    have hx := cl_le c (by omega)
    split
    · rename_i c2
      have hy := cl_le c2 (by omega)
      split
      · exact h
      · obtain ⟨⟨h0, h1, h2, h4, h9, h10, h11, h12, h13⟩, ⟨h3, h6, h7, h8, hN⟩, hb, hk, htl, htp⟩ := h
        have hlt : q 10 < 5 := by omega
        refine ⟨⟨?_, ?_, ?_, ?_, ?_, ?_, ?_, ?_, ?_⟩, ⟨?_, ?_, ?_, ?_, ?_⟩, fun i hi => ?_, fun i hi => ?_, fun i hi => ?_, fun i hi => ?_⟩
        · first | omega | (simp (disch := omega) only [up_n, up_s]; first | done | omega)
        · first | omega | (simp (disch := omega) only [up_n, up_s]; first | done | omega)
        · first | omega | (simp (disch := omega) only [up_n, up_s]; first | done | omega)
        · first | omega | (simp (disch := omega) only [up_n, up_s]; first | done | omega)
        · first | omega | (simp (disch := omega) only [up_n, up_s]; first | done | omega)
        · first | omega | (simp (disch := omega) only [up_n, up_s]; first | done | omega)
        · first | omega | (simp (disch := omega) only [up_n, up_s]; first | done | omega)
        · first | omega | (simp (disch := omega) only [up_n, up_s]; first | done | omega)
        · first | omega | (simp (disch := omega) only [up_n, up_s]; first | done | omega)
        · first | omega | (simp (disch := omega) only [up_n, up_s]; first | done | omega)
        · first | omega | (simp (disch := omega) only [up_n, up_s]; first | done | omega)
        · first | omega | (simp (disch := omega) only [up_n, up_s]; first | done | omega)
        · first | omega | (simp (disch := omega) only [up_n, up_s]; first | done | omega)
        · first | omega | (simp (disch := omega) only [up_n, up_s]; first | done | omega)
        · (try simp (disch := omega) only [up_n, up_s] at hi)
          first | omega | (simp (disch := omega) only [up_n, up_s]; first | exact hb i hi | omega | (have := htl i hi; omega)) | exact hb i hi
        · (try simp (disch := omega) only [up_n, up_s] at hi)
          by_cases c : i = q 10
          · subst c
            simp (disch := omega) only [up_n, up_s]
            first | done | omega | exact ⟨by omega, by omega, by omega⟩
          · simp (disch := omega) only [up_n, up_s]
            first | exact hb i (by omega) | (have := hk i (by omega); omega) | (have := htl i (by omega); omega) | exact htp i (by omega)
        · (try simp (disch := omega) only [up_n, up_s] at hi)
          first | omega | (simp (disch := omega) only [up_n, up_s]; first | exact htl i hi | omega | (have := htl i hi; omega)) | exact htl i hi
        · (try simp (disch := omega) only [up_n, up_s] at hi)
          first | omega | (simp (disch := omega) only [up_n, up_s]; first | exact htp i hi | omega | (have := htl i hi; omega)) | exact htp i hi
    · exact h
  · exact h
theorem QR_bed {N : Nat} {q : Nat → Nat} (h : QR N q) (x y : Int32) : QR N (Q_bed q x y) := by
  unfold Q_bed
  split
  · rename_i c
    have hx := cl_le c (by omega)
    split
    · rename_i c2
      have hy := cl_le c2 (by omega)
      obtain ⟨⟨h0, h1, h2, h4, h9, h10, h11, h12, h13⟩, ⟨h3, h6, h7, h8, hN⟩, hb, hk, htl, htp⟩ := h
      refine ⟨⟨?_, ?_, ?_, ?_, ?_, ?_, ?_, ?_, ?_⟩, ⟨?_, ?_, ?_, ?_, ?_⟩, fun i hi => ?_, fun i hi => ?_, fun i hi => ?_, fun i hi => ?_⟩
      · first | omega | (simp (disch := omega) only [up_n, up_s]; first | done | omega)
      · first | omega | (simp (disch := omega) only [up_n, up_s]; first | done | omega)
      · first | omega | (simp (disch := omega) only [up_n, up_s]; first | done | omega)
      · first | omega | (simp (disch := omega) only [up_n, up_s]; first | done | omega)
      · first | omega | (simp (disch := omega) only [up_n, up_s]; first | done | omega)
      · first | omega | (simp (disch := omega) only [up_n, up_s]; first | done | omega)
      · first | omega | (simp (disch := omega) only [up_n, up_s]; first | done | omega)
      · first | omega | (simp (disch := omega) only [up_n, up_s]; first | done | omega)
      · first | omega | (simp (disch := omega) only [up_n, up_s]; first | done | omega)
      · first | omega | (simp (disch := omega) only [up_n, up_s]; first | done | omega)
      · first | omega | (simp (disch := omega) only [up_n, up_s]; first | done | omega)
      · first | omega | (simp (disch := omega) only [up_n, up_s]; first | done | omega)
      · first | omega | (simp (disch := omega) only [up_n, up_s]; first | done | omega)
      · first | omega | (simp (disch := omega) only [up_n, up_s]; first | done | omega)
      · (try simp (disch := omega) only [up_n, up_s] at hi)
        by_cases c : i = x.toNatClampNeg
        · subst c
          simp (disch := omega) only [up_n, up_s]
          first | done | omega | exact ⟨by omega, by omega, by omega⟩
        · simp (disch := omega) only [up_n, up_s]
          first | exact hb i (by omega) | (have := hk i (by omega); omega) | (have := htl i (by omega); omega) | exact htp i (by omega)
      · (try simp (disch := omega) only [up_n, up_s] at hi)
        first | omega | (simp (disch := omega) only [up_n, up_s]; first | (have := hk i hi; omega) | omega | (have := htl i hi; omega)) | (have := hk i hi; omega)
      · (try simp (disch := omega) only [up_n, up_s] at hi)
        first | omega | (simp (disch := omega) only [up_n, up_s]; first | exact htl i hi | omega | (have := htl i hi; omega)) | exact htl i hi
      · (try simp (disch := omega) only [up_n, up_s] at hi)
        first | omega | (simp (disch := omega) only [up_n, up_s]; first | exact htp i hi | omega | (have := htl i hi; omega)) | exact htp i hi
    · exact h
  · exact h
theorem QR_set {N : Nat} {q : Nat → Nat} (h : QR N q) (x y : Int32) (hM : N + 100 ≤ 100000) : QR (N + 100) (Q_set q x y) := by
  unfold Q_set
  split
  · rename_i c
    have hx := cl_le c (by omega)
    split
    · rename_i c2
      have hy := cl_le c2 (mo_lt _)
      have hm := mo_le x.toNatClampNeg
      generalize x.toNatClampNeg = u at hx hy hm ⊢
      generalize y.toNatClampNeg = v at hy ⊢
      obtain ⟨⟨h0, h1, h2, h4, h9, h10, h11, h12, h13⟩, ⟨h3, h6, h7, h8, hN⟩, hb, hk, htl, htp⟩ := h
      have hu : u = 0 ∨ u = 1 ∨ u = 2 ∨ u = 3 ∨ u = 4 := by omega
      rcases hu with e | e | e | e | e <;> subst e
      · have hv : v ≤ 3 := hy
        refine ⟨⟨?_, ?_, ?_, ?_, ?_, ?_, ?_, ?_, ?_⟩, ⟨?_, ?_, ?_, ?_, ?_⟩, fun i hi => ?_, fun i hi => ?_, fun i hi => ?_, fun i hi => ?_⟩
        · first | omega | (simp (disch := omega) only [up_n, up_s]; first | done | omega)
        · first | omega | (simp (disch := omega) only [up_n, up_s]; first | done | omega)
        · first | omega | (simp (disch := omega) only [up_n, up_s]; first | done | omega)
        · first | omega | (simp (disch := omega) only [up_n, up_s]; first | done | omega)
        · first | omega | (simp (disch := omega) only [up_n, up_s]; first | done | omega)
        · first | omega | (simp (disch := omega) only [up_n, up_s]; first | done | omega)
        · first | omega | (simp (disch := omega) only [up_n, up_s]; first | done | omega)
        · first | omega | (simp (disch := omega) only [up_n, up_s]; first | done | omega)
        · first | omega | (simp (disch := omega) only [up_n, up_s]; first | done | omega)
        · first | omega | (simp (disch := omega) only [up_n, up_s]; first | done | omega)
        · first | omega | (simp (disch := omega) only [up_n, up_s]; first | done | omega)
        · first | omega | (simp (disch := omega) only [up_n, up_s]; first | done | omega)
        · first | omega | (simp (disch := omega) only [up_n, up_s]; first | done | omega)
        · first | omega | (simp (disch := omega) only [up_n, up_s]; first | done | omega)
        · (try simp (disch := omega) only [up_n, up_s] at hi)
          first | omega | (simp (disch := omega) only [up_n, up_s]; first | exact hb i hi | omega | (have := htl i hi; omega)) | exact hb i hi
        · (try simp (disch := omega) only [up_n, up_s] at hi)
          first | omega | (simp (disch := omega) only [up_n, up_s]; first | (have := hk i hi; omega) | omega | (have := htl i hi; omega)) | (have := hk i hi; omega)
        · (try simp (disch := omega) only [up_n, up_s] at hi)
          first | omega | (simp (disch := omega) only [up_n, up_s]; first | exact htl i hi | omega | (have := htl i hi; omega)) | exact htl i hi
        · (try simp (disch := omega) only [up_n, up_s] at hi)
          first | omega | (simp (disch := omega) only [up_n, up_s]; first | exact htp i hi | omega | (have := htl i hi; omega)) | exact htp i hi
      · have hv : v ≤ 20 := hy
        refine ⟨⟨?_, ?_, ?_, ?_, ?_, ?_, ?_, ?_, ?_⟩, ⟨?_, ?_, ?_, ?_, ?_⟩, fun i hi => ?_, fun i hi => ?_, fun i hi => ?_, fun i hi => ?_⟩
        · first | omega | (simp (disch := omega) only [up_n, up_s]; first | done | omega)
        · first | omega | (simp (disch := omega) only [up_n, up_s]; first | done | omega)
        · first | omega | (simp (disch := omega) only [up_n, up_s]; first | done | omega)
        · first | omega | (simp (disch := omega) only [up_n, up_s]; first | done | omega)
        · first | omega | (simp (disch := omega) only [up_n, up_s]; first | done | omega)
        · first | omega | (simp (disch := omega) only [up_n, up_s]; first | done | omega)
        · first | omega | (simp (disch := omega) only [up_n, up_s]; first | done | omega)
        · first | omega | (simp (disch := omega) only [up_n, up_s]; first | done | omega)
        · first | omega | (simp (disch := omega) only [up_n, up_s]; first | done | omega)
        · first | omega | (simp (disch := omega) only [up_n, up_s]; first | done | omega)
        · first | omega | (simp (disch := omega) only [up_n, up_s]; first | done | omega)
        · first | omega | (simp (disch := omega) only [up_n, up_s]; first | done | omega)
        · first | omega | (simp (disch := omega) only [up_n, up_s]; first | done | omega)
        · first | omega | (simp (disch := omega) only [up_n, up_s]; first | done | omega)
        · (try simp (disch := omega) only [up_n, up_s] at hi)
          first | omega | (simp (disch := omega) only [up_n, up_s]; first | exact hb i hi | omega | (have := htl i hi; omega)) | exact hb i hi
        · (try simp (disch := omega) only [up_n, up_s] at hi)
          first | omega | (simp (disch := omega) only [up_n, up_s]; first | (have := hk i hi; omega) | omega | (have := htl i hi; omega)) | (have := hk i hi; omega)
        · (try simp (disch := omega) only [up_n, up_s] at hi)
          first | omega | (simp (disch := omega) only [up_n, up_s]; first | exact htl i hi | omega | (have := htl i hi; omega)) | exact htl i hi
        · (try simp (disch := omega) only [up_n, up_s] at hi)
          first | omega | (simp (disch := omega) only [up_n, up_s]; first | exact htp i hi | omega | (have := htl i hi; omega)) | exact htp i hi
      · have hv : v ≤ 9 := hy
        refine ⟨⟨?_, ?_, ?_, ?_, ?_, ?_, ?_, ?_, ?_⟩, ⟨?_, ?_, ?_, ?_, ?_⟩, fun i hi => ?_, fun i hi => ?_, fun i hi => ?_, fun i hi => ?_⟩
        · first | omega | (simp (disch := omega) only [up_n, up_s]; first | done | omega)
        · first | omega | (simp (disch := omega) only [up_n, up_s]; first | done | omega)
        · first | omega | (simp (disch := omega) only [up_n, up_s]; first | done | omega)
        · first | omega | (simp (disch := omega) only [up_n, up_s]; first | done | omega)
        · first | omega | (simp (disch := omega) only [up_n, up_s]; first | done | omega)
        · first | omega | (simp (disch := omega) only [up_n, up_s]; first | done | omega)
        · first | omega | (simp (disch := omega) only [up_n, up_s]; first | done | omega)
        · first | omega | (simp (disch := omega) only [up_n, up_s]; first | done | omega)
        · first | omega | (simp (disch := omega) only [up_n, up_s]; first | done | omega)
        · first | omega | (simp (disch := omega) only [up_n, up_s]; first | done | omega)
        · first | omega | (simp (disch := omega) only [up_n, up_s]; first | done | omega)
        · first | omega | (simp (disch := omega) only [up_n, up_s]; first | done | omega)
        · first | omega | (simp (disch := omega) only [up_n, up_s]; first | done | omega)
        · first | omega | (simp (disch := omega) only [up_n, up_s]; first | done | omega)
        · (try simp (disch := omega) only [up_n, up_s] at hi)
          first | omega | (simp (disch := omega) only [up_n, up_s]; first | exact hb i hi | omega | (have := htl i hi; omega)) | exact hb i hi
        · (try simp (disch := omega) only [up_n, up_s] at hi)
          first | omega | (simp (disch := omega) only [up_n, up_s]; first | (have := hk i hi; omega) | omega | (have := htl i hi; omega)) | (have := hk i hi; omega)
        · (try simp (disch := omega) only [up_n, up_s] at hi)
          first | omega | (simp (disch := omega) only [up_n, up_s]; first | exact htl i hi | omega | (have := htl i hi; omega)) | exact htl i hi
        · (try simp (disch := omega) only [up_n, up_s] at hi)
          first | omega | (simp (disch := omega) only [up_n, up_s]; first | exact htp i hi | omega | (have := htl i hi; omega)) | exact htp i hi
      · have hv : v ≤ 99 := hy
        refine ⟨⟨?_, ?_, ?_, ?_, ?_, ?_, ?_, ?_, ?_⟩, ⟨?_, ?_, ?_, ?_, ?_⟩, fun i hi => ?_, fun i hi => ?_, fun i hi => ?_, fun i hi => ?_⟩
        · first | omega | (simp (disch := omega) only [up_n, up_s]; first | done | omega)
        · first | omega | (simp (disch := omega) only [up_n, up_s]; first | done | omega)
        · first | omega | (simp (disch := omega) only [up_n, up_s]; first | done | omega)
        · first | omega | (simp (disch := omega) only [up_n, up_s]; first | done | omega)
        · first | omega | (simp (disch := omega) only [up_n, up_s]; first | done | omega)
        · first | omega | (simp (disch := omega) only [up_n, up_s]; first | done | omega)
        · first | omega | (simp (disch := omega) only [up_n, up_s]; first | done | omega)
        · first | omega | (simp (disch := omega) only [up_n, up_s]; first | done | omega)
        · first | omega | (simp (disch := omega) only [up_n, up_s]; first | done | omega)
        · first | omega | (simp (disch := omega) only [up_n, up_s]; first | done | omega)
        · first | omega | (simp (disch := omega) only [up_n, up_s]; first | done | omega)
        · first | omega | (simp (disch := omega) only [up_n, up_s]; first | done | omega)
        · first | omega | (simp (disch := omega) only [up_n, up_s]; first | done | omega)
        · first | omega | (simp (disch := omega) only [up_n, up_s]; first | done | omega)
        · (try simp (disch := omega) only [up_n, up_s] at hi)
          first | omega | (simp (disch := omega) only [up_n, up_s]; first | exact hb i hi | omega | (have := htl i hi; omega)) | exact hb i hi
        · (try simp (disch := omega) only [up_n, up_s] at hi)
          first | omega | (simp (disch := omega) only [up_n, up_s]; first | (have := hk i hi; omega) | omega | (have := htl i hi; omega)) | (have := hk i hi; omega)
        · (try simp (disch := omega) only [up_n, up_s] at hi)
          first | omega | (simp (disch := omega) only [up_n, up_s]; first | exact htl i hi | omega | (have := htl i hi; omega)) | exact htl i hi
        · (try simp (disch := omega) only [up_n, up_s] at hi)
          first | omega | (simp (disch := omega) only [up_n, up_s]; first | exact htp i hi | omega | (have := htl i hi; omega)) | exact htp i hi
      · have hv : v ≤ 23 := hy
        refine ⟨⟨?_, ?_, ?_, ?_, ?_, ?_, ?_, ?_, ?_⟩, ⟨?_, ?_, ?_, ?_, ?_⟩, fun i hi => ?_, fun i hi => ?_, fun i hi => ?_, fun i hi => ?_⟩
        · first | omega | (simp (disch := omega) only [up_n, up_s]; first | done | omega)
        · first | omega | (simp (disch := omega) only [up_n, up_s]; first | done | omega)
        · first | omega | (simp (disch := omega) only [up_n, up_s]; first | done | omega)
        · first | omega | (simp (disch := omega) only [up_n, up_s]; first | done | omega)
        · first | omega | (simp (disch := omega) only [up_n, up_s]; first | done | omega)
        · first | omega | (simp (disch := omega) only [up_n, up_s]; first | done | omega)
        · first | omega | (simp (disch := omega) only [up_n, up_s]; first | done | omega)
        · first | omega | (simp (disch := omega) only [up_n, up_s]; first | done | omega)
        · first | omega | (simp (disch := omega) only [up_n, up_s]; first | done | omega)
        · first | omega | (simp (disch := omega) only [up_n, up_s]; first | done | omega)
        · first | omega | (simp (disch := omega) only [up_n, up_s]; first | done | omega)
        · first | omega | (simp (disch := omega) only [up_n, up_s]; first | done | omega)
        · first | omega | (simp (disch := omega) only [up_n, up_s]; first | done | omega)
        · first | omega | (simp (disch := omega) only [up_n, up_s]; first | done | omega)
        · (try simp (disch := omega) only [up_n, up_s] at hi)
          first | omega | (simp (disch := omega) only [up_n, up_s]; first | exact hb i hi | omega | (have := htl i hi; omega)) | exact hb i hi
        · (try simp (disch := omega) only [up_n, up_s] at hi)
          first | omega | (simp (disch := omega) only [up_n, up_s]; first | (have := hk i hi; omega) | omega | (have := htl i hi; omega)) | (have := hk i hi; omega)
        · (try simp (disch := omega) only [up_n, up_s] at hi)
          first | omega | (simp (disch := omega) only [up_n, up_s]; first | exact htl i hi | omega | (have := htl i hi; omega)) | exact htl i hi
        · (try simp (disch := omega) only [up_n, up_s] at hi)
          first | omega | (simp (disch := omega) only [up_n, up_s]; first | exact htp i hi | omega | (have := htl i hi; omega)) | exact htp i hi
    · exact QR_mono h (by omega) hM
  · exact QR_mono h (by omega) hM
theorem QR_night {N : Nat} {q : Nat → Nat} (h : QR N q) : QR N (Q_night q) := by
  unfold Q_night
  split
  · exact h
  · split
    · obtain ⟨⟨h0, h1, h2, h4, h9, h10, h11, h12, h13⟩, ⟨h3, h6, h7, h8, hN⟩, hb, hk, htl, htp⟩ := h
      refine ⟨⟨?_, ?_, ?_, ?_, ?_, ?_, ?_, ?_, ?_⟩, ⟨?_, ?_, ?_, ?_, ?_⟩, fun i hi => ?_, fun i hi => ?_, fun i hi => ?_, fun i hi => ?_⟩
      · first | omega | (simp (disch := omega) only [up_n, up_s]; first | done | omega)
      · first | omega | (simp (disch := omega) only [up_n, up_s]; first | done | omega)
      · first | omega | (simp (disch := omega) only [up_n, up_s]; first | done | omega)
      · first | omega | (simp (disch := omega) only [up_n, up_s]; first | done | omega)
      · first | omega | (simp (disch := omega) only [up_n, up_s]; first | done | omega)
      · first | omega | (simp (disch := omega) only [up_n, up_s]; first | done | omega)
      · first | omega | (simp (disch := omega) only [up_n, up_s]; first | done | omega)
      · first | omega | (simp (disch := omega) only [up_n, up_s]; first | done | omega)
      · first | omega | (simp (disch := omega) only [up_n, up_s]; first | done | omega)
      · first | omega | (simp (disch := omega) only [up_n, up_s]; first | done | omega)
      · first | omega | (simp (disch := omega) only [up_n, up_s]; first | done | omega)
      · first | omega | (simp (disch := omega) only [up_n, up_s]; first | done | omega)
      · first | omega | (simp (disch := omega) only [up_n, up_s]; first | done | omega)
      · first | omega | (simp (disch := omega) only [up_n, up_s]; first | done | omega)
      · (try simp (disch := omega) only [up_n, up_s] at hi)
        first | omega | (simp (disch := omega) only [up_n, up_s]; first | exact hb i hi | omega | (have := htl i hi; omega)) | exact hb i hi
      · (try simp (disch := omega) only [up_n, up_s] at hi)
        first | omega | (simp (disch := omega) only [up_n, up_s]; first | (have := hk i hi; omega) | omega | (have := htl i hi; omega)) | (have := hk i hi; omega)
      · (try simp (disch := omega) only [up_n, up_s] at hi)
        first | omega | (simp (disch := omega) only [up_n, up_s]; first | exact htl i hi | omega | (have := htl i hi; omega)) | exact htl i hi
      · (try simp (disch := omega) only [up_n, up_s] at hi)
        first | omega | (simp (disch := omega) only [up_n, up_s]; first | exact htp i hi | omega | (have := htl i hi; omega)) | exact htp i hi
    · obtain ⟨⟨h0, h1, h2, h4, h9, h10, h11, h12, h13⟩, ⟨h3, h6, h7, h8, hN⟩, hb, hk, htl, htp⟩ := h
      refine ⟨⟨?_, ?_, ?_, ?_, ?_, ?_, ?_, ?_, ?_⟩, ⟨?_, ?_, ?_, ?_, ?_⟩, fun i hi => ?_, fun i hi => ?_, fun i hi => ?_, fun i hi => ?_⟩
      · first | omega | (simp (disch := omega) only [up_n, up_s]; first | done | omega)
      · first | omega | (simp (disch := omega) only [up_n, up_s]; first | done | omega)
      · first | omega | (simp (disch := omega) only [up_n, up_s]; first | done | omega)
      · first | omega | (simp (disch := omega) only [up_n, up_s]; first | done | omega)
      · first | omega | (simp (disch := omega) only [up_n, up_s]; first | done | omega)
      · first | omega | (simp (disch := omega) only [up_n, up_s]; first | done | omega)
      · first | omega | (simp (disch := omega) only [up_n, up_s]; first | done | omega)
      · first | omega | (simp (disch := omega) only [up_n, up_s]; first | done | omega)
      · first | omega | (simp (disch := omega) only [up_n, up_s]; first | done | omega)
      · first | omega | (simp (disch := omega) only [up_n, up_s]; first | done | omega)
      · first | omega | (simp (disch := omega) only [up_n, up_s]; first | done | omega)
      · first | omega | (simp (disch := omega) only [up_n, up_s]; first | done | omega)
      · first | omega | (simp (disch := omega) only [up_n, up_s]; first | done | omega)
      · first | omega | (simp (disch := omega) only [up_n, up_s]; first | done | omega)
      · (try simp (disch := omega) only [up_n, up_s] at hi)
        first | omega | (simp (disch := omega) only [up_n, up_s]; first | exact hb i hi | omega | (have := htl i hi; omega)) | exact hb i hi
      · (try simp (disch := omega) only [up_n, up_s] at hi)
        first | omega | (simp (disch := omega) only [up_n, up_s]; first | (have := hk i hi; omega) | omega | (have := htl i hi; omega)) | (have := hk i hi; omega)
      · (try simp (disch := omega) only [up_n, up_s] at hi)
        first | omega | (simp (disch := omega) only [up_n, up_s]; first | exact htl i hi | omega | (have := htl i hi; omega)) | exact htl i hi
      · (try simp (disch := omega) only [up_n, up_s] at hi)
        first | omega | (simp (disch := omega) only [up_n, up_s]; first | exact htp i hi | omega | (have := htl i hi; omega)) | exact htp i hi
theorem QR_tale {N : Nat} {q : Nat → Nat} (h : QR N q) (x y z : Int32) : QR N (Q_tale q x y z) := by
  unfold Q_tale
  split
  · obtain ⟨⟨h0, h1, h2, h4, h9, h10, h11, h12, h13⟩, ⟨h3, h6, h7, h8, hN⟩, hb, hk, htl, htp⟩ := h
    refine ⟨⟨?_, ?_, ?_, ?_, ?_, ?_, ?_, ?_, ?_⟩, ⟨?_, ?_, ?_, ?_, ?_⟩, fun i hi => ?_, fun i hi => ?_, fun i hi => ?_, fun i hi => ?_⟩
    · first | omega | (simp (disch := omega) only [up_n, up_s]; first | done | omega)
    · first | omega | (simp (disch := omega) only [up_n, up_s]; first | done | omega)
    · first | omega | (simp (disch := omega) only [up_n, up_s]; first | done | omega)
    · first | omega | (simp (disch := omega) only [up_n, up_s]; first | done | omega)
    · first | omega | (simp (disch := omega) only [up_n, up_s]; first | done | omega)
    · first | omega | (simp (disch := omega) only [up_n, up_s]; first | done | omega)
    · first | omega | (simp (disch := omega) only [up_n, up_s]; first | done | omega)
    · first | omega | (simp (disch := omega) only [up_n, up_s]; first | done | omega)
    · first | omega | (simp (disch := omega) only [up_n, up_s]; first | done | omega)
    · first | omega | (simp (disch := omega) only [up_n, up_s]; first | done | omega)
    · first | omega | (simp (disch := omega) only [up_n, up_s]; first | done | omega)
    · first | omega | (simp (disch := omega) only [up_n, up_s]; first | done | omega)
    · first | omega | (simp (disch := omega) only [up_n, up_s]; first | done | omega)
    · first | omega | (simp (disch := omega) only [up_n, up_s]; first | done | omega)
    · (try simp (disch := omega) only [up_n, up_s] at hi)
      first | omega | (simp (disch := omega) only [up_n, up_s]; first | exact hb i hi | omega | (have := htl i hi; omega)) | exact hb i hi
    · (try simp (disch := omega) only [up_n, up_s] at hi)
      first | omega | (simp (disch := omega) only [up_n, up_s]; first | (have := hk i hi; omega) | omega | (have := htl i hi; omega)) | (have := hk i hi; omega)
    · (try simp (disch := omega) only [up_n, up_s] at hi)
      first | omega | (simp (disch := omega) only [up_n, up_s]; first | exact htl i hi | omega | (have := htl i hi; omega)) | exact htl i hi
    · (try simp (disch := omega) only [up_n, up_s] at hi)
      first | omega | (simp (disch := omega) only [up_n, up_s]; first | exact htp i hi | omega | (have := htl i hi; omega)) | exact htp i hi
  · split
    · rename_i c
      have hx := ib_lt c (by have := h.1; omega)
      split
      · rename_i c2
        have hy := cl_le c2 (by omega)
        split
        · rename_i c3
          have hz := cl_le c3 (by omega)
          split
          · exact h
          · obtain ⟨⟨h0, h1, h2, h4, h9, h10, h11, h12, h13⟩, ⟨h3, h6, h7, h8, hN⟩, hb, hk, htl, htp⟩ := h
            have hlt : q 12 < 12 := by omega
            refine ⟨⟨?_, ?_, ?_, ?_, ?_, ?_, ?_, ?_, ?_⟩, ⟨?_, ?_, ?_, ?_, ?_⟩, fun i hi => ?_, fun i hi => ?_, fun i hi => ?_, fun i hi => ?_⟩
            · first | omega | (simp (disch := omega) only [up_n, up_s]; first | done | omega)
            · first | omega | (simp (disch := omega) only [up_n, up_s]; first | done | omega)
            · first | omega | (simp (disch := omega) only [up_n, up_s]; first | done | omega)
            · first | omega | (simp (disch := omega) only [up_n, up_s]; first | done | omega)
            · first | omega | (simp (disch := omega) only [up_n, up_s]; first | done | omega)
            · first | omega | (simp (disch := omega) only [up_n, up_s]; first | done | omega)
            · first | omega | (simp (disch := omega) only [up_n, up_s]; first | done | omega)
            · first | omega | (simp (disch := omega) only [up_n, up_s]; first | done | omega)
            · first | omega | (simp (disch := omega) only [up_n, up_s]; first | done | omega)
            · first | omega | (simp (disch := omega) only [up_n, up_s]; first | done | omega)
            · first | omega | (simp (disch := omega) only [up_n, up_s]; first | done | omega)
            · first | omega | (simp (disch := omega) only [up_n, up_s]; first | done | omega)
            · first | omega | (simp (disch := omega) only [up_n, up_s]; first | done | omega)
            · first | omega | (simp (disch := omega) only [up_n, up_s]; first | done | omega)
            · (try simp (disch := omega) only [up_n, up_s] at hi)
              first | omega | (simp (disch := omega) only [up_n, up_s]; first | exact hb i hi | omega | (have := htl i hi; omega)) | exact hb i hi
            · (try simp (disch := omega) only [up_n, up_s] at hi)
              first | omega | (simp (disch := omega) only [up_n, up_s]; first | (have := hk i hi; omega) | omega | (have := htl i hi; omega)) | (have := hk i hi; omega)
            · (try simp (disch := omega) only [up_n, up_s] at hi)
              by_cases c : i = q 12
              · subst c
                simp (disch := omega) only [up_n, up_s]
                first | done | omega | exact ⟨by omega, by omega, by omega⟩
              · simp (disch := omega) only [up_n, up_s]
                first | exact hb i (by omega) | (have := hk i (by omega); omega) | (have := htl i (by omega); omega) | exact htp i (by omega)
            · (try simp (disch := omega) only [up_n, up_s] at hi)
              first | omega | (simp (disch := omega) only [up_n, up_s]; first | exact htp i hi | omega | (have := htl i hi; omega)) | exact htp i hi
        · exact h
      · exact h
    · exact h
theorem QR_yard {N : Nat} {q : Nat → Nat} (h : QR N q) : QR N (Q_yard q) := by
  unfold Q_yard
  split
  · exact h
  · split
    · obtain ⟨⟨h0, h1, h2, h4, h9, h10, h11, h12, h13⟩, ⟨h3, h6, h7, h8, hN⟩, hb, hk, htl, htp⟩ := h
      refine ⟨⟨?_, ?_, ?_, ?_, ?_, ?_, ?_, ?_, ?_⟩, ⟨?_, ?_, ?_, ?_, ?_⟩, fun i hi => ?_, fun i hi => ?_, fun i hi => ?_, fun i hi => ?_⟩
      · first | omega | (simp (disch := omega) only [up_n, up_s]; first | done | omega)
      · first | omega | (simp (disch := omega) only [up_n, up_s]; first | done | omega)
      · first | omega | (simp (disch := omega) only [up_n, up_s]; first | done | omega)
      · first | omega | (simp (disch := omega) only [up_n, up_s]; first | done | omega)
      · first | omega | (simp (disch := omega) only [up_n, up_s]; first | done | omega)
      · first | omega | (simp (disch := omega) only [up_n, up_s]; first | done | omega)
      · first | omega | (simp (disch := omega) only [up_n, up_s]; first | done | omega)
      · first | omega | (simp (disch := omega) only [up_n, up_s]; first | done | omega)
      · first | omega | (simp (disch := omega) only [up_n, up_s]; first | done | omega)
      · first | omega | (simp (disch := omega) only [up_n, up_s]; first | done | omega)
      · first | omega | (simp (disch := omega) only [up_n, up_s]; first | done | omega)
      · first | omega | (simp (disch := omega) only [up_n, up_s]; first | done | omega)
      · first | omega | (simp (disch := omega) only [up_n, up_s]; first | done | omega)
      · first | omega | (simp (disch := omega) only [up_n, up_s]; first | done | omega)
      · (try simp (disch := omega) only [up_n, up_s] at hi)
        first | omega | (simp (disch := omega) only [up_n, up_s]; first | exact hb i hi | omega | (have := htl i hi; omega)) | exact hb i hi
      · (try simp (disch := omega) only [up_n, up_s] at hi)
        first | omega | (simp (disch := omega) only [up_n, up_s]; first | (have := hk i hi; omega) | omega | (have := htl i hi; omega)) | (have := hk i hi; omega)
      · (try simp (disch := omega) only [up_n, up_s] at hi)
        first | omega | (simp (disch := omega) only [up_n, up_s]; first | exact htl i hi | omega | (have := htl i hi; omega)) | exact htl i hi
      · (try simp (disch := omega) only [up_n, up_s] at hi)
        first | omega | (simp (disch := omega) only [up_n, up_s]; first | exact htp i hi | omega | (have := htl i hi; omega)) | exact htp i hi
    · obtain ⟨⟨h0, h1, h2, h4, h9, h10, h11, h12, h13⟩, ⟨h3, h6, h7, h8, hN⟩, hb, hk, htl, htp⟩ := h
      refine ⟨⟨?_, ?_, ?_, ?_, ?_, ?_, ?_, ?_, ?_⟩, ⟨?_, ?_, ?_, ?_, ?_⟩, fun i hi => ?_, fun i hi => ?_, fun i hi => ?_, fun i hi => ?_⟩
      · first | omega | (simp (disch := omega) only [up_n, up_s]; first | done | omega)
      · first | omega | (simp (disch := omega) only [up_n, up_s]; first | done | omega)
      · first | omega | (simp (disch := omega) only [up_n, up_s]; first | done | omega)
      · first | omega | (simp (disch := omega) only [up_n, up_s]; first | done | omega)
      · first | omega | (simp (disch := omega) only [up_n, up_s]; first | done | omega)
      · first | omega | (simp (disch := omega) only [up_n, up_s]; first | done | omega)
      · first | omega | (simp (disch := omega) only [up_n, up_s]; first | done | omega)
      · first | omega | (simp (disch := omega) only [up_n, up_s]; first | done | omega)
      · first | omega | (simp (disch := omega) only [up_n, up_s]; first | done | omega)
      · first | omega | (simp (disch := omega) only [up_n, up_s]; first | done | omega)
      · first | omega | (simp (disch := omega) only [up_n, up_s]; first | done | omega)
      · first | omega | (simp (disch := omega) only [up_n, up_s]; first | done | omega)
      · first | omega | (simp (disch := omega) only [up_n, up_s]; first | done | omega)
      · first | omega | (simp (disch := omega) only [up_n, up_s]; first | done | omega)
      · (try simp (disch := omega) only [up_n, up_s] at hi)
        first | omega | (simp (disch := omega) only [up_n, up_s]; first | exact hb i hi | omega | (have := htl i hi; omega)) | exact hb i hi
      · (try simp (disch := omega) only [up_n, up_s] at hi)
        first | omega | (simp (disch := omega) only [up_n, up_s]; first | (have := hk i hi; omega) | omega | (have := htl i hi; omega)) | (have := hk i hi; omega)
      · (try simp (disch := omega) only [up_n, up_s] at hi)
        first | omega | (simp (disch := omega) only [up_n, up_s]; first | exact htl i hi | omega | (have := htl i hi; omega)) | exact htl i hi
      · (try simp (disch := omega) only [up_n, up_s] at hi)
        first | omega | (simp (disch := omega) only [up_n, up_s]; first | exact htp i hi | omega | (have := htl i hi; omega)) | exact htp i hi
theorem QR_kick {N : Nat} {q : Nat → Nat} (h : QR N q) (hM : N < 100000) (tk : List (Nat × Nat)) (wl sp : Nat) (x y : Int32) : QR (N + 1) (Q_kick q tk wl sp x y) := by
  unfold Q_kick
  split
  · rename_i c
    have hx := ib_lt c (by have := h.1; omega)
    split
    · split
      · exact QR_mono h (by omega) (by omega)
      · exact QR_g h hx (by omega) hM
    · exact QR_mono h (by omega) (by omega)
  · exact QR_mono h (by omega) (by omega)
theorem YR_yard {N : Nat} {q : Nat → Nat} (h : QR N q) {tk : List (Nat × Nat)} {wl sp : Nat} (hY : YR tk wl sp) : YR (T_yard q tk) (X_yard q wl) (S_yard q sp) := by
  unfold T_yard X_yard S_yard
  have hRY := RY_YI h
  cases c : nY q
  · simp only [Bool.false_eq_true, if_false]
    exact hY
  · simp only [if_true]
    have c2 : okY q = true := by unfold nY at c; rw [Bool.and_eq_true] at c; exact c.2
    have c3 := of_decide_eq_true c2
    refine ⟨TW_tw (hRY.2.2.1 c3.1), ?_, hRY.2.2.2.1, hRY.2.2.2.2⟩
    have h1 := hRY.1
    have h2 := hRY.2.1
    have h3 := h.1
    omega
