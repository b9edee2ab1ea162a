/-! ===== the calls that change ===== -/
theorem SI_see {σ σ' : Sg} (h : SI σ) (e3 : σ' 1 3 = σ 1 3) (e4 : σ' 1 4 = σ 1 4) (e5 : σ' 1 5 = σ 1 5) (p : ∀ (c : Nat) (k : Int), ((2 ≤ c ∧ c ≤ 4) ∨ (83 ≤ c ∧ c ≤ 85) ∨ (97 ≤ c ∧ c ≤ 102)) → σ' c k = σ c k) : SI σ' := by
  obtain ⟨h1, h2, h3, h4⟩ := h
  have row : ∀ c : Nat, ((2 ≤ c ∧ c ≤ 4) ∨ (83 ≤ c ∧ c ≤ 85) ∨ (97 ≤ c ∧ c ≤ 102)) → σ' c = σ c := fun c hc => funext fun k => p c k hc
  have eV : cv σ' 1 = cv σ 1 := by
    unfold cv
    rw [e3, row (1 + 1) (by omega), row (1 + 2) (by omega), row (1 + 3) (by omega)]
  have e83 := row 83 (by omega)
  have e97 := row 97 (by omega)
  refine ⟨fun z => ?_, fun z => ?_, fun z => ?_, fun k k0 k1 => by rw [row 100 (by omega)]; exact h4 k k0 k1⟩
  · rw [e83] at z
    rw [eV, e4]
    exact bkQ_keep (h1 z) (fun k k0 k1 => by rw [e83]) (row 84 (by omega)) (row 85 (by omega))
  · rw [e97] at z
    rw [eV, e4, e5]
    exact ⟨ccA_keep (h2 z).1 (by rw [e97]) (fun c c0 c1 => row c (by omega)), by unfold nxA; rw [e83]; exact (h2 z).2⟩
  · rw [e83] at z
    rw [eV, e4, e83]; exact h3 z
theorem SI_fgt {σ : Sg} (h : N4 σ) (a : σ 83 3 = 0) (b : σ 97 0 = 0) (d : σ 83 13 = 0) : SI σ :=
  ⟨fun z => absurd a z, fun z => absurd b z, fun z => absurd d z, h⟩
theorem q_type {σ σ1 σ2 : Sg} {l r1 r2 : Int} (h : Rel σ) (p : (r1, σ1) = if ¬ (32 ≤ l ∧ l ≤ 126) then (-1, σ) else if σ 81 1 = 120 then (-3, σ) else (σ 81 1 + 1, up (up σ 82 (σ 81 1) l) 81 1 (σ 81 1 + 1))) (q : (r2, σ2) = if ¬ (32 ≤ l ∧ l ≤ 126) then (-1, σ1) else if σ1 113 23 = 120 then (-3, σ1) else (σ1 113 23 + 1, up (up σ1 124 (σ1 113 23) l) 113 23 (σ1 113 23 + 1))) : r1 = r2 ∧ Rel σ2 := by
  by_cases b : ¬ (32 ≤ l ∧ l ≤ 126)
  · rw [if_pos b] at p q; cases p; cases q; exact ⟨rfl, h⟩
  · rw [if_neg b] at p q
    have b := Classical.not_not.mp b
    obtain ⟨h1, h2, h3, ⟨t1, ⟨t2, t3⟩, t4⟩, h5, h6⟩ := h
    by_cases d : σ 81 1 = 120
    · rw [if_pos d] at p; cases p
      rw [if_pos (by omega)] at q; cases q; exact ⟨rfl, h1, h2, h3, ⟨t1, ⟨t2, t3⟩, t4⟩, h5, h6⟩
    · rw [if_neg d] at p; cases p
      have x23 : up (up σ 82 (σ 81 1) l) 81 1 (σ 81 1 + 1) 113 23 = σ 113 23 := by rw [up_ne (by decide), up_ne (by decide)]
      rw [x23, if_neg (by omega)] at q; cases q
      have fr : ∀ (c : Nat) (k : Int), c ≠ 81 → c ≠ 82 → c ≠ 124 → (c ≠ 113 ∨ k ≠ 23) → up (up (up (up σ 82 (σ 81 1) l) 81 1 (σ 81 1 + 1)) 124 (σ 113 23) l) 113 23 (σ 113 23 + 1) c k = σ c k := by
        intro c k a1 a2 a3 a4
        rcases a4 with a4 | a4
        · rw [up_ne a4, up_ne a3, up_ne a1, up_ne a2]
        · rw [up_nk a4, up_ne a3, up_ne a1, up_ne a2]
      refine ⟨by omega, R1_keep h1 (fun c k hc => fr c k (by omega) (by omega) (by omega) (by omega)), R2_keep h2 (fun c k hc => fr c k (by omega) (by omega) (by omega) (by omega)) (fr _ _ (by decide) (by decide) (by decide) (by decide)), R3_keep h3 (fun c k hc => fr c k (by omega) (by omega) (by omega) (by omega)) (fr _ _ (by decide) (by decide) (by decide) (by decide)) (fr _ _ (by decide) (by decide) (by decide) (by decide)), ?_, R5_keep h5 (fun c k hc => fr c k (by omega) (by omega) (by omega) (by omega)), SI_gen h6 (fun c k hc => fr c k (by omega) (by omega) (by omega) (by omega))⟩
      have y1 : up (up (up (up σ 82 (σ 81 1) l) 81 1 (σ 81 1 + 1)) 124 (σ 113 23) l) 113 23 (σ 113 23 + 1) 81 1 = σ 81 1 + 1 := by rw [up_ne (by decide), up_ne (by decide), up_eq]
      have y2 : ∀ k : Int, up (up (up (up σ 82 (σ 81 1) l) 81 1 (σ 81 1 + 1)) 124 (σ 113 23) l) 113 23 (σ 113 23 + 1) 82 k = if k = σ 81 1 then l else σ 82 k := by
        intro k; rw [up_ne (by decide), up_ne (by decide), up_ne (by decide)]; unfold up; rw [if_pos rfl]
      have y3 : ∀ k : Int, up (up (up (up σ 82 (σ 81 1) l) 81 1 (σ 81 1 + 1)) 124 (σ 113 23) l) 113 23 (σ 113 23 + 1) 124 k = if k = σ 113 23 then l else σ 124 k := by
        intro k; rw [up_ne (by decide)]; unfold up; rw [if_pos rfl]; split
        · rfl
        · rw [if_neg (by decide), if_neg (by decide)]
      refine ⟨by rw [y1, up_eq, t1], ⟨by rw [up_eq]; omega, fun i i0 i1 => ?_⟩, fun i i1 => ?_⟩
      · rw [up_eq] at i1
        rw [y3]; split
        · exact b
        · exact t3 i i0 (by omega)
      · rw [up_eq] at i1
        rw [y2, y3, t1]; split
        · rfl
        · exact t4 i (by omega)
theorem HR_draw {σ : Sg} {N : Int → Int} {v : Int} (h : HR σ 1 N) : HR (up σ 1 6 v) 1 (fun k => if k = 3 then v else N k) := by
  obtain ⟨⟨a, b⟩, c, d, e⟩ := h
  refine ⟨⟨?_, fun i i0 i1 => ?_⟩, ?_, ?_, ?_⟩
  · show (if (0 : Int) = 3 then v else N 0) = up σ 1 6 v 1 3
    rw [if_neg (by decide), up_nk (by decide)]; exact a
  · have i1 : i < (mv N).1 := by
      have : (mv fun k => if k = 3 then v else N k).1 = (mv N).1 := by show (if (0 : Int) = 3 then v else N 0) = N 0; rw [if_neg (by decide)]
      omega
    have z := b i i0 i1
    have u : (mv fun k => if k = 3 then v else N k).2.1 i = (mv N).2.1 i := by show (if 4 + 9 * i = 3 then v else N (4 + 9 * i)) = N (4 + 9 * i); rw [if_neg (by omega)]
    refine ⟨?_, fun k k0 k1 => ?_⟩
    · rw [u, z.1]; show σ (1 + 1) i = up σ 1 6 v (1 + 1) i; rw [up_ne (by decide)]
    · rw [u] at k1
      have w := z.2 k k0 k1
      refine ⟨?_, ?_⟩
      · show (if 4 + 9 * i + 1 + k = 3 then v else N (4 + 9 * i + 1 + k)) = up σ 1 6 v (1 + 2) (i * 4 + k)
        rw [if_neg (by omega), up_ne (by decide)]; exact w.1
      · show (if 4 + 9 * i + 5 + k = 3 then v else N (4 + 9 * i + 5 + k)) = up σ 1 6 v (1 + 3) (i * 4 + k)
        rw [if_neg (by omega), up_ne (by decide)]; exact w.2
  · show (if (1 : Int) = 3 then v else N 1) = up σ 1 6 v 1 4
    rw [if_neg (by decide), up_nk (by decide)]; exact c
  · show (if (2 : Int) = 3 then v else N 2) = up σ 1 6 v 1 5
    rw [if_neg (by decide), up_nk (by decide)]; exact d
  · show (if (3 : Int) = 3 then v else N 3) = up σ 1 6 v 1 6
    rw [if_pos rfl, up_eq]
