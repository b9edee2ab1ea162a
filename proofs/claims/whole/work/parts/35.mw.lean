set_option maxHeartbeats 4000000 in
set_option maxRecDepth 100000 in
theorem lp_readsS {g : G} {x : Cx} {σ : Sg} {P : Bool → Sg → Prop} {s n : Int} {t : Int → Int} (hO : Ok g x RX9 cX9_reads 9 3) (hR : Rt g x (some .boolean) (pB P)) (hs : 0 ≤ s ∧ s ≤ 7) (hT : TW t n) (h124 : σ 124 = t) (h23 : σ 113 23 = n) (k : Nat) (ih : ∀ (m : Nat), k = m + 1 → ∀ (acc : List (Int × Int)) (p : Int) (τ : Sg), acc.length + m + 1 = 4 → rdRow (τ 125) s acc → τ 124 = t → τ 113 23 = n → τ 113 24 = p → 0 ≤ p ∧ p ≤ n → (∀ j : Int, (j < 9 * s ∨ 9 * s + 9 ≤ j) → τ 125 j = σ 125 j) → Fm fRd σ τ → (∀ b τ', rdQ σ τ' s (rdF t n (m + 1) acc p) b → P b τ') → Z g x 9 14 [(0, .ref (g.2.2.1 113)), (1, vI s), (2, vI (9 * s)), (3, vI 1)] [] τ) : ∀ (acc : List (Int × Int)) (p : Int) (τ : Sg), acc.length + k + 1 = 4 → rdRow (τ 125) s acc → τ 124 = t → τ 113 23 = n → τ 113 24 = p → 0 ≤ p ∧ p ≤ n → (∀ j : Int, (j < 9 * s ∨ 9 * s + 9 ≤ j) → τ 125 j = σ 125 j) → Fm fRd σ τ → (∀ b τ', rdQ σ τ' s (rdF t n (k + 1) acc p) b → P b τ') → Z g x 9 14 [(0, .ref (g.2.2.1 113)), (1, vI s), (2, vI (9 * s)), (3, vI 1)] [] τ := by
  have hn := hT.1
  intro acc p τ hl hrow e124 e23 e24 hp hoth hFm hP
  have hq := sk_r (t := t) hp.2
  have hqc := chr_r hT (i := sk t n p) (by omega)
  have hwr := wrF_r hT (q := sk t n p) (by omega) (by omega)
  have hcr := cpF_r hT (p := (wrF t n (sk t n p)).2) (by omega) (by omega)
  refine z_iload_n hO 3 dX9_reads_14 rfl ?_
  refine z_if_eq hO 254 dX9_reads_15 (by decide) (by decide) (fun c15 => absurd c15 (by omega)) (fun c15 => ?_)
  refine z_aload_n hO 0 dX9_reads_18 rfl ?_
  refine z_cvI hO (t_X9_here (by rw [e124, e23]; exact hT) (by rw [e23, e24]; exact hp)) cv_X9_205 rfl rfl rfl rfl (by decide) (Nat.le_of_ble_eq_true rfl) dX9_reads_19 (fun v19 s19 p19 => ?_)
  simp only [fl_row_ne, fl_ne, up_row_ne, up_ne, up_eq, up_nk, up_up, up_self, ne_eq, Nat.reduceEqDiff, Int.reduceEq, reduceCtorEq, not_false_eq_true, not_true_eq_false, e124, e23, e24, sk_sk] at p19
  obtain ⟨rfl, rfl⟩ := p19
  refine z_if_ne hO 29 dX9_reads_22 (by decide) (by omega) (fun c22 => ?_) (fun c22 => ?_)
  ·
    refine z_iconst hO dX9_reads_29 ?_
    refine z_istore hO (L' := [(4, _), (0, _), (1, _), (2, _), (3, _)]) dX9_reads_30 (by decide) rfl ?_
    refine z_iload hO 0 dX9_reads_32 rfl ?_
    refine z_if_eq hO 44 dX9_reads_34 (by decide) (by decide) (fun c34 => ?_) (fun c34 => absurd c34 (by omega))
    refine z_aload_n hO 1 dX9_reads_44 rfl ?_
    refine z_getI hO 24 fl_X9_202 rfl rfl rfl dX9_reads_45 (fun r45 => ?_)
    try simp only [fl_row_ne, fl_ne, up_row_ne, up_ne, up_eq, up_nk, up_up, up_self, ne_eq, Nat.reduceEqDiff, Int.reduceEq, reduceCtorEq, not_false_eq_true, not_true_eq_false, e23, e24] at r45 ⊢
    refine z_istore hO (L' := [(5, _), (4, _), (0, _), (1, _), (2, _), (3, _)]) dX9_reads_48 (by decide) rfl ?_
    refine z_aload_n hO 2 dX9_reads_50 rfl ?_
    refine z_cvI hO (t_X9_wordRead (by simp only [fl_row_ne, fl_ne, up_row_ne, up_ne, up_eq, up_nk, up_up, up_self, ne_eq, Nat.reduceEqDiff, Int.reduceEq, reduceCtorEq, not_false_eq_true, not_true_eq_false, e124, e23, e24, sk_sk]; exact hT) (by simp only [fl_row_ne, fl_ne, up_row_ne, up_ne, up_eq, up_nk, up_up, up_self, ne_eq, Nat.reduceEqDiff, Int.reduceEq, reduceCtorEq, not_false_eq_true, not_true_eq_false, e124, e23, e24, sk_sk]; omega)) cv_X9_215 rfl rfl rfl rfl (by decide) (Nat.le_of_ble_eq_true rfl) dX9_reads_51 (fun v51 s51 p51 => ?_)
    simp only [fl_row_ne, fl_ne, up_row_ne, up_ne, up_eq, up_nk, up_up, up_self, ne_eq, Nat.reduceEqDiff, Int.reduceEq, reduceCtorEq, not_false_eq_true, not_true_eq_false, e124, e23, e24, sk_sk] at p51
    obtain ⟨rfl, rfl⟩ := p51
    try simp only [fl_row_ne, fl_ne, up_row_ne, up_ne, up_eq, up_nk, up_up, up_self, ne_eq, Nat.reduceEqDiff, Int.reduceEq, reduceCtorEq, not_false_eq_true, not_true_eq_false]
    refine z_istore hO (L' := [(6, _), (5, _), (4, _), (0, _), (1, _), (2, _), (3, _)]) dX9_reads_54 (by decide) rfl ?_
    refine z_iconst hO dX9_reads_56 ?_
    refine z_istore hO (L' := [(7, _), (6, _), (5, _), (4, _), (0, _), (1, _), (2, _), (3, _)]) dX9_reads_57 (by decide) rfl ?_
    refine z_iconst hO dX9_reads_59 ?_
    refine z_istore hO (L' := [(8, _), (7, _), (6, _), (5, _), (4, _), (0, _), (1, _), (2, _), (3, _)]) dX9_reads_60 (by decide) rfl ?_
    have hrow2 : rdRow ((up τ 113 24 (wrF t n (sk t n p)).2) 125) s acc := by rw [up_row_ne (by decide)]; exact hrow
    have hc0 : (up τ 113 24 (wrF t n (sk t n p)).2) 125 (9 * s) = acc.length := hrow2.1
    refine z_pick [5, 6, 7, 3, 2, 1, 0] rfl (lp_reads1 (σ := (up τ 113 24 (wrF t n (sk t n p)).2)) (s := s) (w := (wrF t n (sk t n p)).1) hO hs (by omega) (by omega) ?_ 5 0 false (by omega) (by omega) (iff_of_false (by decide) (fun ⟨j, j1, j2⟩ => by omega)))
    intro b hb
    refine z_iload hO 4 dX9_reads_107 rfl ?_
    refine z_bipush hO dX9_reads_109 (by decide) ?_
    refine z_icmp_eq hO 119 dX9_reads_111 (by decide) (by omega) (by decide) (fun c111 => ?_) (fun c111 => ?_)
    ·
      have hbad : (wrF t n (sk t n p)).1 = -4 ∨ (wrF t n (sk t n p)).1 ∈ acc.map Prod.fst := Or.inl c111
      refine z_aload_n hO 0 dX9_reads_119 rfl ?_
      refine z_iload hO 3 dX9_reads_120 rfl ?_
      refine z_putI hO 24 fp_X9_202 rfl rfl rfl (by omega) rfl rfl dX9_reads_122 ?_
      refine z_iconst hO dX9_reads_125 ?_
      exact z_retF hO hR dX9_reads_126 (hP _ _ ⟨by rw [rdF, if_pos hbad], by rw [rdF, if_pos hbad, up_eq]; first | done | (dsimp only; omega), fun z => absurd z (by decide), fun j hj => by simp only [fl_row_ne, fl_ne, up_row_ne, up_ne, up_eq, up_nk, up_up, up_self, ne_eq, Nat.reduceEqDiff, Int.reduceEq, reduceCtorEq, not_false_eq_true, not_true_eq_false]; exact hoth j hj, by first | exact hFm.up rfl | exact (hFm.up rfl).up rfl⟩)
    ·
      refine z_iload hO 5 dX9_reads_114 rfl ?_
      refine z_if_eq hO 127 dX9_reads_116 (by decide) (by have := b2i_r b; omega) (fun c116 => ?_) (fun c116 => ?_)
      ·
        have hgood : ¬ ((wrF t n (sk t n p)).1 = -4 ∨ (wrF t n (sk t n p)).1 ∈ acc.map Prod.fst) := by
          rintro (z | z)
          · exact c111 z
          · obtain ⟨j, hj, ej⟩ := List.getElem_of_mem z
            rw [List.length_map] at hj
            have h5 := hb.mpr ⟨j, by omega, by rw [(hrow2.2 j hj).1, ← ej, List.getElem_map]⟩
            rw [b2i_0.mp c116] at h5; cases h5
        have hrd : rdF t n (k + 1) acc p = (if (cpF t n (wrF t n (sk t n p)).2).1 = -1 then (false, acc, (cpF t n (wrF t n (sk t n p)).2).2) else if k = 0 then (true, acc ++ [((wrF t n (sk t n p)).1, (cpF t n (wrF t n (sk t n p)).2).1)], (cpF t n (wrF t n (sk t n p)).2).2) else if chr t n (sk t n (cpF t n (wrF t n (sk t n p)).2).2) = 44 then rdF t n k (acc ++ [((wrF t n (sk t n p)).1, (cpF t n (wrF t n (sk t n p)).2).1)]) (sk t n (cpF t n (wrF t n (sk t n p)).2).2 + 1) else (true, acc ++ [((wrF t n (sk t n p)).1, (cpF t n (wrF t n (sk t n p)).2).1)], sk t n (cpF t n (wrF t n (sk t n p)).2).2)) := by rw [rdF, if_neg hgood]
        refine z_pick [0, 1, 2, 3, 4, 5] rfl (lp_reads2 (σ := σ) (t := t) (n := n) (acc := acc) (p1 := (wrF t n (sk t n p)).2) hO hR hs hT (by simp only [fl_row_ne, fl_ne, up_row_ne, up_ne, up_eq, up_nk, up_up, up_self, ne_eq, Nat.reduceEqDiff, Int.reduceEq, reduceCtorEq, not_false_eq_true, not_true_eq_false]; exact e124) (by simp only [fl_row_ne, fl_ne, up_row_ne, up_ne, up_eq, up_nk, up_up, up_self, ne_eq, Nat.reduceEqDiff, Int.reduceEq, reduceCtorEq, not_false_eq_true, not_true_eq_false]; exact e23) up_eq (by omega) (by omega) (by omega) hrow2 (fun j hj => by simp only [fl_row_ne, fl_ne, up_row_ne, up_ne, up_eq, up_nk, up_up, up_self, ne_eq, Nat.reduceEqDiff, Int.reduceEq, reduceCtorEq, not_false_eq_true, not_true_eq_false]; exact hoth j hj) (hFm.up rfl) ?_ ?_ ?_)
        · intro ω g1 g2 g3 g4
          rw [if_pos g1] at hrd
          exact hP _ _ ⟨by rw [hrd], by rw [hrd]; exact g2, fun z => absurd z (by decide), g3, g4⟩
        · intro ω g1 g2 g5 g3 g4
          rw [if_neg g1] at hrd
          rcases g2 with ⟨a1, a2⟩ | ⟨a1, a2, a3⟩
          · rw [if_pos (by omega)] at hrd
            exact hP _ _ ⟨by rw [hrd], by rw [hrd]; exact a2, fun _ => by rw [hrd]; exact g5, g3, g4⟩
          · rw [if_neg (by omega), if_neg a2] at hrd
            exact hP _ _ ⟨by rw [hrd], by rw [hrd]; exact a3, fun _ => by rw [hrd]; exact g5, g3, g4⟩
        · intro ω g1 a1 a2 a3 g5 g3 g4
          rw [if_neg g1, if_neg (by omega), if_pos a2] at hrd
          obtain ⟨m, rfl⟩ : ∃ m, k = m + 1 := ⟨k - 1, by omega⟩
          have hs3 := sk_r (t := t) (n := n) (i := (cpF t n (wrF t n (sk t n p)).2).2) (by omega)
          have hc3 := chr_r hT (i := sk t n (cpF t n (wrF t n (sk t n p)).2).2) (by omega)
          exact ih m rfl _ _ _ (by rw [List.length_append, List.length_singleton]; omega) g5 ((g4.row 124 (fun _ => rfl)).trans h124) ((g4 113 23 rfl).trans h23) a3 (by omega) g3 g4 (fun b τ' z => hP b τ' (by rw [hrd]; exact z))
      ·
        have hbad : (wrF t n (sk t n p)).1 = -4 ∨ (wrF t n (sk t n p)).1 ∈ acc.map Prod.fst := by
          obtain ⟨j, j1, j2⟩ := hb.mp (b2i_1.mp c116)
          have hj : j < acc.length := by omega
          exact Or.inr (List.mem_map.mpr ⟨acc[j], List.getElem_mem hj, by rw [← (hrow2.2 j hj).1]; exact j2⟩)
        refine z_aload_n hO 0 dX9_reads_119 rfl ?_
        refine z_iload hO 3 dX9_reads_120 rfl ?_
        refine z_putI hO 24 fp_X9_202 rfl rfl rfl (by omega) rfl rfl dX9_reads_122 ?_
        refine z_iconst hO dX9_reads_125 ?_
        exact z_retF hO hR dX9_reads_126 (hP _ _ ⟨by rw [rdF, if_pos hbad], by rw [rdF, if_pos hbad, up_eq]; first | done | (dsimp only; omega), fun z => absurd z (by decide), fun j hj => by simp only [fl_row_ne, fl_ne, up_row_ne, up_ne, up_eq, up_nk, up_up, up_self, ne_eq, Nat.reduceEqDiff, Int.reduceEq, reduceCtorEq, not_false_eq_true, not_true_eq_false]; exact hoth j hj, by first | exact hFm.up rfl | exact (hFm.up rfl).up rfl⟩)
  ·
    have hbg : sk t n p = n := by omega
    refine z_iconst hO dX9_reads_25 ?_
    refine z_goto hO 30 dX9_reads_26 (by decide) ?_
    refine z_istore hO (L' := [(4, _), (0, _), (1, _), (2, _), (3, _)]) dX9_reads_30 (by decide) rfl ?_
    refine z_iload hO 0 dX9_reads_32 rfl ?_
    refine z_if_eq hO 44 dX9_reads_34 (by decide) (by decide) (fun c34 => absurd c34 (by omega)) (fun c34 => ?_)
    refine z_aload_n hO 1 dX9_reads_37 rfl ?_
    refine z_getI hO 23 fl_X9_199 rfl rfl rfl dX9_reads_38 (fun r38 => ?_)
    try simp only [fl_row_ne, fl_ne, up_row_ne, up_ne, up_eq, up_nk, up_up, up_self, ne_eq, Nat.reduceEqDiff, Int.reduceEq, reduceCtorEq, not_false_eq_true, not_true_eq_false, e23, e24] at r38 ⊢
    refine z_goto hO 48 dX9_reads_41 (by decide) ?_
    refine z_istore hO (L' := [(5, _), (4, _), (0, _), (1, _), (2, _), (3, _)]) dX9_reads_48 (by decide) rfl ?_
    refine z_aload_n hO 2 dX9_reads_50 rfl ?_
    refine z_cvI hO (t_X9_wordRead (by simp only [fl_row_ne, fl_ne, up_row_ne, up_ne, up_eq, up_nk, up_up, up_self, ne_eq, Nat.reduceEqDiff, Int.reduceEq, reduceCtorEq, not_false_eq_true, not_true_eq_false, e124, e23, e24, sk_sk]; exact hT) (by simp only [fl_row_ne, fl_ne, up_row_ne, up_ne, up_eq, up_nk, up_up, up_self, ne_eq, Nat.reduceEqDiff, Int.reduceEq, reduceCtorEq, not_false_eq_true, not_true_eq_false, e124, e23, e24, sk_sk]; omega)) cv_X9_215 rfl rfl rfl rfl (by decide) (Nat.le_of_ble_eq_true rfl) dX9_reads_51 (fun v51 s51 p51 => ?_)
    simp only [fl_row_ne, fl_ne, up_row_ne, up_ne, up_eq, up_nk, up_up, up_self, ne_eq, Nat.reduceEqDiff, Int.reduceEq, reduceCtorEq, not_false_eq_true, not_true_eq_false, e124, e23, e24, sk_sk] at p51
    obtain ⟨rfl, rfl⟩ := p51
    try simp only [fl_row_ne, fl_ne, up_row_ne, up_ne, up_eq, up_nk, up_up, up_self, ne_eq, Nat.reduceEqDiff, Int.reduceEq, reduceCtorEq, not_false_eq_true, not_true_eq_false]
    refine z_istore hO (L' := [(6, _), (5, _), (4, _), (0, _), (1, _), (2, _), (3, _)]) dX9_reads_54 (by decide) rfl ?_
    refine z_iconst hO dX9_reads_56 ?_
    refine z_istore hO (L' := [(7, _), (6, _), (5, _), (4, _), (0, _), (1, _), (2, _), (3, _)]) dX9_reads_57 (by decide) rfl ?_
    refine z_iconst hO dX9_reads_59 ?_
    refine z_istore hO (L' := [(8, _), (7, _), (6, _), (5, _), (4, _), (0, _), (1, _), (2, _), (3, _)]) dX9_reads_60 (by decide) rfl ?_
    have hrow2 : rdRow ((up τ 113 24 (wrF t n (sk t n p)).2) 125) s acc := by rw [up_row_ne (by decide)]; exact hrow
    have hc0 : (up τ 113 24 (wrF t n (sk t n p)).2) 125 (9 * s) = acc.length := hrow2.1
    refine z_pick [5, 6, 7, 3, 2, 1, 0] rfl (lp_reads1 (σ := (up τ 113 24 (wrF t n (sk t n p)).2)) (s := s) (w := (wrF t n (sk t n p)).1) hO hs (by omega) (by omega) ?_ 5 0 false (by omega) (by omega) (iff_of_false (by decide) (fun ⟨j, j1, j2⟩ => by omega)))
    intro b hb
    refine z_iload hO 4 dX9_reads_107 rfl ?_
    refine z_bipush hO dX9_reads_109 (by decide) ?_
    refine z_icmp_eq hO 119 dX9_reads_111 (by decide) (by omega) (by decide) (fun c111 => ?_) (fun c111 => ?_)
    ·
      have hbad : (wrF t n (sk t n p)).1 = -4 ∨ (wrF t n (sk t n p)).1 ∈ acc.map Prod.fst := Or.inl c111
      refine z_aload_n hO 0 dX9_reads_119 rfl ?_
      refine z_iload hO 3 dX9_reads_120 rfl ?_
      refine z_putI hO 24 fp_X9_202 rfl rfl rfl (by omega) rfl rfl dX9_reads_122 ?_
      refine z_iconst hO dX9_reads_125 ?_
      exact z_retF hO hR dX9_reads_126 (hP _ _ ⟨by rw [rdF, if_pos hbad], by rw [rdF, if_pos hbad, up_eq]; first | done | (dsimp only; omega), fun z => absurd z (by decide), fun j hj => by simp only [fl_row_ne, fl_ne, up_row_ne, up_ne, up_eq, up_nk, up_up, up_self, ne_eq, Nat.reduceEqDiff, Int.reduceEq, reduceCtorEq, not_false_eq_true, not_true_eq_false]; exact hoth j hj, by first | exact hFm.up rfl | exact (hFm.up rfl).up rfl⟩)
    ·
      refine z_iload hO 5 dX9_reads_114 rfl ?_
      refine z_if_eq hO 127 dX9_reads_116 (by decide) (by have := b2i_r b; omega) (fun c116 => ?_) (fun c116 => ?_)
      ·
        have hgood : ¬ ((wrF t n (sk t n p)).1 = -4 ∨ (wrF t n (sk t n p)).1 ∈ acc.map Prod.fst) := by
          rintro (z | z)
          · exact c111 z
          · obtain ⟨j, hj, ej⟩ := List.getElem_of_mem z
            rw [List.length_map] at hj
            have h5 := hb.mpr ⟨j, by omega, by rw [(hrow2.2 j hj).1, ← ej, List.getElem_map]⟩
            rw [b2i_0.mp c116] at h5; cases h5
        have hrd : rdF t n (k + 1) acc p = (if (cpF t n (wrF t n (sk t n p)).2).1 = -1 then (false, acc, (cpF t n (wrF t n (sk t n p)).2).2) else if k = 0 then (true, acc ++ [((wrF t n (sk t n p)).1, (cpF t n (wrF t n (sk t n p)).2).1)], (cpF t n (wrF t n (sk t n p)).2).2) else if chr t n (sk t n (cpF t n (wrF t n (sk t n p)).2).2) = 44 then rdF t n k (acc ++ [((wrF t n (sk t n p)).1, (cpF t n (wrF t n (sk t n p)).2).1)]) (sk t n (cpF t n (wrF t n (sk t n p)).2).2 + 1) else (true, acc ++ [((wrF t n (sk t n p)).1, (cpF t n (wrF t n (sk t n p)).2).1)], sk t n (cpF t n (wrF t n (sk t n p)).2).2)) := by rw [rdF, if_neg hgood]
        refine z_pick [0, 1, 2, 3, 4, 5] rfl (lp_reads2 (σ := σ) (t := t) (n := n) (acc := acc) (p1 := (wrF t n (sk t n p)).2) hO hR hs hT (by simp only [fl_row_ne, fl_ne, up_row_ne, up_ne, up_eq, up_nk, up_up, up_self, ne_eq, Nat.reduceEqDiff, Int.reduceEq, reduceCtorEq, not_false_eq_true, not_true_eq_false]; exact e124) (by simp only [fl_row_ne, fl_ne, up_row_ne, up_ne, up_eq, up_nk, up_up, up_self, ne_eq, Nat.reduceEqDiff, Int.reduceEq, reduceCtorEq, not_false_eq_true, not_true_eq_false]; exact e23) up_eq (by omega) (by omega) (by omega) hrow2 (fun j hj => by simp only [fl_row_ne, fl_ne, up_row_ne, up_ne, up_eq, up_nk, up_up, up_self, ne_eq, Nat.reduceEqDiff, Int.reduceEq, reduceCtorEq, not_false_eq_true, not_true_eq_false]; exact hoth j hj) (hFm.up rfl) ?_ ?_ ?_)
        · intro ω g1 g2 g3 g4
          rw [if_pos g1] at hrd
          exact hP _ _ ⟨by rw [hrd], by rw [hrd]; exact g2, fun z => absurd z (by decide), g3, g4⟩
        · intro ω g1 g2 g5 g3 g4
          rw [if_neg g1] at hrd
          rcases g2 with ⟨a1, a2⟩ | ⟨a1, a2, a3⟩
          · rw [if_pos (by omega)] at hrd
            exact hP _ _ ⟨by rw [hrd], by rw [hrd]; exact a2, fun _ => by rw [hrd]; exact g5, g3, g4⟩
          · rw [if_neg (by omega), if_neg a2] at hrd
            exact hP _ _ ⟨by rw [hrd], by rw [hrd]; exact a3, fun _ => by rw [hrd]; exact g5, g3, g4⟩
        · intro ω g1 a1 a2 a3 g5 g3 g4
          rw [if_neg g1, if_neg (by omega), if_pos a2] at hrd
          obtain ⟨m, rfl⟩ : ∃ m, k = m + 1 := ⟨k - 1, by omega⟩
          have hs3 := sk_r (t := t) (n := n) (i := (cpF t n (wrF t n (sk t n p)).2).2) (by omega)
          have hc3 := chr_r hT (i := sk t n (cpF t n (wrF t n (sk t n p)).2).2) (by omega)
          exact ih m rfl _ _ _ (by rw [List.length_append, List.length_singleton]; omega) g5 ((g4.row 124 (fun _ => rfl)).trans h124) ((g4 113 23 rfl).trans h23) a3 (by omega) g3 g4 (fun b τ' z => hP b τ' (by rw [hrd]; exact z))
      ·
        have hbad : (wrF t n (sk t n p)).1 = -4 ∨ (wrF t n (sk t n p)).1 ∈ acc.map Prod.fst := by
          obtain ⟨j, j1, j2⟩ := hb.mp (b2i_1.mp c116)
          have hj : j < acc.length := by omega
          exact Or.inr (List.mem_map.mpr ⟨acc[j], List.getElem_mem hj, by rw [← (hrow2.2 j hj).1]; exact j2⟩)
        refine z_aload_n hO 0 dX9_reads_119 rfl ?_
        refine z_iload hO 3 dX9_reads_120 rfl ?_
        refine z_putI hO 24 fp_X9_202 rfl rfl rfl (by omega) rfl rfl dX9_reads_122 ?_
        refine z_iconst hO dX9_reads_125 ?_
        exact z_retF hO hR dX9_reads_126 (hP _ _ ⟨by rw [rdF, if_pos hbad], by rw [rdF, if_pos hbad, up_eq]; first | done | (dsimp only; omega), fun z => absurd z (by decide), fun j hj => by simp only [fl_row_ne, fl_ne, up_row_ne, up_ne, up_eq, up_nk, up_up, up_self, ne_eq, Nat.reduceEqDiff, Int.reduceEq, reduceCtorEq, not_false_eq_true, not_true_eq_false]; exact hoth j hj, by first | exact hFm.up rfl | exact (hFm.up rfl).up rfl⟩)

theorem lp_reads {g : G} {x : Cx} {σ : Sg} {P : Bool → Sg → Prop} {s n : Int} {t : Int → Int} (hO : Ok g x RX9 cX9_reads 9 3) (hR : Rt g x (some .boolean) (pB P)) (hs : 0 ≤ s ∧ s ≤ 7) (hT : TW t n) (h124 : σ 124 = t) (h23 : σ 113 23 = n) : ∀ (k : Nat) (acc : List (Int × Int)) (p : Int) (τ : Sg), acc.length + k + 1 = 4 → rdRow (τ 125) s acc → τ 124 = t → τ 113 23 = n → τ 113 24 = p → 0 ≤ p ∧ p ≤ n → (∀ j : Int, (j < 9 * s ∨ 9 * s + 9 ≤ j) → τ 125 j = σ 125 j) → Fm fRd σ τ → (∀ b τ', rdQ σ τ' s (rdF t n (k + 1) acc p) b → P b τ') → Z g x 9 14 [(0, .ref (g.2.2.1 113)), (1, vI s), (2, vI (9 * s)), (3, vI 1)] [] τ := by
  intro k
  induction k with
  | zero => exact lp_readsS hO hR hs hT h124 h23 0 (fun m h => absurd h (by omega))
  | succ k ih => exact lp_readsS hO hR hs hT h124 h23 (k + 1) (fun m h => by obtain rfl : m = k := (by omega); exact ih)

set_option maxHeartbeats 4000000 in
set_option maxRecDepth 100000 in
theorem t_X9_reads {g : G} {σ : Sg} {s : Int} (hs : 0 ≤ s ∧ s ≤ 7) (hT : TW (σ 124) (σ 113 23)) (hp : 0 ≤ σ 113 24 ∧ σ 113 24 ≤ σ 113 23) : MM g mX9_reads [.ref (g.2.2.1 113), vI s] σ (pB (fun b σ' => rdQ σ σ' s (rdF (σ 124) (σ 113 23) 4 [] (σ 113 24)) b)) := by
  refine mm_of rfl (by decide) rfl rfl (Nat.le_of_ble_eq_true rfl) (fun x hO hR => ?_)
  refine z_bipush hO dX9_reads_0 (by decide) ?_
  refine z_iload_n hO 1 dX9_reads_2 rfl ?_
  refine z_imul hO dX9_reads_3 ?_
  refine z_istore_n hO (L' := [(2, _), (0, _), (1, _)]) dX9_reads_4 (by decide) rfl ?_
  refine z_aload_n hO 1 dX9_reads_5 rfl ?_
  refine z_getR hO (125) fl_X9_44 rfl rfl dX9_reads_6 ?_
  refine z_iload_n hO 0 dX9_reads_9 rfl ?_
  refine z_iconst hO dX9_reads_10 ?_
  refine z_iast hO rfl (by omega) (by decide) (by omega) dX9_reads_11 ?_
  refine z_iconst hO dX9_reads_12 ?_
  refine z_istore_n hO (L' := [(3, _), (2, _), (0, _), (1, _)]) dX9_reads_13 (by decide) rfl ?_
  exact z_pick [2, 3, 1, 0] rfl (lp_reads (σ := σ) hO hR hs hT rfl rfl 3 [] _ _ rfl ⟨up_eq, fun j hj => absurd hj (Nat.not_lt_zero j)⟩ (by simp only [fl_row_ne, fl_ne, up_row_ne, up_ne, up_eq, up_nk, up_up, up_self, ne_eq, Nat.reduceEqDiff, Int.reduceEq, reduceCtorEq, not_false_eq_true, not_true_eq_false]) (by simp only [fl_row_ne, fl_ne, up_row_ne, up_ne, up_eq, up_nk, up_up, up_self, ne_eq, Nat.reduceEqDiff, Int.reduceEq, reduceCtorEq, not_false_eq_true, not_true_eq_false]) (by simp only [fl_row_ne, fl_ne, up_row_ne, up_ne, up_eq, up_nk, up_up, up_self, ne_eq, Nat.reduceEqDiff, Int.reduceEq, reduceCtorEq, not_false_eq_true, not_true_eq_false]) hp (fun j hj => up_nk (by omega)) (Fm.rf.up rfl) (fun b τ' z => z))
