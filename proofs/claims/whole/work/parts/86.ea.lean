def f81 : Nat → Int → Bool := fun c k => c == 81 && k == 2
theorem ltC_W (v : Int) : (ltW v = -4 ∧ ltC v = -1) ∨ (ltW v ≠ -4 ∧ ltC v = ltW v ∧ 0 ≤ ltW v) := by
  unfold ltW ltC; (repeat' split) <;> first | exact Or.inl ⟨rfl, rfl⟩ | exact Or.inr ⟨by decide, rfl, by decide⟩
theorem vlC_W {v : Int} (h : 0 ≤ v ∧ v ≤ 99) : (vlW v = -4 ∧ vlC v = -1) ∨ (vlW v ≠ -4 ∧ vlC v = vlW v ∧ 0 ≤ vlW v) := by
  unfold vlW vlC; (repeat' split) <;> first | exact Or.inl ⟨rfl, rfl⟩ | exact Or.inr ⟨by omega, rfl, by omega⟩
theorem chr_in {t : Int → Int} {n i : Int} (h : i < n) : chr t n i = t i := by unfold chr; rw [if_pos h]
theorem GI_81 {σ : Sg} {v : Int} (h : GI σ 5) : GI (up σ 81 2 v) 5 := by
  refine ⟨by rw [up_ne (by decide)]; exact h.1, fun i i0 i1 => ?_⟩
  rw [up_ne (by decide)] at i1 ⊢; exact h.2 i i0 i1

set_option maxHeartbeats 4000000 in
set_option maxRecDepth 100000 in
theorem lp_rc3 {g : G} {x : Cx} {σ : Sg} {bz : Int} (hO : Ok g x RX4 cX4_readCandidate 7 4) (hR : Rt g x (some .int) (pI (fun r σ' => (((wrF (σ 82) (σ 81 1) (sk (σ 82) (σ 81 1) (σ 81 2))).1 = -4 ∨ (bz = 0 ∧ ∃ k, 0 ≤ k ∧ k < σ 6 (σ 5 3 - 1) ∧ σ 7 ((σ 5 3 - 1) * 4 + k) = (wrF (σ 82) (σ 81 1) (sk (σ 82) (σ 81 1) (σ 81 2))).1)) ∧ r = (sk (σ 82) (σ 81 1) (σ 81 2)) ∧ Fm f81 σ σ') ∨ (¬ ((wrF (σ 82) (σ 81 1) (sk (σ 82) (σ 81 1) (σ 81 2))).1 = -4 ∨ (bz = 0 ∧ ∃ k, 0 ≤ k ∧ k < σ 6 (σ 5 3 - 1) ∧ σ 7 ((σ 5 3 - 1) * 4 + k) = (wrF (σ 82) (σ 81 1) (sk (σ 82) (σ 81 1) (σ 81 2))).1)) ∧ (cpF (σ 82) (σ 81 1) (wrF (σ 82) (σ 81 1) (sk (σ 82) (σ 81 1) (σ 81 2))).2).1 = -1 ∧ r = (cpF (σ 82) (σ 81 1) (wrF (σ 82) (σ 81 1) (sk (σ 82) (σ 81 1) (σ 81 2))).2).2 ∧ Fm f81 σ σ') ∨ (¬ ((wrF (σ 82) (σ 81 1) (sk (σ 82) (σ 81 1) (σ 81 2))).1 = -4 ∨ (bz = 0 ∧ ∃ k, 0 ≤ k ∧ k < σ 6 (σ 5 3 - 1) ∧ σ 7 ((σ 5 3 - 1) * 4 + k) = (wrF (σ 82) (σ 81 1) (sk (σ 82) (σ 81 1) (σ 81 2))).1)) ∧ (cpF (σ 82) (σ 81 1) (wrF (σ 82) (σ 81 1) (sk (σ 82) (σ 81 1) (σ 81 2))).2).1 ≠ -1 ∧ r = -1 ∧ σ' = (if bz = 0 then widS (up σ 81 2 (cpF (σ 82) (σ 81 1) (wrF (σ 82) (σ 81 1) (sk (σ 82) (σ 81 1) (σ 81 2))).2).2) 5 (σ 5 3 - 1) (wrF (σ 82) (σ 81 1) (sk (σ 82) (σ 81 1) (σ 81 2))).1 (cpF (σ 82) (σ 81 1) (wrF (σ 82) (σ 81 1) (sk (σ 82) (σ 81 1) (σ 81 2))).2).1 else groS (up σ 81 2 (cpF (σ 82) (σ 81 1) (wrF (σ 82) (σ 81 1) (sk (σ 82) (σ 81 1) (σ 81 2))).2).2) 5 (wrF (σ 82) (σ 81 1) (sk (σ 82) (σ 81 1) (σ 81 2))).1 (cpF (σ 82) (σ 81 1) (wrF (σ 82) (σ 81 1) (sk (σ 82) (σ 81 1) (σ 81 2))).2).1))))) (hT : TW (σ 82) (σ 81 1)) (hp : 0 ≤ (σ 81 2) ∧ (σ 81 2) ≤ (σ 81 1)) (hG : GI σ 5) (hbz : bz = 0 ∨ bz = 1) (h1 : bz = 1 → σ 5 3 < 8) (h0 : bz = 0 → 1 ≤ σ 5 3 ∧ σ 6 (σ 5 3 - 1) < 4) (hgood : ¬ ((wrF (σ 82) (σ 81 1) (sk (σ 82) (σ 81 1) (σ 81 2))).1 = -4 ∨ (bz = 0 ∧ ∃ k, 0 ≤ k ∧ k < σ 6 (σ 5 3 - 1) ∧ σ 7 ((σ 5 3 - 1) * 4 + k) = (wrF (σ 82) (σ 81 1) (sk (σ 82) (σ 81 1) (σ 81 2))).1))) (hc1 : (cpF (σ 82) (σ 81 1) (wrF (σ 82) (σ 81 1) (sk (σ 82) (σ 81 1) (σ 81 2))).2).1 ≠ -1) : Z g x 7 179 [(0, .ref (g.2.2.1 81)), (1, .ref (g.2.2.1 5)), (2, vI bz), (5, vI (wrF (σ 82) (σ 81 1) (sk (σ 82) (σ 81 1) (σ 81 2))).1), (6, vI (cpF (σ 82) (σ 81 1) (wrF (σ 82) (σ 81 1) (sk (σ 82) (σ 81 1) (σ 81 2))).2).1)] [] (up σ 81 2 (cpF (σ 82) (σ 81 1) (wrF (σ 82) (σ 81 1) (sk (σ 82) (σ 81 1) (σ 81 2))).2).2) := by
  have hn120 := hT.1
  have hq5 := sk_r (t := σ 82) hp.2
  have hw5 := wrF_r hT (q := (sk (σ 82) (σ 81 1) (σ 81 2))) (by omega) (by omega)
  have hc5 := cpF_r hT (p := (wrF (σ 82) (σ 81 1) (sk (σ 82) (σ 81 1) (σ 81 2))).2) (by omega) (by omega)
  refine z_iload_n hO 2 dX4_readCandidate_179 rfl ?_
  refine z_if_eq hO 195 dX4_readCandidate_180 (by decide) (by omega) (fun c180 => ?_) (fun c180 => ?_)
  ·
    have hb0 : bz = 0 := by omega
    have h05 := h0 hb0
    refine z_aload_n hO 1 dX4_readCandidate_195 rfl ?_
    refine z_aload_n hO 1 dX4_readCandidate_196 rfl ?_
    refine z_getI hO 3 fl_X4_19 rfl rfl rfl dX4_readCandidate_197 (fun r197 => ?_)
    try simp (disch := omega) only [fl_row_ne, fl_ne, up_row_ne, up_ne, up_eq, up_nk, up_up, up_self, ne_eq, Nat.reduceEqDiff, Int.reduceEq, reduceCtorEq, not_false_eq_true, not_true_eq_false] at r197 ⊢
    refine z_iconst hO dX4_readCandidate_200 ?_
    refine z_isub hO dX4_readCandidate_201 ?_
    refine z_iload hO 3 dX4_readCandidate_202 rfl ?_
    refine z_iload hO 4 dX4_readCandidate_204 rfl ?_
    refine z_cvB hO (t_X2_widen hd_5 (by omega) (by omega) (by omega) (GI_81 hG).1.2 (GI_81 hG).2) cv_X4_60 rfl rfl rfl rfl (by decide) (Nat.le_of_ble_eq_true rfl) dX4_readCandidate_206 (fun s206 p206 => ?_) (fun s206 p206 => ?_)
    ·
      obtain ⟨k206, e206⟩ := p206.1 rfl
      subst e206
      refine z_pop hO dX4_readCandidate_209 rfl ?_
      refine z_iconst hO dX4_readCandidate_210 ?_
      exact z_retI hO hR dX4_readCandidate_211 (by first | exact Or.inr (Or.inr ⟨hgood, hc1, rfl, by rw [if_pos hb0]⟩) | exact Or.inr (Or.inr ⟨hgood, hc1, rfl, by rw [if_neg (by omega)]⟩))
    ·
      obtain ⟨k206, e206⟩ := p206.2 rfl
      exfalso; apply k206; rw [up_ne (by decide), up_ne (by decide)]; exact ⟨by omega, by omega, h05.2⟩
  ·
    have hb1 : bz = 1 := by omega
    have h15 := h1 hb1
    refine z_aload_n hO 1 dX4_readCandidate_183 rfl ?_
    refine z_iload hO 3 dX4_readCandidate_184 rfl ?_
    refine z_iload hO 4 dX4_readCandidate_186 rfl ?_
    refine z_cvB hO (t_X2_grow hd_5 (by omega) (by omega) (GI_81 hG).1 (GI_81 hG).2) cv_X4_56 rfl rfl rfl rfl (by decide) (Nat.le_of_ble_eq_true rfl) dX4_readCandidate_188 (fun s188 p188 => ?_) (fun s188 p188 => ?_)
    ·
      obtain ⟨k188, e188⟩ := p188.1 rfl
      subst e188
      refine z_pop hO dX4_readCandidate_191 rfl ?_
      refine z_goto hO 210 dX4_readCandidate_192 (by decide) ?_
      refine z_iconst hO dX4_readCandidate_210 ?_
      exact z_retI hO hR dX4_readCandidate_211 (by first | exact Or.inr (Or.inr ⟨hgood, hc1, rfl, by rw [if_pos hb0]⟩) | exact Or.inr (Or.inr ⟨hgood, hc1, rfl, by rw [if_neg (by omega)]⟩))
    ·
      obtain ⟨k188, e188⟩ := p188.2 rfl
      exfalso; rw [up_ne (by decide)] at k188; omega

set_option maxHeartbeats 4000000 in
set_option maxRecDepth 100000 in
theorem lp_rc2 {g : G} {x : Cx} {σ : Sg} {bz : Int} (hO : Ok g x RX4 cX4_readCandidate 7 4) (hR : Rt g x (some .int) (pI (fun r σ' => (((wrF (σ 82) (σ 81 1) (sk (σ 82) (σ 81 1) (σ 81 2))).1 = -4 ∨ (bz = 0 ∧ ∃ k, 0 ≤ k ∧ k < σ 6 (σ 5 3 - 1) ∧ σ 7 ((σ 5 3 - 1) * 4 + k) = (wrF (σ 82) (σ 81 1) (sk (σ 82) (σ 81 1) (σ 81 2))).1)) ∧ r = (sk (σ 82) (σ 81 1) (σ 81 2)) ∧ Fm f81 σ σ') ∨ (¬ ((wrF (σ 82) (σ 81 1) (sk (σ 82) (σ 81 1) (σ 81 2))).1 = -4 ∨ (bz = 0 ∧ ∃ k, 0 ≤ k ∧ k < σ 6 (σ 5 3 - 1) ∧ σ 7 ((σ 5 3 - 1) * 4 + k) = (wrF (σ 82) (σ 81 1) (sk (σ 82) (σ 81 1) (σ 81 2))).1)) ∧ (cpF (σ 82) (σ 81 1) (wrF (σ 82) (σ 81 1) (sk (σ 82) (σ 81 1) (σ 81 2))).2).1 = -1 ∧ r = (cpF (σ 82) (σ 81 1) (wrF (σ 82) (σ 81 1) (sk (σ 82) (σ 81 1) (σ 81 2))).2).2 ∧ Fm f81 σ σ') ∨ (¬ ((wrF (σ 82) (σ 81 1) (sk (σ 82) (σ 81 1) (σ 81 2))).1 = -4 ∨ (bz = 0 ∧ ∃ k, 0 ≤ k ∧ k < σ 6 (σ 5 3 - 1) ∧ σ 7 ((σ 5 3 - 1) * 4 + k) = (wrF (σ 82) (σ 81 1) (sk (σ 82) (σ 81 1) (σ 81 2))).1)) ∧ (cpF (σ 82) (σ 81 1) (wrF (σ 82) (σ 81 1) (sk (σ 82) (σ 81 1) (σ 81 2))).2).1 ≠ -1 ∧ r = -1 ∧ σ' = (if bz = 0 then widS (up σ 81 2 (cpF (σ 82) (σ 81 1) (wrF (σ 82) (σ 81 1) (sk (σ 82) (σ 81 1) (σ 81 2))).2).2) 5 (σ 5 3 - 1) (wrF (σ 82) (σ 81 1) (sk (σ 82) (σ 81 1) (σ 81 2))).1 (cpF (σ 82) (σ 81 1) (wrF (σ 82) (σ 81 1) (sk (σ 82) (σ 81 1) (σ 81 2))).2).1 else groS (up σ 81 2 (cpF (σ 82) (σ 81 1) (wrF (σ 82) (σ 81 1) (sk (σ 82) (σ 81 1) (σ 81 2))).2).2) 5 (wrF (σ 82) (σ 81 1) (sk (σ 82) (σ 81 1) (σ 81 2))).1 (cpF (σ 82) (σ 81 1) (wrF (σ 82) (σ 81 1) (sk (σ 82) (σ 81 1) (σ 81 2))).2).1))))) (hT : TW (σ 82) (σ 81 1)) (hp : 0 ≤ (σ 81 2) ∧ (σ 81 2) ≤ (σ 81 1)) (hG : GI σ 5) (hbz : bz = 0 ∨ bz = 1) (h1 : bz = 1 → σ 5 3 < 8) (h0 : bz = 0 → 1 ≤ σ 5 3 ∧ σ 6 (σ 5 3 - 1) < 4) (hgood : ¬ ((wrF (σ 82) (σ 81 1) (sk (σ 82) (σ 81 1) (σ 81 2))).1 = -4 ∨ (bz = 0 ∧ ∃ k, 0 ≤ k ∧ k < σ 6 (σ 5 3 - 1) ∧ σ 7 ((σ 5 3 - 1) * 4 + k) = (wrF (σ 82) (σ 81 1) (sk (σ 82) (σ 81 1) (σ 81 2))).1))) : Z g x 7 94 [(0, .ref (g.2.2.1 81)), (1, .ref (g.2.2.1 5)), (2, vI bz), (5, vI (wrF (σ 82) (σ 81 1) (sk (σ 82) (σ 81 1) (σ 81 2))).1)] [] (up σ 81 2 (wrF (σ 82) (σ 81 1) (sk (σ 82) (σ 81 1) (σ 81 2))).2) := by
  have hn120 := hT.1
  have hq5 := sk_r (t := σ 82) hp.2
  have hw5 := wrF_r hT (q := (sk (σ 82) (σ 81 1) (σ 81 2))) (by omega) (by omega)
  have hs1 := sk_r (t := (σ 82)) (n := (σ 81 1)) (i := (wrF (σ 82) (σ 81 1) (sk (σ 82) (σ 81 1) (σ 81 2))).2) (by omega)
  have hch := chr_r hT (i := (sk (σ 82) (σ 81 1) (wrF (σ 82) (σ 81 1) (sk (σ 82) (σ 81 1) (σ 81 2))).2)) (by omega)
  refine z_iconst hO dX4_readCandidate_94 ?_
  refine z_istore hO (L' := [(6, _), (0, _), (1, _), (2, _), (5, _)]) dX4_readCandidate_95 (by decide) rfl ?_
  refine z_aload_n hO 1 dX4_readCandidate_97 rfl ?_
  refine z_cvB hO (t_X4_isAtEnd (by simp (disch := omega) only [fl_row_ne, fl_ne, up_row_ne, up_ne, up_eq, up_nk, up_up, up_self, ne_eq, Nat.reduceEqDiff, Int.reduceEq, reduceCtorEq, not_false_eq_true, not_true_eq_false]; exact hT) (by simp (disch := omega) only [fl_row_ne, fl_ne, up_row_ne, up_ne, up_eq, up_nk, up_up, up_self, ne_eq, Nat.reduceEqDiff, Int.reduceEq, reduceCtorEq, not_false_eq_true, not_true_eq_false]; omega)) cv_X4_27 rfl rfl rfl rfl (by decide) (Nat.le_of_ble_eq_true rfl) dX4_readCandidate_98 (fun s98 p98 => ?_) (fun s98 p98 => ?_)
  ·
    obtain ⟨a98, b98⟩ := p98
    try simp (disch := omega) only [fl_row_ne, fl_ne, up_row_ne, up_ne, up_eq, up_nk, up_up, up_self, ne_eq, Nat.reduceEqDiff, Int.reduceEq, reduceCtorEq, not_false_eq_true, not_true_eq_false] at b98
    subst b98
    have a1 : (σ 81 1) ≤ (sk (σ 82) (σ 81 1) (wrF (σ 82) (σ 81 1) (sk (σ 82) (σ 81 1) (σ 81 2))).2) := by have z := a98.mp rfl; (try simp (disch := omega) only [fl_row_ne, fl_ne, up_row_ne, up_ne, up_eq, up_nk, up_up, up_self, ne_eq, Nat.reduceEqDiff, Int.reduceEq, reduceCtorEq, not_false_eq_true, not_true_eq_false] at z); exact z
    have hC : (cpF (σ 82) (σ 81 1) (wrF (σ 82) (σ 81 1) (sk (σ 82) (σ 81 1) (σ 81 2))).2) = (0, (sk (σ 82) (σ 81 1) (wrF (σ 82) (σ 81 1) (sk (σ 82) (σ 81 1) (σ 81 2))).2)) := by unfold cpF; rw [if_neg (by omega)]
    refine z_if_ne hO 179 dX4_readCandidate_101 (by decide) (by decide) (fun c101 => ?_) (fun c101 => absurd c101 (by omega))
    try simp only [up_up]
    have h3 := lp_rc3 hO hR hT hp hG hbz h1 h0 hgood (by rw [hC]; simp only; omega)
    rw [hC] at h3
    exact z_pick [1, 2, 3, 4, 0] rfl h3
  ·
    obtain ⟨a98, b98⟩ := p98
    try simp (disch := omega) only [fl_row_ne, fl_ne, up_row_ne, up_ne, up_eq, up_nk, up_up, up_self, ne_eq, Nat.reduceEqDiff, Int.reduceEq, reduceCtorEq, not_false_eq_true, not_true_eq_false] at b98
    subst b98
    have a1 : ¬ (σ 81 1) ≤ (sk (σ 82) (σ 81 1) (wrF (σ 82) (σ 81 1) (sk (σ 82) (σ 81 1) (σ 81 2))).2) := fun z => by have y := a98.mpr (by (try simp (disch := omega) only [fl_row_ne, fl_ne, up_row_ne, up_ne, up_eq, up_nk, up_up, up_self, ne_eq, Nat.reduceEqDiff, Int.reduceEq, reduceCtorEq, not_false_eq_true, not_true_eq_false]); exact z); cases y
    have hci := chr_in (t := (σ 82)) (n := (σ 81 1)) (i := (sk (σ 82) (σ 81 1) (wrF (σ 82) (σ 81 1) (sk (σ 82) (σ 81 1) (σ 81 2))).2)) (by omega)
    refine z_if_ne hO 179 dX4_readCandidate_101 (by decide) (by decide) (fun c101 => absurd c101 (by omega)) (fun c101 => ?_)
    refine z_aload_n hO 1 dX4_readCandidate_104 rfl ?_
    refine z_getR hO (82) fl_X4_9 rfl rfl dX4_readCandidate_105 ?_
    refine z_aload_n hO 1 dX4_readCandidate_108 rfl ?_
    refine z_getI hO 2 fl_X4_24 rfl rfl rfl dX4_readCandidate_109 (fun r109 => ?_)
    try simp (disch := omega) only [fl_row_ne, fl_ne, up_row_ne, up_ne, up_eq, up_nk, up_up, up_self, ne_eq, Nat.reduceEqDiff, Int.reduceEq, reduceCtorEq, not_false_eq_true, not_true_eq_false] at r109 ⊢
    refine z_cald hO rfl (by omega) (by decide) dX4_readCandidate_112 (fun r112 => ?_)
    try simp (disch := omega) only [fl_row_ne, fl_ne, up_row_ne, up_ne, up_eq, up_nk, up_up, up_self, ne_eq, Nat.reduceEqDiff, Int.reduceEq, reduceCtorEq, not_false_eq_true, not_true_eq_false] at r112 ⊢
    refine z_bipush hO dX4_readCandidate_113 (by decide) ?_
    refine z_icmp_ne hO 179 dX4_readCandidate_115 (by decide) (by omega) (by decide) (fun c115 => ?_) (fun c115 => ?_)
    ·
      have hC : (cpF (σ 82) (σ 81 1) (wrF (σ 82) (σ 81 1) (sk (σ 82) (σ 81 1) (σ 81 2))).2) = (0, (sk (σ 82) (σ 81 1) (wrF (σ 82) (σ 81 1) (sk (σ 82) (σ 81 1) (σ 81 2))).2)) := by unfold cpF; rw [if_neg (by omega)]
      try simp only [up_up]
      have h3 := lp_rc3 hO hR hT hp hG hbz h1 h0 hgood (by rw [hC]; simp only; omega)
      rw [hC] at h3
      exact z_pick [1, 2, 3, 4, 0] rfl h3
    ·
      refine z_aload_n hO 1 dX4_readCandidate_118 rfl ?_
      refine z_dup hO dX4_readCandidate_119 rfl ?_
      refine z_getI hO 2 fl_X4_24 rfl rfl rfl dX4_readCandidate_120 (fun r120 => ?_)
      try simp (disch := omega) only [fl_row_ne, fl_ne, up_row_ne, up_ne, up_eq, up_nk, up_up, up_self, ne_eq, Nat.reduceEqDiff, Int.reduceEq, reduceCtorEq, not_false_eq_true, not_true_eq_false] at r120 ⊢
      refine z_iconst hO dX4_readCandidate_123 ?_
      refine z_iadd hO dX4_readCandidate_124 ?_
      refine z_putI hO 2 fp_X4_24 rfl rfl rfl (by omega) rfl rfl dX4_readCandidate_125 ?_
      refine z_aload_n hO 1 dX4_readCandidate_128 rfl ?_
      refine z_cvB hO (t_X4_isAtEnd (by simp (disch := omega) only [fl_row_ne, fl_ne, up_row_ne, up_ne, up_eq, up_nk, up_up, up_self, ne_eq, Nat.reduceEqDiff, Int.reduceEq, reduceCtorEq, not_false_eq_true, not_true_eq_false]; exact hT) (by simp (disch := omega) only [fl_row_ne, fl_ne, up_row_ne, up_ne, up_eq, up_nk, up_up, up_self, ne_eq, Nat.reduceEqDiff, Int.reduceEq, reduceCtorEq, not_false_eq_true, not_true_eq_false]; omega)) cv_X4_27 rfl rfl rfl rfl (by decide) (Nat.le_of_ble_eq_true rfl) dX4_readCandidate_129 (fun s129 p129 => ?_) (fun s129 p129 => ?_)
      ·
        obtain ⟨a129, b129⟩ := p129
        try simp (disch := omega) only [fl_row_ne, fl_ne, up_row_ne, up_ne, up_eq, up_nk, up_up, up_self, ne_eq, Nat.reduceEqDiff, Int.reduceEq, reduceCtorEq, not_false_eq_true, not_true_eq_false] at b129
        subst b129
        have hs2 := sk_r (t := (σ 82)) (n := (σ 81 1)) (i := (sk (σ 82) (σ 81 1) (wrF (σ 82) (σ 81 1) (sk (σ 82) (σ 81 1) (σ 81 2))).2) + 1) (by omega)
        have hch2 := chr_r hT (i := (sk (σ 82) (σ 81 1) ((sk (σ 82) (σ 81 1) (wrF (σ 82) (σ 81 1) (sk (σ 82) (σ 81 1) (σ 81 2))).2) + 1))) (by omega)
        have a2 : (σ 81 1) ≤ (sk (σ 82) (σ 81 1) ((sk (σ 82) (σ 81 1) (wrF (σ 82) (σ 81 1) (sk (σ 82) (σ 81 1) (σ 81 2))).2) + 1)) := by have z := a129.mp rfl; (try simp (disch := omega) only [fl_row_ne, fl_ne, up_row_ne, up_ne, up_eq, up_nk, up_up, up_self, ne_eq, Nat.reduceEqDiff, Int.reduceEq, reduceCtorEq, not_false_eq_true, not_true_eq_false] at z); exact z
        have hC : (cpF (σ 82) (σ 81 1) (wrF (σ 82) (σ 81 1) (sk (σ 82) (σ 81 1) (σ 81 2))).2) = (-1, (sk (σ 82) (σ 81 1) ((sk (σ 82) (σ 81 1) (wrF (σ 82) (σ 81 1) (sk (σ 82) (σ 81 1) (σ 81 2))).2) + 1))) := by unfold cpF; rw [if_pos (by omega), if_neg (by omega)]
        refine z_if_ne hO 150 dX4_readCandidate_132 (by decide) (by decide) (fun c132 => ?_) (fun c132 => absurd c132 (by omega))
        refine z_aload_n hO 1 dX4_readCandidate_150 rfl ?_
        refine z_getI hO 2 fl_X4_24 rfl rfl rfl dX4_readCandidate_151 (fun r151 => ?_)
        try simp (disch := omega) only [fl_row_ne, fl_ne, up_row_ne, up_ne, up_eq, up_nk, up_up, up_self, ne_eq, Nat.reduceEqDiff, Int.reduceEq, reduceCtorEq, not_false_eq_true, not_true_eq_false] at r151 ⊢
        exact z_retI hO hR dX4_readCandidate_154 (Or.inr (Or.inl ⟨hgood, by rw [hC], by rw [hC], Fm.rf.up rfl⟩))
      ·
        obtain ⟨a129, b129⟩ := p129
        try simp (disch := omega) only [fl_row_ne, fl_ne, up_row_ne, up_ne, up_eq, up_nk, up_up, up_self, ne_eq, Nat.reduceEqDiff, Int.reduceEq, reduceCtorEq, not_false_eq_true, not_true_eq_false] at b129
        subst b129
        have hs2 := sk_r (t := (σ 82)) (n := (σ 81 1)) (i := (sk (σ 82) (σ 81 1) (wrF (σ 82) (σ 81 1) (sk (σ 82) (σ 81 1) (σ 81 2))).2) + 1) (by omega)
        have hch2 := chr_r hT (i := (sk (σ 82) (σ 81 1) ((sk (σ 82) (σ 81 1) (wrF (σ 82) (σ 81 1) (sk (σ 82) (σ 81 1) (σ 81 2))).2) + 1))) (by omega)
        have a2 : ¬ (σ 81 1) ≤ (sk (σ 82) (σ 81 1) ((sk (σ 82) (σ 81 1) (wrF (σ 82) (σ 81 1) (sk (σ 82) (σ 81 1) (σ 81 2))).2) + 1)) := fun z => by have y := a129.mpr (by (try simp (disch := omega) only [fl_row_ne, fl_ne, up_row_ne, up_ne, up_eq, up_nk, up_up, up_self, ne_eq, Nat.reduceEqDiff, Int.reduceEq, reduceCtorEq, not_false_eq_true, not_true_eq_false]); exact z); cases y
        have hci2 := chr_in (t := (σ 82)) (n := (σ 81 1)) (i := (sk (σ 82) (σ 81 1) ((sk (σ 82) (σ 81 1) (wrF (σ 82) (σ 81 1) (sk (σ 82) (σ 81 1) (σ 81 2))).2) + 1))) (by omega)
        refine z_if_ne hO 150 dX4_readCandidate_132 (by decide) (by decide) (fun c132 => absurd c132 (by omega)) (fun c132 => ?_)
        refine z_aload_n hO 1 dX4_readCandidate_135 rfl ?_
        refine z_getR hO (82) fl_X4_9 rfl rfl dX4_readCandidate_136 ?_
        refine z_aload_n hO 1 dX4_readCandidate_139 rfl ?_
        refine z_getI hO 2 fl_X4_24 rfl rfl rfl dX4_readCandidate_140 (fun r140 => ?_)
        try simp (disch := omega) only [fl_row_ne, fl_ne, up_row_ne, up_ne, up_eq, up_nk, up_up, up_self, ne_eq, Nat.reduceEqDiff, Int.reduceEq, reduceCtorEq, not_false_eq_true, not_true_eq_false] at r140 ⊢
        refine z_cald hO rfl (by omega) (by decide) dX4_readCandidate_143 (fun r143 => ?_)
        try simp (disch := omega) only [fl_row_ne, fl_ne, up_row_ne, up_ne, up_eq, up_nk, up_up, up_self, ne_eq, Nat.reduceEqDiff, Int.reduceEq, reduceCtorEq, not_false_eq_true, not_true_eq_false] at r143 ⊢
        refine z_csQ hO (t_X4_isDigit (by omega)) cs_X4_38 rfl rfl (by decide) (Nat.le_of_ble_eq_true rfl) dX4_readCandidate_144 (fun c144 => ?_) (fun c144 => ?_)
        ·
          try simp (disch := omega) only [fl_row_ne, fl_ne, up_row_ne, up_ne, up_eq, up_nk, up_up, up_self, ne_eq, Nat.reduceEqDiff, Int.reduceEq, reduceCtorEq, not_false_eq_true, not_true_eq_false] at c144 ⊢
          have hC : (cpF (σ 82) (σ 81 1) (wrF (σ 82) (σ 81 1) (sk (σ 82) (σ 81 1) (σ 81 2))).2) = ((σ 82) (sk (σ 82) (σ 81 1) ((sk (σ 82) (σ 81 1) (wrF (σ 82) (σ 81 1) (sk (σ 82) (σ 81 1) (σ 81 2))).2) + 1)) - 48, (sk (σ 82) (σ 81 1) ((sk (σ 82) (σ 81 1) (wrF (σ 82) (σ 81 1) (sk (σ 82) (σ 81 1) (σ 81 2))).2) + 1)) + 1) := by unfold cpF; rw [if_pos (by omega), if_pos (by omega), hci2]
          refine z_if_ne hO 155 dX4_readCandidate_147 (by decide) (by decide) (fun c147 => ?_) (fun c147 => absurd c147 (by omega))
          refine z_aload_n hO 1 dX4_readCandidate_155 rfl ?_
          refine z_getR hO (82) fl_X4_9 rfl rfl dX4_readCandidate_156 ?_
          refine z_aload_n hO 1 dX4_readCandidate_159 rfl ?_
          refine z_getI hO 2 fl_X4_24 rfl rfl rfl dX4_readCandidate_160 (fun r160 => ?_)
          try simp (disch := omega) only [fl_row_ne, fl_ne, up_row_ne, up_ne, up_eq, up_nk, up_up, up_self, ne_eq, Nat.reduceEqDiff, Int.reduceEq, reduceCtorEq, not_false_eq_true, not_true_eq_false] at r160 ⊢
          refine z_cald hO rfl (by omega) (by decide) dX4_readCandidate_163 (fun r163 => ?_)
          try simp (disch := omega) only [fl_row_ne, fl_ne, up_row_ne, up_ne, up_eq, up_nk, up_up, up_self, ne_eq, Nat.reduceEqDiff, Int.reduceEq, reduceCtorEq, not_false_eq_true, not_true_eq_false] at r163 ⊢
          refine z_bipush hO dX4_readCandidate_164 (by decide) ?_
          refine z_isub hO dX4_readCandidate_166 ?_
          refine z_istore hO (L' := [(6, _), (0, _), (1, _), (2, _), (5, _)]) dX4_readCandidate_167 (by decide) rfl ?_
          refine z_aload_n hO 1 dX4_readCandidate_169 rfl ?_
          refine z_dup hO dX4_readCandidate_170 rfl ?_
          refine z_getI hO 2 fl_X4_24 rfl rfl rfl dX4_readCandidate_171 (fun r171 => ?_)
          try simp (disch := omega) only [fl_row_ne, fl_ne, up_row_ne, up_ne, up_eq, up_nk, up_up, up_self, ne_eq, Nat.reduceEqDiff, Int.reduceEq, reduceCtorEq, not_false_eq_true, not_true_eq_false] at r171 ⊢
          refine z_iconst hO dX4_readCandidate_174 ?_
          refine z_iadd hO dX4_readCandidate_175 ?_
          refine z_putI hO 2 fp_X4_24 rfl rfl rfl (by omega) rfl rfl dX4_readCandidate_176 ?_
          try simp only [up_up]
          have h3 := lp_rc3 hO hR hT hp hG hbz h1 h0 hgood (by rw [hC]; simp only; omega)
          rw [hC] at h3
          exact z_pick [1, 2, 3, 4, 0] rfl h3
        ·
          try simp (disch := omega) only [fl_row_ne, fl_ne, up_row_ne, up_ne, up_eq, up_nk, up_up, up_self, ne_eq, Nat.reduceEqDiff, Int.reduceEq, reduceCtorEq, not_false_eq_true, not_true_eq_false] at c144 ⊢
          have hC : (cpF (σ 82) (σ 81 1) (wrF (σ 82) (σ 81 1) (sk (σ 82) (σ 81 1) (σ 81 2))).2) = (-1, (sk (σ 82) (σ 81 1) ((sk (σ 82) (σ 81 1) (wrF (σ 82) (σ 81 1) (sk (σ 82) (σ 81 1) (σ 81 2))).2) + 1))) := by unfold cpF; rw [if_pos (by omega), if_neg (by omega)]
          refine z_if_ne hO 155 dX4_readCandidate_147 (by decide) (by decide) (fun c147 => absurd c147 (by omega)) (fun c147 => ?_)
          refine z_aload_n hO 1 dX4_readCandidate_150 rfl ?_
          refine z_getI hO 2 fl_X4_24 rfl rfl rfl dX4_readCandidate_151 (fun r151 => ?_)
          try simp (disch := omega) only [fl_row_ne, fl_ne, up_row_ne, up_ne, up_eq, up_nk, up_up, up_self, ne_eq, Nat.reduceEqDiff, Int.reduceEq, reduceCtorEq, not_false_eq_true, not_true_eq_false] at r151 ⊢
          exact z_retI hO hR dX4_readCandidate_154 (Or.inr (Or.inl ⟨hgood, by rw [hC], by rw [hC], Fm.rf.up rfl⟩))

set_option maxHeartbeats 4000000 in
set_option maxRecDepth 100000 in
theorem lp_rc1 {g : G} {x : Cx} {σ : Sg} {bz wc p1 : Int} (hO : Ok g x RX4 cX4_readCandidate 7 4) (hR : Rt g x (some .int) (pI (fun r σ' => (((wrF (σ 82) (σ 81 1) (sk (σ 82) (σ 81 1) (σ 81 2))).1 = -4 ∨ (bz = 0 ∧ ∃ k, 0 ≤ k ∧ k < σ 6 (σ 5 3 - 1) ∧ σ 7 ((σ 5 3 - 1) * 4 + k) = (wrF (σ 82) (σ 81 1) (sk (σ 82) (σ 81 1) (σ 81 2))).1)) ∧ r = (sk (σ 82) (σ 81 1) (σ 81 2)) ∧ Fm f81 σ σ') ∨ (¬ ((wrF (σ 82) (σ 81 1) (sk (σ 82) (σ 81 1) (σ 81 2))).1 = -4 ∨ (bz = 0 ∧ ∃ k, 0 ≤ k ∧ k < σ 6 (σ 5 3 - 1) ∧ σ 7 ((σ 5 3 - 1) * 4 + k) = (wrF (σ 82) (σ 81 1) (sk (σ 82) (σ 81 1) (σ 81 2))).1)) ∧ (cpF (σ 82) (σ 81 1) (wrF (σ 82) (σ 81 1) (sk (σ 82) (σ 81 1) (σ 81 2))).2).1 = -1 ∧ r = (cpF (σ 82) (σ 81 1) (wrF (σ 82) (σ 81 1) (sk (σ 82) (σ 81 1) (σ 81 2))).2).2 ∧ Fm f81 σ σ') ∨ (¬ ((wrF (σ 82) (σ 81 1) (sk (σ 82) (σ 81 1) (σ 81 2))).1 = -4 ∨ (bz = 0 ∧ ∃ k, 0 ≤ k ∧ k < σ 6 (σ 5 3 - 1) ∧ σ 7 ((σ 5 3 - 1) * 4 + k) = (wrF (σ 82) (σ 81 1) (sk (σ 82) (σ 81 1) (σ 81 2))).1)) ∧ (cpF (σ 82) (σ 81 1) (wrF (σ 82) (σ 81 1) (sk (σ 82) (σ 81 1) (σ 81 2))).2).1 ≠ -1 ∧ r = -1 ∧ σ' = (if bz = 0 then widS (up σ 81 2 (cpF (σ 82) (σ 81 1) (wrF (σ 82) (σ 81 1) (sk (σ 82) (σ 81 1) (σ 81 2))).2).2) 5 (σ 5 3 - 1) (wrF (σ 82) (σ 81 1) (sk (σ 82) (σ 81 1) (σ 81 2))).1 (cpF (σ 82) (σ 81 1) (wrF (σ 82) (σ 81 1) (sk (σ 82) (σ 81 1) (σ 81 2))).2).1 else groS (up σ 81 2 (cpF (σ 82) (σ 81 1) (wrF (σ 82) (σ 81 1) (sk (σ 82) (σ 81 1) (σ 81 2))).2).2) 5 (wrF (σ 82) (σ 81 1) (sk (σ 82) (σ 81 1) (σ 81 2))).1 (cpF (σ 82) (σ 81 1) (wrF (σ 82) (σ 81 1) (sk (σ 82) (σ 81 1) (σ 81 2))).2).1))))) (hT : TW (σ 82) (σ 81 1)) (hp : 0 ≤ (σ 81 2) ∧ (σ 81 2) ≤ (σ 81 1)) (hG : GI σ 5) (hbz : bz = 0 ∨ bz = 1) (h1 : bz = 1 → σ 5 3 < 8) (h0 : bz = 0 → 1 ≤ σ 5 3 ∧ σ 6 (σ 5 3 - 1) < 4) (hw : ((wrF (σ 82) (σ 81 1) (sk (σ 82) (σ 81 1) (σ 81 2))).1 = -4 ∧ wc = -1) ∨ ((wrF (σ 82) (σ 81 1) (sk (σ 82) (σ 81 1) (σ 81 2))).1 ≠ -4 ∧ wc = (wrF (σ 82) (σ 81 1) (sk (σ 82) (σ 81 1) (σ 81 2))).1 ∧ 0 ≤ (wrF (σ 82) (σ 81 1) (sk (σ 82) (σ 81 1) (σ 81 2))).1 ∧ p1 = (wrF (σ 82) (σ 81 1) (sk (σ 82) (σ 81 1) (σ 81 2))).2)) : Z g x 7 68 [(0, .ref (g.2.2.1 81)), (1, .ref (g.2.2.1 5)), (2, vI bz), (3, vI (sk (σ 82) (σ 81 1) (σ 81 2))), (5, vI wc)] [] (up σ 81 2 p1) := by
  have hn120 := hT.1
  have hq5 := sk_r (t := σ 82) hp.2
  have hw5 := wrF_r hT (q := (sk (σ 82) (σ 81 1) (σ 81 2))) (by omega) (by omega)
  refine z_iload hO 4 dX4_readCandidate_68 rfl ?_
  refine z_if_lt hO 92 dX4_readCandidate_70 (by decide) (by omega) (fun c70 => ?_) (fun c70 => ?_)
  ·
    have hbad : ((wrF (σ 82) (σ 81 1) (sk (σ 82) (σ 81 1) (σ 81 2))).1 = -4 ∨ (bz = 0 ∧ ∃ k, 0 ≤ k ∧ k < σ 6 (σ 5 3 - 1) ∧ σ 7 ((σ 5 3 - 1) * 4 + k) = (wrF (σ 82) (σ 81 1) (sk (σ 82) (σ 81 1) (σ 81 2))).1)) := Or.inl (by omega)
    refine z_iload_n hO 3 dX4_readCandidate_92 rfl ?_
    exact z_retI hO hR dX4_readCandidate_93 (Or.inl ⟨hbad, rfl, Fm.rf.up rfl⟩)
  ·
    obtain ⟨hw0, hw1, hw2, hw3⟩ : (wrF (σ 82) (σ 81 1) (sk (σ 82) (σ 81 1) (σ 81 2))).1 ≠ -4 ∧ wc = (wrF (σ 82) (σ 81 1) (sk (σ 82) (σ 81 1) (σ 81 2))).1 ∧ 0 ≤ (wrF (σ 82) (σ 81 1) (sk (σ 82) (σ 81 1) (σ 81 2))).1 ∧ p1 = (wrF (σ 82) (σ 81 1) (sk (σ 82) (σ 81 1) (σ 81 2))).2 := by omega
    subst hw1
    subst hw3
    refine z_iload_n hO 2 dX4_readCandidate_73 rfl ?_
    refine z_if_ne hO 94 dX4_readCandidate_74 (by decide) (by omega) (fun c74 => ?_) (fun c74 => ?_)
    ·
      have hgood : ¬ ((wrF (σ 82) (σ 81 1) (sk (σ 82) (σ 81 1) (σ 81 2))).1 = -4 ∨ (bz = 0 ∧ ∃ k, 0 ≤ k ∧ k < σ 6 (σ 5 3 - 1) ∧ σ 7 ((σ 5 3 - 1) * 4 + k) = (wrF (σ 82) (σ 81 1) (sk (σ 82) (σ 81 1) (σ 81 2))).1)) := by
        rintro (z | z)
        · exact hw0 z
        · omega
      exact z_pick [0, 1, 2, 4] rfl (lp_rc2 hO hR hT hp hG hbz h1 h0 hgood)
    ·
      have hb0 : bz = 0 := by omega
      have h05 := h0 hb0
      have hg5 := hG.2 (σ 5 3 - 1) (by omega) (by omega)
      change 0 ≤ σ 6 (σ 5 3 - 1) ∧ σ 6 (σ 5 3 - 1) ≤ 4 at hg5
      refine z_aload_n hO 1 dX4_readCandidate_77 rfl ?_
      refine z_aload_n hO 1 dX4_readCandidate_78 rfl ?_
      refine z_getI hO 3 fl_X4_19 rfl rfl rfl dX4_readCandidate_79 (fun r79 => ?_)
      try simp (disch := omega) only [fl_row_ne, fl_ne, up_row_ne, up_ne, up_eq, up_nk, up_up, up_self, ne_eq, Nat.reduceEqDiff, Int.reduceEq, reduceCtorEq, not_false_eq_true, not_true_eq_false] at r79 ⊢
      refine z_iconst hO dX4_readCandidate_82 ?_
      refine z_isub hO dX4_readCandidate_83 ?_
      refine z_iload hO 4 dX4_readCandidate_84 rfl ?_
      refine z_cvI hO (t_X2_find hd_5 (by omega) (by omega) (GI_81 hG).1.2 (GI_81 hG).2) cv_X4_52 rfl rfl rfl rfl (by decide) (Nat.le_of_ble_eq_true rfl) dX4_readCandidate_86 (fun v86 s86 p86 => ?_)
      obtain ⟨a86, b86⟩ := p86
      subst b86
      have hfq : (v86 = -1 ∧ ∀ k, 0 ≤ k → k < σ 6 (σ 5 3 - 1) → σ 7 ((σ 5 3 - 1) * 4 + k) ≠ (wrF (σ 82) (σ 81 1) (sk (σ 82) (σ 81 1) (σ 81 2))).1) ∨ (0 ≤ v86 ∧ v86 < σ 6 (σ 5 3 - 1) ∧ σ 7 ((σ 5 3 - 1) * 4 + v86) = (wrF (σ 82) (σ 81 1) (sk (σ 82) (σ 81 1) (σ 81 2))).1) := by
        rcases a86 with z | z
        · exfalso; have y := z.1; rw [up_ne (by decide)] at y; omega
        · rcases z.2 with y | y
          · exact Or.inl ⟨y.1, y.2⟩
          · exact Or.inr ⟨y.1, y.2.1, y.2.2.1⟩
      have hvr : -1 ≤ v86 ∧ v86 ≤ 4 := by rcases hfq with z | z <;> omega
      refine z_if_lt hO 94 dX4_readCandidate_89 (by decide) (by omega) (fun c89 => ?_) (fun c89 => ?_)
      ·
        have hgood : ¬ ((wrF (σ 82) (σ 81 1) (sk (σ 82) (σ 81 1) (σ 81 2))).1 = -4 ∨ (bz = 0 ∧ ∃ k, 0 ≤ k ∧ k < σ 6 (σ 5 3 - 1) ∧ σ 7 ((σ 5 3 - 1) * 4 + k) = (wrF (σ 82) (σ 81 1) (sk (σ 82) (σ 81 1) (σ 81 2))).1)) := by
          rintro (z | ⟨_, k, k0, k1, k2⟩)
          · exact hw0 z
          · rcases hfq with y | y
            · exact y.2 k k0 k1 k2
            · omega
        exact z_pick [0, 1, 2, 4] rfl (lp_rc2 hO hR hT hp hG hbz h1 h0 hgood)
      ·
        have hbad : ((wrF (σ 82) (σ 81 1) (sk (σ 82) (σ 81 1) (σ 81 2))).1 = -4 ∨ (bz = 0 ∧ ∃ k, 0 ≤ k ∧ k < σ 6 (σ 5 3 - 1) ∧ σ 7 ((σ 5 3 - 1) * 4 + k) = (wrF (σ 82) (σ 81 1) (sk (σ 82) (σ 81 1) (σ 81 2))).1)) := by
          rcases hfq with y | y
          · omega
          · exact Or.inr ⟨hb0, _, y.1, y.2.1, y.2.2⟩
        refine z_iload_n hO 3 dX4_readCandidate_92 rfl ?_
        exact z_retI hO hR dX4_readCandidate_93 (Or.inl ⟨hbad, rfl, Fm.rf.up rfl⟩)

set_option maxHeartbeats 4000000 in
set_option maxRecDepth 100000 in
theorem t_X4_readCandidate {g : G} {σ : Sg} {bz : Int} (hT : TW (σ 82) (σ 81 1)) (hp : 0 ≤ (σ 81 2) ∧ (σ 81 2) ≤ (σ 81 1)) (hG : GI σ 5) (hbz : bz = 0 ∨ bz = 1) (h1 : bz = 1 → σ 5 3 < 8) (h0 : bz = 0 → 1 ≤ σ 5 3 ∧ σ 6 (σ 5 3 - 1) < 4) : MM g mX4_readCandidate [.ref (g.2.2.1 81), .ref (g.2.2.1 5), vI bz] σ (pI (fun r σ' => (((wrF (σ 82) (σ 81 1) (sk (σ 82) (σ 81 1) (σ 81 2))).1 = -4 ∨ (bz = 0 ∧ ∃ k, 0 ≤ k ∧ k < σ 6 (σ 5 3 - 1) ∧ σ 7 ((σ 5 3 - 1) * 4 + k) = (wrF (σ 82) (σ 81 1) (sk (σ 82) (σ 81 1) (σ 81 2))).1)) ∧ r = (sk (σ 82) (σ 81 1) (σ 81 2)) ∧ Fm f81 σ σ') ∨ (¬ ((wrF (σ 82) (σ 81 1) (sk (σ 82) (σ 81 1) (σ 81 2))).1 = -4 ∨ (bz = 0 ∧ ∃ k, 0 ≤ k ∧ k < σ 6 (σ 5 3 - 1) ∧ σ 7 ((σ 5 3 - 1) * 4 + k) = (wrF (σ 82) (σ 81 1) (sk (σ 82) (σ 81 1) (σ 81 2))).1)) ∧ (cpF (σ 82) (σ 81 1) (wrF (σ 82) (σ 81 1) (sk (σ 82) (σ 81 1) (σ 81 2))).2).1 = -1 ∧ r = (cpF (σ 82) (σ 81 1) (wrF (σ 82) (σ 81 1) (sk (σ 82) (σ 81 1) (σ 81 2))).2).2 ∧ Fm f81 σ σ') ∨ (¬ ((wrF (σ 82) (σ 81 1) (sk (σ 82) (σ 81 1) (σ 81 2))).1 = -4 ∨ (bz = 0 ∧ ∃ k, 0 ≤ k ∧ k < σ 6 (σ 5 3 - 1) ∧ σ 7 ((σ 5 3 - 1) * 4 + k) = (wrF (σ 82) (σ 81 1) (sk (σ 82) (σ 81 1) (σ 81 2))).1)) ∧ (cpF (σ 82) (σ 81 1) (wrF (σ 82) (σ 81 1) (sk (σ 82) (σ 81 1) (σ 81 2))).2).1 ≠ -1 ∧ r = -1 ∧ σ' = (if bz = 0 then widS (up σ 81 2 (cpF (σ 82) (σ 81 1) (wrF (σ 82) (σ 81 1) (sk (σ 82) (σ 81 1) (σ 81 2))).2).2) 5 (σ 5 3 - 1) (wrF (σ 82) (σ 81 1) (sk (σ 82) (σ 81 1) (σ 81 2))).1 (cpF (σ 82) (σ 81 1) (wrF (σ 82) (σ 81 1) (sk (σ 82) (σ 81 1) (σ 81 2))).2).1 else groS (up σ 81 2 (cpF (σ 82) (σ 81 1) (wrF (σ 82) (σ 81 1) (sk (σ 82) (σ 81 1) (σ 81 2))).2).2) 5 (wrF (σ 82) (σ 81 1) (sk (σ 82) (σ 81 1) (σ 81 2))).1 (cpF (σ 82) (σ 81 1) (wrF (σ 82) (σ 81 1) (sk (σ 82) (σ 81 1) (σ 81 2))).2).1)))) := by
  refine mm_of rfl (by decide) rfl rfl (Nat.le_of_ble_eq_true rfl) (fun x hO hR => ?_)
  refine z_aload_n hO 0 dX4_readCandidate_0 rfl ?_
  refine z_cvB hO (t_X4_isAtEnd hT hp) cv_X4_27 rfl rfl rfl rfl (by decide) (Nat.le_of_ble_eq_true rfl) dX4_readCandidate_1 (fun s1 p1 => ?_) (fun s1 p1 => ?_)
  ·
    obtain ⟨a1, b1⟩ := p1
    try simp (disch := omega) only [fl_row_ne, fl_ne, up_row_ne, up_ne, up_eq, up_nk, up_up, up_self, ne_eq, Nat.reduceEqDiff, Int.reduceEq, reduceCtorEq, not_false_eq_true, not_true_eq_false] at b1
    subst b1
    have hn120 := hT.1
    have hq5 := sk_r (t := σ 82) hp.2
    have hch := chr_r hT (i := (sk (σ 82) (σ 81 1) (σ 81 2))) (by omega)
    have a1 : (σ 81 1) ≤ (sk (σ 82) (σ 81 1) (σ 81 2)) := by have z := a1.mp rfl; (try simp (disch := omega) only [fl_row_ne, fl_ne, up_row_ne, up_ne, up_eq, up_nk, up_up, up_self, ne_eq, Nat.reduceEqDiff, Int.reduceEq, reduceCtorEq, not_false_eq_true, not_true_eq_false] at z); exact z
    have hbad : ((wrF (σ 82) (σ 81 1) (sk (σ 82) (σ 81 1) (σ 81 2))).1 = -4 ∨ (bz = 0 ∧ ∃ k, 0 ≤ k ∧ k < σ 6 (σ 5 3 - 1) ∧ σ 7 ((σ 5 3 - 1) * 4 + k) = (wrF (σ 82) (σ 81 1) (sk (σ 82) (σ 81 1) (σ 81 2))).1)) := Or.inl (by unfold wrF; rw [if_neg (by omega), show chr (σ 82) (σ 81 1) (sk (σ 82) (σ 81 1) (σ 81 2)) = 0 from hch.2.2.mpr a1]; rfl)
    refine z_if_eq hO 12 dX4_readCandidate_4 (by decide) (by decide) (fun c4 => absurd c4 (by omega)) (fun c4 => ?_)
    refine z_aload_n hO 0 dX4_readCandidate_7 rfl ?_
    refine z_getI hO 1 fl_X4_15 rfl rfl rfl dX4_readCandidate_8 (fun r8 => ?_)
    try simp (disch := omega) only [fl_row_ne, fl_ne, up_row_ne, up_ne, up_eq, up_nk, up_up, up_self, ne_eq, Nat.reduceEqDiff, Int.reduceEq, reduceCtorEq, not_false_eq_true, not_true_eq_false] at r8 ⊢
    exact z_retI hO hR dX4_readCandidate_11 (Or.inl ⟨hbad, by omega, Fm.rf.up rfl⟩)
  ·
    obtain ⟨a1, b1⟩ := p1
    try simp (disch := omega) only [fl_row_ne, fl_ne, up_row_ne, up_ne, up_eq, up_nk, up_up, up_self, ne_eq, Nat.reduceEqDiff, Int.reduceEq, reduceCtorEq, not_false_eq_true, not_true_eq_false] at b1
    subst b1
    have hn120 := hT.1
    have hq5 := sk_r (t := σ 82) hp.2
    have hch := chr_r hT (i := (sk (σ 82) (σ 81 1) (σ 81 2))) (by omega)
    have a1 : ¬ (σ 81 1) ≤ (sk (σ 82) (σ 81 1) (σ 81 2)) := fun z => by have y := a1.mpr (by (try simp (disch := omega) only [fl_row_ne, fl_ne, up_row_ne, up_ne, up_eq, up_nk, up_up, up_self, ne_eq, Nat.reduceEqDiff, Int.reduceEq, reduceCtorEq, not_false_eq_true, not_true_eq_false]); exact z); cases y
    have hci := chr_in (t := (σ 82)) (n := (σ 81 1)) (i := (sk (σ 82) (σ 81 1) (σ 81 2))) (by omega)
    have hlt := hT.2 (sk (σ 82) (σ 81 1) (σ 81 2)) (by omega) (by omega)
    refine z_if_eq hO 12 dX4_readCandidate_4 (by decide) (by decide) (fun c4 => ?_) (fun c4 => absurd c4 (by omega))
    refine z_aload_n hO 0 dX4_readCandidate_12 rfl ?_
    refine z_getI hO 2 fl_X4_24 rfl rfl rfl dX4_readCandidate_13 (fun r13 => ?_)
    try simp (disch := omega) only [fl_row_ne, fl_ne, up_row_ne, up_ne, up_eq, up_nk, up_up, up_self, ne_eq, Nat.reduceEqDiff, Int.reduceEq, reduceCtorEq, not_false_eq_true, not_true_eq_false] at r13 ⊢
    refine z_istore_n hO (L' := [(3, _), (0, _), (1, _), (2, _)]) dX4_readCandidate_16 (by decide) rfl ?_
    refine z_aload_n hO 1 dX4_readCandidate_17 rfl ?_
    refine z_getR hO (82) fl_X4_9 rfl rfl dX4_readCandidate_18 ?_
    refine z_aload_n hO 1 dX4_readCandidate_21 rfl ?_
    refine z_getI hO 2 fl_X4_24 rfl rfl rfl dX4_readCandidate_22 (fun r22 => ?_)
    try simp (disch := omega) only [fl_row_ne, fl_ne, up_row_ne, up_ne, up_eq, up_nk, up_up, up_self, ne_eq, Nat.reduceEqDiff, Int.reduceEq, reduceCtorEq, not_false_eq_true, not_true_eq_false] at r22 ⊢
    refine z_cald hO rfl (by omega) (by decide) dX4_readCandidate_25 (fun r25 => ?_)
    try simp (disch := omega) only [fl_row_ne, fl_ne, up_row_ne, up_ne, up_eq, up_nk, up_up, up_self, ne_eq, Nat.reduceEqDiff, Int.reduceEq, reduceCtorEq, not_false_eq_true, not_true_eq_false] at r25 ⊢
    refine z_istore hO (L' := [(4, _), (3, _), (0, _), (1, _), (2, _)]) dX4_readCandidate_26 (by decide) rfl ?_
    refine z_aload_n hO 2 dX4_readCandidate_28 rfl ?_
    refine z_dup hO dX4_readCandidate_29 rfl ?_
    refine z_getI hO 2 fl_X4_24 rfl rfl rfl dX4_readCandidate_30 (fun r30 => ?_)
    try simp (disch := omega) only [fl_row_ne, fl_ne, up_row_ne, up_ne, up_eq, up_nk, up_up, up_self, ne_eq, Nat.reduceEqDiff, Int.reduceEq, reduceCtorEq, not_false_eq_true, not_true_eq_false] at r30 ⊢
    refine z_iconst hO dX4_readCandidate_33 ?_
    refine z_iadd hO dX4_readCandidate_34 ?_
    refine z_putI hO 2 fp_X4_24 rfl rfl rfl (by omega) rfl rfl dX4_readCandidate_35 ?_
    refine z_iload hO 0 dX4_readCandidate_38 rfl ?_
    refine z_csQ hO (t_X4_isDigit (by omega)) cs_X4_38 rfl rfl (by decide) (Nat.le_of_ble_eq_true rfl) dX4_readCandidate_40 (fun c40 => ?_) (fun c40 => ?_)
    ·
      try simp (disch := omega) only [fl_row_ne, fl_ne, up_row_ne, up_ne, up_eq, up_nk, up_up, up_self, ne_eq, Nat.reduceEqDiff, Int.reduceEq, reduceCtorEq, not_false_eq_true, not_true_eq_false] at c40 ⊢
      refine z_if_eq hO 61 dX4_readCandidate_43 (by decide) (by decide) (fun c43 => absurd c43 (by omega)) (fun c43 => ?_)
      refine z_aload_n hO 2 dX4_readCandidate_46 rfl ?_
      refine z_iload hO 0 dX4_readCandidate_47 rfl ?_
      refine z_bipush hO dX4_readCandidate_49 (by decide) ?_
      refine z_isub hO dX4_readCandidate_51 ?_
      refine z_cvI hO (t_X4_valueFrom (by omega) (by simp (disch := omega) only [fl_row_ne, fl_ne, up_row_ne, up_ne, up_eq, up_nk, up_up, up_self, ne_eq, Nat.reduceEqDiff, Int.reduceEq, reduceCtorEq, not_false_eq_true, not_true_eq_false]; exact hT) (by simp (disch := omega) only [fl_row_ne, fl_ne, up_row_ne, up_ne, up_eq, up_nk, up_up, up_self, ne_eq, Nat.reduceEqDiff, Int.reduceEq, reduceCtorEq, not_false_eq_true, not_true_eq_false]; omega)) cv_X4_42 rfl rfl rfl rfl (by decide) (Nat.le_of_ble_eq_true rfl) dX4_readCandidate_52 (fun v52 s52 p52 => ?_)
      simp (disch := omega) only [fl_row_ne, fl_ne, up_row_ne, up_ne, up_eq, up_nk, up_up, up_self, ne_eq, Nat.reduceEqDiff, Int.reduceEq, reduceCtorEq, not_false_eq_true, not_true_eq_false] at p52
      by_cases hd2 : (sk (σ 82) (σ 81 1) (σ 81 2)) + 1 < (σ 81 1) ∧ 48 ≤ (σ 82) ((sk (σ 82) (σ 81 1) (σ 81 2)) + 1) ∧ (σ 82) ((sk (σ 82) (σ 81 1) (σ 81 2)) + 1) ≤ 57
      ·
        rw [if_pos hd2] at p52
        obtain ⟨rfl, rfl⟩ := Prod.mk.inj p52
        have hvb : 0 ≤ (((σ 82) (sk (σ 82) (σ 81 1) (σ 81 2)) - 48) * 10 + (σ 82) ((sk (σ 82) (σ 81 1) (σ 81 2)) + 1) - 48) ∧ (((σ 82) (sk (σ 82) (σ 81 1) (σ 81 2)) - 48) * 10 + (σ 82) ((sk (σ 82) (σ 81 1) (σ 81 2)) + 1) - 48) ≤ 99 := by omega
        have hWl : (wrF (σ 82) (σ 81 1) (sk (σ 82) (σ 81 1) (σ 81 2))) = (if vlW (((σ 82) (sk (σ 82) (σ 81 1) (σ 81 2)) - 48) * 10 + (σ 82) ((sk (σ 82) (σ 81 1) (σ 81 2)) + 1) - 48) = -4 then (-4, (sk (σ 82) (σ 81 1) (σ 81 2))) else (vlW (((σ 82) (sk (σ 82) (σ 81 1) (σ 81 2)) - 48) * 10 + (σ 82) ((sk (σ 82) (σ 81 1) (σ 81 2)) + 1) - 48), ((sk (σ 82) (σ 81 1) (σ 81 2)) + 1 + 1))) := by unfold wrF; rw [if_pos (by omega), if_pos hd2, show (10 * ((σ 82) (sk (σ 82) (σ 81 1) (σ 81 2)) - 48) + (σ 82) ((sk (σ 82) (σ 81 1) (σ 81 2)) + 1) - 48) = (((σ 82) (sk (σ 82) (σ 81 1) (σ 81 2)) - 48) * 10 + (σ 82) ((sk (σ 82) (σ 81 1) (σ 81 2)) + 1) - 48) by omega]
        have hlc := vlC_W hvb
        have hw : ((wrF (σ 82) (σ 81 1) (sk (σ 82) (σ 81 1) (σ 81 2))).1 = -4 ∧ vlC (((σ 82) (sk (σ 82) (σ 81 1) (σ 81 2)) - 48) * 10 + (σ 82) ((sk (σ 82) (σ 81 1) (σ 81 2)) + 1) - 48) = -1) ∨ ((wrF (σ 82) (σ 81 1) (sk (σ 82) (σ 81 1) (σ 81 2))).1 ≠ -4 ∧ vlC (((σ 82) (sk (σ 82) (σ 81 1) (σ 81 2)) - 48) * 10 + (σ 82) ((sk (σ 82) (σ 81 1) (σ 81 2)) + 1) - 48) = (wrF (σ 82) (σ 81 1) (sk (σ 82) (σ 81 1) (σ 81 2))).1 ∧ 0 ≤ (wrF (σ 82) (σ 81 1) (sk (σ 82) (σ 81 1) (σ 81 2))).1 ∧ ((sk (σ 82) (σ 81 1) (σ 81 2)) + 1 + 1) = (wrF (σ 82) (σ 81 1) (sk (σ 82) (σ 81 1) (σ 81 2))).2) := by
          rw [hWl]; rcases hlc with z | z
          · rw [if_pos z.1]; exact Or.inl ⟨rfl, z.2⟩
          · rw [if_neg z.1]; exact Or.inr ⟨z.1, z.2.1, z.2.2, rfl⟩
        refine z_csE hO (t_X4_wordOfValue hvb) cs_X4_46 rfl rfl (by decide) (Nat.le_of_ble_eq_true rfl) dX4_readCandidate_55 ?_
        try simp (disch := omega) only [fl_row_ne, fl_ne, up_row_ne, up_ne, up_eq, up_nk, up_up, up_self, ne_eq, Nat.reduceEqDiff, Int.reduceEq, reduceCtorEq, not_false_eq_true, not_true_eq_false]
        refine z_goto hO 66 dX4_readCandidate_58 (by decide) ?_
        refine z_istore hO (L' := [(5, _), (4, _), (3, _), (0, _), (1, _), (2, _)]) dX4_readCandidate_66 (by decide) rfl ?_
        exact z_pick [3, 4, 5, 2, 0] rfl (lp_rc1 hO hR hT hp hG hbz h1 h0 hw)
      ·
        rw [if_neg hd2] at p52
        obtain ⟨rfl, rfl⟩ := Prod.mk.inj p52
        have hvb : 0 ≤ ((σ 82) (sk (σ 82) (σ 81 1) (σ 81 2)) - 48) ∧ ((σ 82) (sk (σ 82) (σ 81 1) (σ 81 2)) - 48) ≤ 99 := by omega
        have hWl : (wrF (σ 82) (σ 81 1) (sk (σ 82) (σ 81 1) (σ 81 2))) = (if vlW ((σ 82) (sk (σ 82) (σ 81 1) (σ 81 2)) - 48) = -4 then (-4, (sk (σ 82) (σ 81 1) (σ 81 2))) else (vlW ((σ 82) (sk (σ 82) (σ 81 1) (σ 81 2)) - 48), ((sk (σ 82) (σ 81 1) (σ 81 2)) + 1))) := by unfold wrF; rw [if_pos (by omega), if_neg hd2, show ((σ 82) (sk (σ 82) (σ 81 1) (σ 81 2)) - 48) = ((σ 82) (sk (σ 82) (σ 81 1) (σ 81 2)) - 48) by omega]
        have hlc := vlC_W hvb
        have hw : ((wrF (σ 82) (σ 81 1) (sk (σ 82) (σ 81 1) (σ 81 2))).1 = -4 ∧ vlC ((σ 82) (sk (σ 82) (σ 81 1) (σ 81 2)) - 48) = -1) ∨ ((wrF (σ 82) (σ 81 1) (sk (σ 82) (σ 81 1) (σ 81 2))).1 ≠ -4 ∧ vlC ((σ 82) (sk (σ 82) (σ 81 1) (σ 81 2)) - 48) = (wrF (σ 82) (σ 81 1) (sk (σ 82) (σ 81 1) (σ 81 2))).1 ∧ 0 ≤ (wrF (σ 82) (σ 81 1) (sk (σ 82) (σ 81 1) (σ 81 2))).1 ∧ ((sk (σ 82) (σ 81 1) (σ 81 2)) + 1) = (wrF (σ 82) (σ 81 1) (sk (σ 82) (σ 81 1) (σ 81 2))).2) := by
          rw [hWl]; rcases hlc with z | z
          · rw [if_pos z.1]; exact Or.inl ⟨rfl, z.2⟩
          · rw [if_neg z.1]; exact Or.inr ⟨z.1, z.2.1, z.2.2, rfl⟩
        refine z_csE hO (t_X4_wordOfValue hvb) cs_X4_46 rfl rfl (by decide) (Nat.le_of_ble_eq_true rfl) dX4_readCandidate_55 ?_
        try simp (disch := omega) only [fl_row_ne, fl_ne, up_row_ne, up_ne, up_eq, up_nk, up_up, up_self, ne_eq, Nat.reduceEqDiff, Int.reduceEq, reduceCtorEq, not_false_eq_true, not_true_eq_false]
        refine z_goto hO 66 dX4_readCandidate_58 (by decide) ?_
        refine z_istore hO (L' := [(5, _), (4, _), (3, _), (0, _), (1, _), (2, _)]) dX4_readCandidate_66 (by decide) rfl ?_
        exact z_pick [3, 4, 5, 2, 0] rfl (lp_rc1 hO hR hT hp hG hbz h1 h0 hw)
    ·
      try simp (disch := omega) only [fl_row_ne, fl_ne, up_row_ne, up_ne, up_eq, up_nk, up_up, up_self, ne_eq, Nat.reduceEqDiff, Int.reduceEq, reduceCtorEq, not_false_eq_true, not_true_eq_false] at c40 ⊢
      have hWl : (wrF (σ 82) (σ 81 1) (sk (σ 82) (σ 81 1) (σ 81 2))) = (if ltW ((σ 82) (sk (σ 82) (σ 81 1) (σ 81 2))) = -4 then (-4, (sk (σ 82) (σ 81 1) (σ 81 2))) else (ltW ((σ 82) (sk (σ 82) (σ 81 1) (σ 81 2))), (sk (σ 82) (σ 81 1) (σ 81 2)) + 1)) := by unfold wrF; rw [if_neg (by omega), hci]
      have hlc := ltC_W ((σ 82) (sk (σ 82) (σ 81 1) (σ 81 2)))
      have hw : ((wrF (σ 82) (σ 81 1) (sk (σ 82) (σ 81 1) (σ 81 2))).1 = -4 ∧ ltC ((σ 82) (sk (σ 82) (σ 81 1) (σ 81 2))) = -1) ∨ ((wrF (σ 82) (σ 81 1) (sk (σ 82) (σ 81 1) (σ 81 2))).1 ≠ -4 ∧ ltC ((σ 82) (sk (σ 82) (σ 81 1) (σ 81 2))) = (wrF (σ 82) (σ 81 1) (sk (σ 82) (σ 81 1) (σ 81 2))).1 ∧ 0 ≤ (wrF (σ 82) (σ 81 1) (sk (σ 82) (σ 81 1) (σ 81 2))).1 ∧ (sk (σ 82) (σ 81 1) (σ 81 2)) + 1 = (wrF (σ 82) (σ 81 1) (sk (σ 82) (σ 81 1) (σ 81 2))).2) := by
        rw [hWl]; rcases hlc with z | z
        · rw [if_pos z.1]; exact Or.inl ⟨rfl, z.2⟩
        · rw [if_neg z.1]; exact Or.inr ⟨z.1, z.2.1, z.2.2, rfl⟩
      refine z_if_eq hO 61 dX4_readCandidate_43 (by decide) (by decide) (fun c43 => ?_) (fun c43 => absurd c43 (by omega))
      refine z_iload hO 0 dX4_readCandidate_61 rfl ?_
      refine z_csE hO (t_X4_wordOfLetter (by omega)) cs_X4_49 rfl rfl (by decide) (Nat.le_of_ble_eq_true rfl) dX4_readCandidate_63 ?_
      try simp (disch := omega) only [fl_row_ne, fl_ne, up_row_ne, up_ne, up_eq, up_nk, up_up, up_self, ne_eq, Nat.reduceEqDiff, Int.reduceEq, reduceCtorEq, not_false_eq_true, not_true_eq_false]
      refine z_istore hO (L' := [(5, _), (4, _), (3, _), (0, _), (1, _), (2, _)]) dX4_readCandidate_66 (by decide) rfl ?_
      exact z_pick [3, 4, 5, 2, 0] rfl (lp_rc1 hO hR hT hp hG hbz h1 h0 hw)
