set_option maxHeartbeats 4000000 in
set_option maxRecDepth 100000 in
theorem lp_rq2 {g : G} {x : Cx} {σ : Sg} {c : Nat → Nat} {m : Nat} {P : Int → Sg → Prop} (hO : Ok g x RX9 cX9_questions 11 12) (hR : Rt g x (some .int) (pI P)) (hV : WV (mv (σ 114))) (hD : DV (mv (σ 114))) (hm : σ 113 15 = (m : Int)) (h60 : m ≤ 60) (hc : lsQ (mv (σ 114)) c m σ) (hP : ∀ r τ, r = (mxQ (mv (σ 114)) c m (2 ^ m - 1) m) → Fm fQ σ τ → P r τ) : ∀ (M n : Nat) (most : Int) (S : Nat → Nat) (D : Nat → Int) (τ : Sg), 2 * sumS S m n - n < M → stA (mv (σ 114)) c m n S D τ → sumS S m n ≤ m → (∀ t, t < m → Pq (mv (σ 114)) c m (2 ^ m - 1) t ≤ most ∨ (∃ j, j < n ∧ (S j).testBit t = true)) → (0 ≤ most ∧ most ≤ (mxQ (mv (σ 114)) c m (2 ^ m - 1) m)) → Fm fQ σ τ → Z g x 11 48 [(0, .ref (g.2.2.1 113)), (1, vI most), (2, vI n)] [] τ := by
  intro M
  induction M with
  | zero => intro n most S D τ hM hA hsm; exfalso; have := sumS_n n (fun j hj => (hA.2 j hj).2.1); omega
  | succ M ih =>
    intro n most S D τ hM hA hsm hL hmo hFm
    have e114 : τ 114 = σ 114 := hFm.row 114 (fun _ => rfl)
    have hmx9 := mxQ_r hV (c := c) (m := m) (s := (2 ^ m - 1)) m
    have hsn9 := sumS_n n (fun j hj => (hA.2 j hj).2.1)
    refine z_iload_n hO 2 dX9_questions_48 rfl ?_
    refine z_if_le hO 198 dX9_questions_49 (by decide) (by omega) (fun c49 => ?_) (fun c49 => ?_)
    ·
      have hn0 : n = 0 := by omega
      have hmx : most = (mxQ (mv (σ 114)) c m (2 ^ m - 1) m) := by
        have z := mxQ_r hV (c := c) (m := m) (s := (2 ^ m - 1)) m
        apply Int.le_antisymm hmo.2
        rcases z.2.2.2 with y | ⟨t, y1, y2⟩
        · omega
        · rw [y2]; rcases hL t y1 with x | ⟨j, x, _⟩
          · exact x
          · omega
      refine z_iload_n hO 1 dX9_questions_198 rfl ?_
      exact z_retI hO hR dX9_questions_199 (hP _ _ hmx hFm)
    ·
      obtain ⟨n1, rfl⟩ : ∃ n1, n = n1 + 1 := ⟨n - 1, by omega⟩
      obtain ⟨hS1, hS2⟩ := hA.1 n1 (by omega)
      obtain ⟨hs, hne, hd0, hd⟩ := hA.2 n1 (by omega)
      have hsum := sumS_s S m n1
      have hsn := sumS_n (n1 + 1) (fun j hj => (hA.2 j hj).2.1)
      obtain ⟨tn, tn1, tn2⟩ := hne
      have hns := nS_1 tn1 tn2
      have hdp := hd tn tn1 tn2
      have hpr : 0 ≤ Pq (mv (σ 114)) c m (2 ^ m - 1) tn ∧ Pq (mv (σ 114)) c m (2 ^ m - 1) tn ≤ (8 : Nat) := Pq_r hV 8 (2 ^ m - 1) tn
      have hpr2 : 0 ≤ Pq (mv (σ 114)) c m (S n1) tn ∧ Pq (mv (σ 114)) c m (S n1) tn ≤ (8 : Nat) := Pq_r hV 8 (S n1) tn
      have hmxr := mxQ_r hV (c := c) (m := m) (s := (2 ^ m - 1)) m
      have hmt := hmxr.2.2.1 tn tn1
      have hsl := pow60 hs h60
      refine z_iinc hO (L' := [(2, _), (0, _), (1, _)]) 2 dX9_questions_52 rfl (by decide) rfl ?_
      rw [show ((n1 + 1 : Nat) : Int) + -1 = (n1 : Int) by omega]
      refine z_aload_n hO 1 dX9_questions_55 rfl ?_
      refine z_getR hO (121) fl_X9_31 rfl rfl dX9_questions_56 ?_
      refine z_iload_n hO 0 dX9_questions_59 rfl ?_
      refine z_lald hO rfl (by omega) (by decide) dX9_questions_60 (fun r60 => ?_)
      rw [hS1] at r60 ⊢
      refine z_lstore_n hO (L' := [(3, _), (2, _), (0, _), (1, _)]) dX9_questions_61 (by decide) rfl ?_
      refine z_aload_n hO 2 dX9_questions_62 rfl ?_
      refine z_getR hO (122) fl_X9_35 rfl rfl dX9_questions_63 ?_
      refine z_iload_n hO 1 dX9_questions_66 rfl ?_
      refine z_iald hO rfl (by omega) (by decide) dX9_questions_67 (fun r67 => ?_)
      rw [hS2] at r67 ⊢
      refine z_istore hO (L' := [(5, _), (3, _), (2, _), (0, _), (1, _)]) dX9_questions_68 (by decide) rfl ?_
      refine z_aload_n hO 3 dX9_questions_70 rfl ?_
      refine z_lload_n hO 1 dX9_questions_71 rfl ?_
      refine z_cvB hO (t_X9_tellsSame (σ := τ) (c := c) (s := (S n1)) (m := m) (by rw [e114]; exact hV) (by rw [hFm 113 15 rfl]; exact hm) h60 hs (by intro t ht; rw [e114, hFm.row 120 (fun _ => rfl)]; exact hc t ht)) cv_X9_172 rfl rfl rfl rfl (by decide) (Nat.le_of_ble_eq_true rfl) dX9_questions_72 (fun s72 p72 => ?_) (fun s72 p72 => ?_)
      ·
        rw [e114] at p72
        obtain ⟨hsm, h21, hhv, hF5⟩ := p72
        have hF6 : Fm fQ σ s72 := hFm.trans (hF5.mono fTS_Q)
        have hA6 := stA_keep (n' := n1) hA (by omega) (hF5.row 121 (fun _ => rfl)) (hF5.row 122 (fun _ => rfl))
        have e114b : s72 114 = σ 114 := hF6.row 114 (fun _ => rfl)
        have hn8 := hV.2.1
        have hn0 := hV.1
        rw [mv_n] at hn8 hn0
        have hnr := nS_r (S n1) m
        have hlf : leaf (mv (σ 114)) c (S n1) m = true := dec_iff.mpr (Or.inl (hsm.mp rfl))
        refine z_istore hO (L' := [(6, _), (5, _), (3, _), (2, _), (0, _), (1, _)]) dX9_questions_75 (by decide) rfl ?_
        refine z_iload hO 0 dX9_questions_77 rfl ?_
        refine z_if_eq hO 87 dX9_questions_79 (by decide) (by decide) (fun c79 => absurd c79 (by omega)) (fun c79 => ?_)
        refine z_bipush hO dX9_questions_82 (by decide) ?_
        refine z_goto hO 95 dX9_questions_84 (by decide) ?_
        refine z_istore hO (L' := [(7, _), (6, _), (5, _), (3, _), (2, _), (0, _), (1, _)]) dX9_questions_95 (by decide) rfl ?_
        refine z_iload hO 2 dX9_questions_97 rfl ?_
        refine z_iload_n hO 6 dX9_questions_99 rfl ?_
        refine z_icmp_le hO 108 dX9_questions_100 (by decide) (by omega) (by omega) (fun c100 => ?_) (fun c100 => ?_)
        ·
          obtain ⟨mo, hmo1, hmo2, hmo3, hmo4⟩ : ∃ mo, mo = most ∧ most ≤ mo ∧ D n1 ≤ mo ∧ mo ≤ (mxQ (mv (σ 114)) c m (2 ^ m - 1) m) := ⟨most, rfl, by omega, by omega, hmo.2⟩
          refine z_iload_n hO 6 dX9_questions_108 rfl ?_
          refine z_top hmo1.symm ?_
          refine z_istore_n hO (L' := [(1, _), (7, _), (6, _), (5, _), (3, _), (2, _), (0, _)]) dX9_questions_109 (by decide) rfl ?_
          refine z_iconst hO dX9_questions_110 ?_
          refine z_istore hO (L' := [(8, _), (1, _), (7, _), (6, _), (5, _), (3, _), (2, _), (0, _)]) dX9_questions_111 (by decide) rfl ?_
          have hlz := fun t => Pq_l (V := (mv (σ 114))) (c := c) (m := m) (s := (S n1)) (t := t)
          have hnext : Z g x 11 48 [(0, .ref (g.2.2.1 113)), (1, vI mo), (2, vI n1)] [] s72 := ih n1 mo S D s72 (by omega) hA6 (by omega) (fun t ht => by
              rcases hL t ht with z | ⟨j, z1, z2⟩
              · exact Or.inl (by omega)
              · by_cases q : j = n1
                · left; rw [q] at z2; have y := hd t ht z2; rw [hlz t hlf] at y; omega
                · exact Or.inr ⟨j, by omega, z2⟩) ⟨by omega, hmo4⟩ hF6
          exact z_pick [7, 1, 6, 5, 4, 2, 0] rfl (lp_rq0 hO hnext)
        ·
          obtain ⟨mo, hmo1, hmo2, hmo3, hmo4⟩ : ∃ mo, mo = D n1 ∧ most ≤ mo ∧ D n1 ≤ mo ∧ mo ≤ (mxQ (mv (σ 114)) c m (2 ^ m - 1) m) := ⟨D n1, rfl, by omega, by omega, by omega⟩
          refine z_iload hO 2 dX9_questions_103 rfl ?_
          refine z_top hmo1.symm ?_
          refine z_goto hO 109 dX9_questions_105 (by decide) ?_
          refine z_istore_n hO (L' := [(1, _), (7, _), (6, _), (5, _), (3, _), (2, _), (0, _)]) dX9_questions_109 (by decide) rfl ?_
          refine z_iconst hO dX9_questions_110 ?_
          refine z_istore hO (L' := [(8, _), (1, _), (7, _), (6, _), (5, _), (3, _), (2, _), (0, _)]) dX9_questions_111 (by decide) rfl ?_
          have hlz := fun t => Pq_l (V := (mv (σ 114))) (c := c) (m := m) (s := (S n1)) (t := t)
          have hnext : Z g x 11 48 [(0, .ref (g.2.2.1 113)), (1, vI mo), (2, vI n1)] [] s72 := ih n1 mo S D s72 (by omega) hA6 (by omega) (fun t ht => by
              rcases hL t ht with z | ⟨j, z1, z2⟩
              · exact Or.inl (by omega)
              · by_cases q : j = n1
                · left; rw [q] at z2; have y := hd t ht z2; rw [hlz t hlf] at y; omega
                · exact Or.inr ⟨j, by omega, z2⟩) ⟨by omega, hmo4⟩ hF6
          exact z_pick [7, 1, 6, 5, 4, 2, 0] rfl (lp_rq0 hO hnext)
      ·
        rw [e114] at p72
        obtain ⟨hsm, h21, hhv, hF5⟩ := p72
        have hF6 : Fm fQ σ s72 := hFm.trans (hF5.mono fTS_Q)
        have hA6 := stA_keep (n' := n1) hA (by omega) (hF5.row 121 (fun _ => rfl)) (hF5.row 122 (fun _ => rfl))
        have e114b : s72 114 = σ 114 := hF6.row 114 (fun _ => rfl)
        have hn8 := hV.2.1
        have hn0 := hV.1
        rw [mv_n] at hn8 hn0
        have hnr := nS_r (S n1) m
        have hnsm : ¬ smP (mv (σ 114)) c (S n1) m := fun z => by have y := hsm.mpr z; cases y
        refine z_istore hO (L' := [(6, _), (5, _), (3, _), (2, _), (0, _), (1, _)]) dX9_questions_75 (by decide) rfl ?_
        refine z_iload hO 0 dX9_questions_77 rfl ?_
        refine z_if_eq hO 87 dX9_questions_79 (by decide) (by decide) (fun c79 => ?_) (fun c79 => absurd c79 (by omega))
        refine z_aload_n hO 4 dX9_questions_87 rfl ?_
        refine z_aload_n hO 4 dX9_questions_88 rfl ?_
        refine z_getI hO 21 fl_X9_166 rfl rfl rfl dX9_questions_89 (fun r89 => ?_)
        rw [h21] at r89 ⊢
        refine z_cvE hO (t_X9_look (by rw [e114b]; omega) (by omega)) cv_X9_176 rfl rfl rfl rfl (by decide) (Nat.le_of_ble_eq_true rfl) dX9_questions_92 ?_
        refine z_top (show (lookF (s72 119) (nS (S n1) m) (s72 114 0).toNat).1 = slF (mv (σ 114)) c (S n1) m by rw [e114b]; unfold slF; rw [lookF_congr (H' := hvS (mv (σ 114)) c (S n1) m) (σ 114 0).toNat (fun a w' a0 a1 w0 w1 => by rw [hvS_at _ _ _ _ w0 w1]; exact hhv a w' a0 (by omega) w0 w1)]; rfl) ?_
        have hslr := slF_r hV (c := c) (s := (S n1)) (m := m)
        refine z_istore hO (L' := [(7, _), (6, _), (5, _), (3, _), (2, _), (0, _), (1, _)]) dX9_questions_95 (by decide) rfl ?_
        refine z_iload hO 2 dX9_questions_97 rfl ?_
        refine z_iload_n hO 6 dX9_questions_99 rfl ?_
        refine z_icmp_le hO 108 dX9_questions_100 (by decide) (by omega) (by omega) (fun c100 => ?_) (fun c100 => ?_)
        ·
          obtain ⟨mo, hmo1, hmo2, hmo3, hmo4⟩ : ∃ mo, mo = most ∧ most ≤ mo ∧ D n1 ≤ mo ∧ mo ≤ (mxQ (mv (σ 114)) c m (2 ^ m - 1) m) := ⟨most, rfl, by omega, by omega, hmo.2⟩
          refine z_iload_n hO 6 dX9_questions_108 rfl ?_
          refine z_top hmo1.symm ?_
          refine z_istore_n hO (L' := [(1, _), (7, _), (6, _), (5, _), (3, _), (2, _), (0, _)]) dX9_questions_109 (by decide) rfl ?_
          refine z_iconst hO dX9_questions_110 ?_
          refine z_istore hO (L' := [(8, _), (1, _), (7, _), (6, _), (5, _), (3, _), (2, _), (0, _)]) dX9_questions_111 (by decide) rfl ?_
          by_cases hz : slF (mv (σ 114)) c (S n1) m = -4
          · have hlf : leaf (mv (σ 114)) c (S n1) m = true := dec_iff.mpr (Or.inr (by omega))
            have hlz := fun t => Pq_l (V := (mv (σ 114))) (c := c) (m := m) (s := (S n1)) (t := t)
            have hnext : Z g x 11 48 [(0, .ref (g.2.2.1 113)), (1, vI mo), (2, vI n1)] [] s72 := ih n1 mo S D s72 (by omega) hA6 (by omega) (fun t ht => by
                rcases hL t ht with z | ⟨j, z1, z2⟩
                · exact Or.inl (by omega)
                · by_cases q : j = n1
                  · left; rw [q] at z2; have y := hd t ht z2; rw [hlz t hlf] at y; omega
                  · exact Or.inr ⟨j, by omega, z2⟩) ⟨by omega, hmo4⟩ hF6
            rw [hz]
            exact z_pick [7, 1, 6, 5, 4, 2, 0] rfl (lp_rq0 hO hnext)
          · obtain ⟨hr1, hr2, hr3⟩ := hslr.resolve_left hz
            have hlf : leaf (mv (σ 114)) c (S n1) m ≠ true := fun z => by rcases dec_iff.mp z with y | y; (exact hnsm y); omega
            have hc5 := hV.2.2 (slF (mv (σ 114)) c (S n1) m) hr1 hr2
            refine z_pick [7, 1, 6, 5, 4, 2, 0] rfl (lp_rq1 (σ := σ) (c := c) (s := (S n1)) (m := m) (n0 := n1) (B := sumS S m n1 + nS (S n1) m) hO hV hD hm h60 hc hs hlf ⟨hr1, hr2⟩ hr3 (by omega) (by omega) hd ?_ 5 0 n1 S D s72 (by omega) (by omega) hA6 (by show _ + (_ - 0) = _; omega) (by show (n1 : Int) = n1 + 0; omega) ?_ hF6)
            · intro n S2 D2 υ hA7 hB7 hn7 hL7 hF7
              exact ih n mo S2 D2 υ (by omega) hA7 (by omega) hL7 ⟨by omega, hmo4⟩ hF7
            · intro t ht; rcases hL t ht with z | ⟨j, z1, z2⟩
              · exact Or.inl (by omega)
              · by_cases q : j = n1
                · rw [q] at z2; exact Or.inr (Or.inr ⟨z2, (pk_WP hV (c t) _ hr1 hr2).1⟩)
                · exact Or.inr (Or.inl ⟨j, by omega, z2⟩)
        ·
          obtain ⟨mo, hmo1, hmo2, hmo3, hmo4⟩ : ∃ mo, mo = D n1 ∧ most ≤ mo ∧ D n1 ≤ mo ∧ mo ≤ (mxQ (mv (σ 114)) c m (2 ^ m - 1) m) := ⟨D n1, rfl, by omega, by omega, by omega⟩
          refine z_iload hO 2 dX9_questions_103 rfl ?_
          refine z_top hmo1.symm ?_
          refine z_goto hO 109 dX9_questions_105 (by decide) ?_
          refine z_istore_n hO (L' := [(1, _), (7, _), (6, _), (5, _), (3, _), (2, _), (0, _)]) dX9_questions_109 (by decide) rfl ?_
          refine z_iconst hO dX9_questions_110 ?_
          refine z_istore hO (L' := [(8, _), (1, _), (7, _), (6, _), (5, _), (3, _), (2, _), (0, _)]) dX9_questions_111 (by decide) rfl ?_
          by_cases hz : slF (mv (σ 114)) c (S n1) m = -4
          · have hlf : leaf (mv (σ 114)) c (S n1) m = true := dec_iff.mpr (Or.inr (by omega))
            have hlz := fun t => Pq_l (V := (mv (σ 114))) (c := c) (m := m) (s := (S n1)) (t := t)
            have hnext : Z g x 11 48 [(0, .ref (g.2.2.1 113)), (1, vI mo), (2, vI n1)] [] s72 := ih n1 mo S D s72 (by omega) hA6 (by omega) (fun t ht => by
                rcases hL t ht with z | ⟨j, z1, z2⟩
                · exact Or.inl (by omega)
                · by_cases q : j = n1
                  · left; rw [q] at z2; have y := hd t ht z2; rw [hlz t hlf] at y; omega
                  · exact Or.inr ⟨j, by omega, z2⟩) ⟨by omega, hmo4⟩ hF6
            rw [hz]
            exact z_pick [7, 1, 6, 5, 4, 2, 0] rfl (lp_rq0 hO hnext)
          · obtain ⟨hr1, hr2, hr3⟩ := hslr.resolve_left hz
            have hlf : leaf (mv (σ 114)) c (S n1) m ≠ true := fun z => by rcases dec_iff.mp z with y | y; (exact hnsm y); omega
            have hc5 := hV.2.2 (slF (mv (σ 114)) c (S n1) m) hr1 hr2
            refine z_pick [7, 1, 6, 5, 4, 2, 0] rfl (lp_rq1 (σ := σ) (c := c) (s := (S n1)) (m := m) (n0 := n1) (B := sumS S m n1 + nS (S n1) m) hO hV hD hm h60 hc hs hlf ⟨hr1, hr2⟩ hr3 (by omega) (by omega) hd ?_ 5 0 n1 S D s72 (by omega) (by omega) hA6 (by show _ + (_ - 0) = _; omega) (by show (n1 : Int) = n1 + 0; omega) ?_ hF6)
            · intro n S2 D2 υ hA7 hB7 hn7 hL7 hF7
              exact ih n mo S2 D2 υ (by omega) hA7 (by omega) hL7 ⟨by omega, hmo4⟩ hF7
            · intro t ht; rcases hL t ht with z | ⟨j, z1, z2⟩
              · exact Or.inl (by omega)
              · by_cases q : j = n1
                · rw [q] at z2; exact Or.inr (Or.inr ⟨z2, (pk_WP hV (c t) _ hr1 hr2).1⟩)
                · exact Or.inr (Or.inl ⟨j, by omega, z2⟩)

theorem ls_ct {V : Hv} (hV : WV V) {K S : Int} {τ : Sg} {m : Nat} (h : ctQ V K S τ) (hm : (m : Int) = nCt V K S (rdN V).toNat) (h60 : m ≤ 60) : lsQ V (cqF V K S) m τ := by
  intro t ht
  have p := cqF_p hV (K := K) (S := S) (t := t) (by omega)
  have q := h.2.2.2 (cqF V K S t) p.1 p.2.1 (by omega)
  rw [p.2.2] at q
  exact ⟨q, p.1, snd_said (ctd_iff.mp p.2.1).1⟩
def fQc : Nat → Int → Bool := fun c k => fQ c k || fCt c k
theorem fQ_c : ∀ c k, fQc c k = false → fQ c k = false := by
  intro c k h; simp only [fQc, Bool.or_eq_false_iff] at h; exact h.1
theorem fCt_c : ∀ c k, fQc c k = false → fCt c k = false := by
  intro c k h; simp only [fQc, Bool.or_eq_false_iff] at h; exact h.2

set_option maxHeartbeats 4000000 in
set_option maxRecDepth 100000 in
theorem t_X9_questions {g : G} {σ : Sg} (hV : WV (mv (σ 114))) (hD : DV (mv (σ 114))) (h2 : 0 ≤ (σ 114 2) ∧ (σ 114 2) ≤ 20) : MM g mX9_questions [.ref (g.2.2.1 113)] σ (pI (fun r σ' => r = qsF (mv (σ 114)) (σ 114 1) (σ 114 2) ∧ Fm fQc σ σ')) := by
  refine mm_of rfl (by decide) rfl rfl (Nat.le_of_ble_eq_true rfl) (fun x hO hR => ?_)
  refine z_aload_n hO 0 dX9_questions_0 rfl ?_
  refine z_cvV hO (t_X9_counts hV h2) cv_X9_169 rfl rfl rfl rfl (by decide) (Nat.le_of_ble_eq_true rfl) dX9_questions_1 (fun s1 p1 => ?_)
  obtain ⟨hq, hF⟩ := p1
  have e114 : s1 114 = σ 114 := hF.row 114 (fun _ => rfl)
  have h15 := hq.1
  have hnr := nCt_r (mv (σ 114)) (σ 114 1) (σ 114 2) (rdN (mv (σ 114))).toNat
  have hrd := rdN_r hV
  refine z_aload_n hO 0 dX9_questions_4 rfl ?_
  refine z_getI hO 15 fl_X9_157 rfl rfl rfl dX9_questions_5 (fun r5 => ?_)
  rw [h15] at r5 ⊢
  refine z_if_eq hO 20 dX9_questions_8 (by decide) (by omega) (fun c8 => ?_) (fun c8 => ?_)
  ·
    refine z_bipush hO dX9_questions_20 (by decide) ?_
    exact z_retI hO hR dX9_questions_22 (⟨by unfold qsF; rw [if_pos (by omega)], hF.mono fCt_c⟩)
  ·
    refine z_aload_n hO 0 dX9_questions_11 rfl ?_
    refine z_getI hO 15 fl_X9_157 rfl rfl rfl dX9_questions_12 (fun r12 => ?_)
    rw [h15] at r12 ⊢
    refine z_bipush hO dX9_questions_15 (by decide) ?_
    refine z_icmp_le hO 23 dX9_questions_17 (by decide) (by omega) (by decide) (fun c17 => ?_) (fun c17 => ?_)
    ·
      refine z_iconst hO dX9_questions_23 ?_
      refine z_istore_n hO (L' := [(1, _), (0, _)]) dX9_questions_24 (by decide) rfl ?_
      refine z_iconst hO dX9_questions_25 ?_
      refine z_istore_n hO (L' := [(2, _), (1, _), (0, _)]) dX9_questions_26 (by decide) rfl ?_
      refine z_aload_n hO 2 dX9_questions_27 rfl ?_
      refine z_getR hO (121) fl_X9_31 rfl rfl dX9_questions_28 ?_
      refine z_iconst hO dX9_questions_31 ?_
      refine z_lconst hO 1 dX9_questions_32 (by decide) ?_
      refine z_aload_n hO 2 dX9_questions_33 rfl ?_
      refine z_getI hO 15 fl_X9_157 rfl rfl rfl dX9_questions_34 (fun r34 => ?_)
      rw [h15] at r34 ⊢
      refine z_lshl hO (((2 ^ (nCt (mv (σ 114)) (σ 114 1) (σ 114 2) (rdN (mv (σ 114))).toNat).toNat : Nat) : Int)) dX9_questions_37 (by have h := bl_shl1 (nCt (mv (σ 114)) (σ 114 1) (σ 114 2) (rdN (mv (σ 114))).toNat).toNat (by omega); rw [show (((nCt (mv (σ 114)) (σ 114 1) (σ 114 2) (rdN (mv (σ 114))).toNat).toNat : Nat) : Int) = (nCt (mv (σ 114)) (σ 114 1) (σ 114 2) (rdN (mv (σ 114))).toNat) by omega] at h; exact h) ?_
      refine z_lconst hO 1 dX9_questions_38 (by decide) ?_
      refine z_lsub hO dX9_questions_39 ?_
      refine z_topL (show ((2 ^ (nCt (mv (σ 114)) (σ 114 1) (σ 114 2) (rdN (mv (σ 114))).toNat).toNat : Nat) : Int) - 1 = ((2 ^ (nCt (mv (σ 114)) (σ 114 1) (σ 114 2) (rdN (mv (σ 114))).toNat).toNat - 1 : Nat) : Int) by have := Nat.two_pow_pos (nCt (mv (σ 114)) (σ 114 1) (σ 114 2) (rdN (mv (σ 114))).toNat).toNat; omega) ?_
      have hpl := pow60 (show 2 ^ (nCt (mv (σ 114)) (σ 114 1) (σ 114 2) (rdN (mv (σ 114))).toNat).toNat - 1 < 2 ^ (nCt (mv (σ 114)) (σ 114 1) (σ 114 2) (rdN (mv (σ 114))).toNat).toNat by have := Nat.two_pow_pos (nCt (mv (σ 114)) (σ 114 1) (σ 114 2) (rdN (mv (σ 114))).toNat).toNat; omega) (by omega)
      refine z_last hO rfl (by omega) (by decide) (by omega) dX9_questions_40 ?_
      refine z_aload_n hO 2 dX9_questions_41 rfl ?_
      refine z_getR hO (122) fl_X9_35 rfl rfl dX9_questions_42 ?_
      refine z_iconst hO dX9_questions_45 ?_
      refine z_iconst hO dX9_questions_46 ?_
      refine z_iast hO rfl (by omega) (by decide) (by omega) dX9_questions_47 ?_
      have hfl : (2 ^ (nCt (mv (σ 114)) (σ 114 1) (σ 114 2) (rdN (mv (σ 114))).toNat).toNat - 1 : Nat) < 2 ^ (nCt (mv (σ 114)) (σ 114 1) (σ 114 2) (rdN (mv (σ 114))).toNat).toNat := by have := Nat.two_pow_pos (nCt (mv (σ 114)) (σ 114 1) (σ 114 2) (rdN (mv (σ 114))).toNat).toNat; omega
      have hmm : (((nCt (mv (σ 114)) (σ 114 1) (σ 114 2) (rdN (mv (σ 114))).toNat).toNat : Nat) : Int) = (nCt (mv (σ 114)) (σ 114 1) (σ 114 2) (rdN (mv (σ 114))).toNat) := by omega
      refine z_pick [2, 1, 0] rfl (lp_rq2 (σ := s1) (c := cqF (mv (σ 114)) (σ 114 1) (σ 114 2)) (m := (nCt (mv (σ 114)) (σ 114 1) (σ 114 2) (rdN (mv (σ 114))).toNat).toNat) hO hR (by rw [e114]; exact hV) (by rw [e114]; exact hD) (by rw [h15]; omega) (by omega) (by rw [e114]; exact ls_ct hV hq hmm (by omega)) (fun r σ5 e2 e3 => ?_) 121 1 0 (fun _ => 2 ^ (nCt (mv (σ 114)) (σ 114 1) (σ 114 2) (rdN (mv (σ 114))).toNat).toNat - 1) (fun _ => 0) _ ?_ ?_ ?_ ?_ ?_ ((Fm.rf.up rfl).up rfl))
      · refine ⟨?_, (hF.mono fCt_c).trans (e3.mono fQ_c)⟩
        rw [e2, e114]; unfold qsF; rw [if_neg (by omega)]
      · show 2 * (0 + nS (2 ^ (nCt (mv (σ 114)) (σ 114 1) (σ 114 2) (rdN (mv (σ 114))).toNat).toNat - 1) (nCt (mv (σ 114)) (σ 114 1) (σ 114 2) (rdN (mv (σ 114))).toNat).toNat) - 1 < 121; have := nS_r (2 ^ (nCt (mv (σ 114)) (σ 114 1) (σ 114 2) (rdN (mv (σ 114))).toNat).toNat - 1) (nCt (mv (σ 114)) (σ 114 1) (σ 114 2) (rdN (mv (σ 114))).toNat).toNat; omega
      · refine ⟨fun j hj => ?_, fun j hj => ⟨hfl, ⟨0, by omega, full_bit.mpr (by omega)⟩, Int.le_refl 0, fun t ht hb => Int.zero_add _⟩⟩
        obtain rfl : j = 0 := by omega
        exact ⟨by rw [up_ne (by decide)]; exact up_eq, up_eq⟩
      · show 0 + nS (2 ^ (nCt (mv (σ 114)) (σ 114 1) (σ 114 2) (rdN (mv (σ 114))).toNat).toNat - 1) (nCt (mv (σ 114)) (σ 114 1) (σ 114 2) (rdN (mv (σ 114))).toNat).toNat ≤ _; have := nS_r (2 ^ (nCt (mv (σ 114)) (σ 114 1) (σ 114 2) (rdN (mv (σ 114))).toNat).toNat - 1) (nCt (mv (σ 114)) (σ 114 1) (σ 114 2) (rdN (mv (σ 114))).toNat).toNat; omega
      · intro t ht; exact Or.inr ⟨0, by omega, full_bit.mpr ht⟩
      · exact ⟨Int.le_refl 0, (mxQ_r (by rw [e114]; exact hV) _).1⟩
    ·
      refine z_bipush hO dX9_questions_20 (by decide) ?_
      exact z_retI hO hR dX9_questions_22 (⟨by unfold qsF; rw [if_pos (by omega)], hF.mono fCt_c⟩)
