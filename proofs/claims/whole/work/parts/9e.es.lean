set_option maxHeartbeats 4000000 in
set_option maxRecDepth 100000 in
theorem lp_rq0 {g : G} {x : Cx} {τ : Sg} {mo n d k : Int} {s : Int} (hO : Ok g x RX9 cX9_questions 11 12) (h : Z g x 11 48 [(0, .ref (g.2.2.1 113)), (1, vI mo), (2, vI n)] [] τ) : Z g x 11 113 [(0, .ref (g.2.2.1 113)), (1, vI mo), (2, vI n), (3, vL s), (5, vI d), (7, vI (-4)), (8, vI k)] [] τ := by
  refine z_iload hO 5 dX9_questions_113 rfl ?_
  refine z_bipush hO dX9_questions_115 (by decide) ?_
  refine z_icmp_eq hO 195 dX9_questions_117 (by decide) (by decide) (by decide) (fun c117 => ?_) (fun c117 => absurd c117 (by omega))
  refine z_goto hO 48 dX9_questions_195 (by decide) ?_
  exact z_pick [0, 1, 2] rfl h

set_option maxHeartbeats 4000000 in
set_option maxRecDepth 100000 in
theorem lp_rq1 {g : G} {x : Cx} {σ : Sg} {c : Nat → Nat} {s m n0 : Nat} {mo d B : Int} (hO : Ok g x RX9 cX9_questions 11 12) (hV : WV (mv (σ 114))) (hD : DV (mv (σ 114))) (hm : σ 113 15 = (m : Int)) (h60 : m ≤ 60) (hc : lsQ (mv (σ 114)) c m σ) (hs : s < 2 ^ m) (hlf : leaf (mv (σ 114)) c s m ≠ true) (hsr : 0 ≤ (slF (mv (σ 114)) c s m) ∧ (slF (mv (σ 114)) c s m) < (mv (σ 114)).1) (halv : alv (mv (σ 114)) c s m (slF (mv (σ 114)) c s m)) (hd0 : 0 ≤ d ∧ d ≤ 8) (hB : B ≤ m) (hd : ∀ t, t < m → s.testBit t = true → d + Pq (mv (σ 114)) c m s t = Pq (mv (σ 114)) c m (2 ^ m - 1) t) (hE : ∀ (n : Nat) (S : Nat → Nat) (D : Nat → Int) (τ : Sg), stA (mv (σ 114)) c m n S D τ → sumS S m n = B → (n0 : Int) + 2 ≤ n → (∀ t, t < m → Pq (mv (σ 114)) c m (2 ^ m - 1) t ≤ mo ∨ (∃ j, j < n ∧ (S j).testBit t = true)) → Fm fQ σ τ → Z g x 11 48 [(0, .ref (g.2.2.1 113)), (1, vI mo), (2, vI n)] [] τ) : ∀ (f k n : Nat) (S : Nat → Nat) (D : Nat → Int) (τ : Sg), (k : Int) ≤ (mv (σ 114)).2.1 (slF (mv (σ 114)) c s m) → (mv (σ 114)).2.1 (slF (mv (σ 114)) c s m) - k < f → stA (mv (σ 114)) c m n S D τ → sumS S m n + (nS s m - cumT (mv (σ 114)) c s (slF (mv (σ 114)) c s m) m k) = B → (n : Int) = n0 + npT (mv (σ 114)) c s m (slF (mv (σ 114)) c s m) k → (∀ t, t < m → Pq (mv (σ 114)) c m (2 ^ m - 1) t ≤ mo ∨ (∃ j, j < n ∧ (S j).testBit t = true) ∨ (s.testBit t = true ∧ (k : Int) ≤ pk (mv (σ 114)) (c t) (slF (mv (σ 114)) c s m))) → Fm fQ σ τ → Z g x 11 113 [(0, .ref (g.2.2.1 113)), (1, vI mo), (2, vI n), (3, vL (s : Int)), (5, vI d), (7, vI (slF (mv (σ 114)) c s m)), (8, vI k)] [] τ := by
  have hn8 := hV.2.1
  have hc5 := hV.2.2 (slF (mv (σ 114)) c s m) hsr.1 hsr.2
  have hm0 := hsr.2
  rw [mv_n] at hn8 hm0
  rw [mv_c] at hc5
  have hcc : (mv (σ 114)).2.1 (slF (mv (σ 114)) c s m) = σ 114 (4 + 9 * (slF (mv (σ 114)) c s m)) := rfl
  intro f
  induction f with
  | zero => intro k n S D τ h0 hk; exact absurd hk (by omega)
  | succ f ih =>
    intro k n S D τ hk hf hA hsum hn hL hFm
    have e114 : τ 114 = σ 114 := hFm.row 114 (fun _ => rfl)
    refine z_iload hO 5 dX9_questions_113 rfl ?_
    refine z_bipush hO dX9_questions_115 (by decide) ?_
    refine z_icmp_eq hO 195 dX9_questions_117 (by decide) (by omega) (by decide) (fun c117 => absurd c117 (by omega)) (fun c117 => ?_)
    refine z_iload hO 6 dX9_questions_120 rfl ?_
    refine z_aload_n hO 0 dX9_questions_122 rfl ?_
    refine z_getR hO (114) fl_X9_7 rfl rfl dX9_questions_123 ?_
    refine z_aload_n hO 0 dX9_questions_126 rfl ?_
    refine z_iload hO 5 dX9_questions_127 rfl ?_
    refine z_cvE hO (t_X9_at) cv_X9_79 rfl rfl rfl rfl (by decide) (Nat.le_of_ble_eq_true rfl) dX9_questions_129 ?_
    try simp (disch := omega) only [fl_row_ne, fl_ne, up_row_ne, up_ne, up_eq, up_nk, up_up, up_self, ne_eq, Nat.reduceEqDiff, Int.reduceEq, reduceCtorEq, not_false_eq_true, not_true_eq_false, e114]
    refine z_iald hO rfl (by omega) (by decide) dX9_questions_132 (fun r132 => ?_)
    try simp (disch := omega) only [fl_row_ne, fl_ne, up_row_ne, up_ne, up_eq, up_nk, up_up, up_self, ne_eq, Nat.reduceEqDiff, Int.reduceEq, reduceCtorEq, not_false_eq_true, not_true_eq_false, e114] at r132 ⊢
    refine z_icmp_ge hO 195 dX9_questions_133 (by decide) (by omega) (by omega) (fun c133 => ?_) (fun c133 => ?_)
    ·
      have hkc : (k : Int) = (mv (σ 114)).2.1 (slF (mv (σ 114)) c s m) := by rw [mv_c]; omega
      refine z_goto hO 48 dX9_questions_195 (by decide) ?_
      exact z_pick [0, 1, 2] rfl (hE n S D τ hA (by have z := (cumT_le hV (c := c) (s := s) hsr.1 hsr.2 k m).2 (by omega); omega) (by rw [hn]; have z := npT_2 hV hsr.1 hsr.2 halv hkc; omega) (fun t ht => by rcases hL t ht with z | z | z; (exact Or.inl z); (exact Or.inr z); (exfalso; have y := pk_WP hV (c t) (slF (mv (σ 114)) c s m) hsr.1 hsr.2; omega)) hFm)
    ·
      have hw5 := hc5.2.2 k (by omega) (by omega)
      rw [mv_w, mv_q] at hw5
      refine z_aload_n hO 0 dX9_questions_136 rfl ?_
      refine z_lload_n hO 3 dX9_questions_137 rfl ?_
      refine z_iload hO 5 dX9_questions_138 rfl ?_
      refine z_aload_n hO 0 dX9_questions_140 rfl ?_
      refine z_getR hO (114) fl_X9_7 rfl rfl dX9_questions_141 ?_
      refine z_aload_n hO 0 dX9_questions_144 rfl ?_
      refine z_iload hO 5 dX9_questions_145 rfl ?_
      refine z_cvE hO (t_X9_at) cv_X9_79 rfl rfl rfl rfl (by decide) (Nat.le_of_ble_eq_true rfl) dX9_questions_147 ?_
      try simp (disch := omega) only [fl_row_ne, fl_ne, up_row_ne, up_ne, up_eq, up_nk, up_up, up_self, ne_eq, Nat.reduceEqDiff, Int.reduceEq, reduceCtorEq, not_false_eq_true, not_true_eq_false, e114]
      refine z_iconst hO dX9_questions_150 ?_
      refine z_iadd hO dX9_questions_151 ?_
      refine z_iload hO 6 dX9_questions_152 rfl ?_
      refine z_iadd hO dX9_questions_154 ?_
      refine z_iald hO rfl (by omega) (by decide) dX9_questions_155 (fun r155 => ?_)
      try simp (disch := omega) only [fl_row_ne, fl_ne, up_row_ne, up_ne, up_eq, up_nk, up_up, up_self, ne_eq, Nat.reduceEqDiff, Int.reduceEq, reduceCtorEq, not_false_eq_true, not_true_eq_false, e114] at r155 ⊢
      refine z_cvL hO (t_X9_partOf (σ := τ) (c := c) (s := s) (m := m) (by rw [e114]; exact hV) (by rw [hFm 113 15 rfl]; exact hm) h60 hs (by intro t ht; rw [e114, hFm.row 120 (fun _ => rfl)]; exact hc t ht) (by rw [e114]; exact ⟨hsr.1, hsr.2⟩) (by omega)) cv_X9_179 rfl rfl rfl rfl (by decide) (Nat.le_of_ble_eq_true rfl) dX9_questions_156 (fun v156 s156 p156 => ?_)
      rw [e114] at p156
      have hpp := po_prt hV hD (c := c) (s := s) (m := m) (i := (slF (mv (σ 114)) c s m)) (k := k) hsr.1 hsr.2 (by rw [mv_c]; omega)
      rw [mv_w] at hpp
      rw [hpp] at p156
      obtain ⟨hv5, hF5⟩ := p156
      subst hv5
      have hpl := prt_lt (mv (σ 114)) c s m (slF (mv (σ 114)) c s m) k
      have hpl2 := pow60 hpl h60
      have hct := cumT_s (mv (σ 114)) c s (slF (mv (σ 114)) c s m) m k
      have hnt := nS_prt (V := (mv (σ 114))) (c := c) (s := s) (m := m) (i := (slF (mv (σ 114)) c s m)) (k := k)
      have hnp := npT_s (mv (σ 114)) c s m (slF (mv (σ 114)) c s m) k
      have hF6 : Fm fQ σ s156 := hFm.trans (hF5.mono fTk_Q)
      have hA6 := stA_keep hA (Nat.le_refl n) (hF5.row 121 (fun _ => rfl)) (hF5.row 122 (fun _ => rfl))
      have hsn := sumS_n n (fun j hj => (hA.2 j hj).2.1)
      have hcl := (cumT_le hV (c := c) (s := s) hsr.1 hsr.2 k m).1
      refine z_lstore hO (L' := [(9, _), (0, _), (1, _), (2, _), (3, _), (5, _), (7, _), (8, _)]) dX9_questions_159 (by decide) rfl ?_
      refine z_lload hO 0 dX9_questions_161 rfl ?_
      refine z_lconst hO 0 dX9_questions_163 (by decide) ?_
      refine z_lcmp hO dX9_questions_164 (by omega) (by omega) (fun c164 => ?_) (fun c164 => ?_) (fun c164 => ?_)
      ·
        refine z_if_eq hO 189 dX9_questions_165 (by decide) (by decide) (fun c165 => absurd c165 (by omega)) (fun c165 => ?_)
        refine z_aload_n hO 1 dX9_questions_168 rfl ?_
        refine z_getR hO (121) fl_X9_31 rfl rfl dX9_questions_169 ?_
        refine z_iload_n hO 3 dX9_questions_172 rfl ?_
        refine z_lload hO 0 dX9_questions_173 rfl ?_
        refine z_last hO rfl (by omega) (by decide) (by omega) dX9_questions_175 ?_
        refine z_aload_n hO 1 dX9_questions_176 rfl ?_
        refine z_getR hO (122) fl_X9_35 rfl rfl dX9_questions_177 ?_
        refine z_iload_n hO 3 dX9_questions_180 rfl ?_
        refine z_iload hO 5 dX9_questions_181 rfl ?_
        refine z_iconst hO dX9_questions_183 ?_
        refine z_iadd hO dX9_questions_184 ?_
        refine z_iast hO rfl (by omega) (by decide) (by omega) dX9_questions_185 ?_
        refine z_iinc hO (L' := [(2, _), (9, _), (0, _), (1, _), (3, _), (5, _), (7, _), (8, _)]) 3 dX9_questions_186 rfl (by decide) rfl ?_
        refine z_iinc hO (L' := [(8, _), (2, _), (9, _), (0, _), (1, _), (3, _), (5, _), (7, _)]) 7 dX9_questions_189 rfl (by decide) rfl ?_
        refine z_goto hO 113 dX9_questions_192 (by decide) ?_
        have hnz : (prt (mv (σ 114)) c s m (slF (mv (σ 114)) c s m) k) ≠ 0 := by omega
        rw [if_neg hnz] at hnp
        have hps := stA_push hA6 hpl (nz_bit hpl hnz) (show 0 ≤ d + 1 by omega) (fun t ht hb => by
          have z := prt_bit.mp hb
          have y := hd t ht z.2.1
          rw [Pq_n hV hlf, z.2.2] at y
          omega)
        refine z_pick [3, 4, 1, 5, 6, 7, 0] rfl (ih (k + 1) (n + 1) _ _ _ (by omega) (by omega) hps ?_ ?_ ?_ ((hF6.up rfl).up rfl))
        · rw [sumS_s, sumS_congr (S' := S) n (fun j hj => if_neg (by omega)), if_pos rfl, hnt, hct]; omega
        · rw [hnp]; omega
        · intro t ht; rcases hL t ht with z | ⟨j, z1, z2⟩ | ⟨z1, z2⟩
          · exact Or.inl z
          · exact Or.inr (Or.inl ⟨j, by omega, by rw [if_neg (by omega)]; exact z2⟩)
          · by_cases q : pk (mv (σ 114)) (c t) (slF (mv (σ 114)) c s m) = k
            · exact Or.inr (Or.inl ⟨n, by omega, by rw [if_pos rfl]; exact prt_bit.mpr ⟨ht, z1, q⟩⟩)
            · exact Or.inr (Or.inr ⟨z1, by omega⟩)
      ·
        refine z_if_eq hO 189 dX9_questions_165 (by decide) (by decide) (fun c165 => ?_) (fun c165 => absurd c165 (by omega))
        refine z_iinc hO (L' := [(8, _), (9, _), (0, _), (1, _), (2, _), (3, _), (5, _), (7, _)]) 7 dX9_questions_189 rfl (by decide) rfl ?_
        refine z_goto hO 113 dX9_questions_192 (by decide) ?_
        have hz : (prt (mv (σ 114)) c s m (slF (mv (σ 114)) c s m) k) = 0 := by omega
        rw [if_pos hz] at hnp
        rw [hz, show nS 0 m = 0 from (by have h : ∀ j, nS 0 j = 0 := (fun j => by induction j with | zero => rfl | succ j ih => rw [nS_s, ih, if_neg (by rw [Nat.zero_testBit]; decide)]; rfl); exact h m)] at hnt
        refine z_pick [2, 3, 4, 5, 6, 7, 0] rfl (ih (k + 1) n S D s156 (by omega) (by omega) hA6 (by rw [hct]; omega) (by rw [hnp]; omega) ?_ hF6)
        intro t ht; rcases hL t ht with z | z | ⟨z1, z2⟩
        · exact Or.inl z
        · exact Or.inr (Or.inl z)
        · by_cases q : pk (mv (σ 114)) (c t) (slF (mv (σ 114)) c s m) = k
          · exfalso; have y := prt_bit (V := (mv (σ 114))) (c := c) (s := s) (m := m) (i := (slF (mv (σ 114)) c s m)) (k := k) (t := t) |>.mpr ⟨ht, z1, q⟩; rw [hz, Nat.zero_testBit] at y; cases y
          · exact Or.inr (Or.inr ⟨z1, by omega⟩)
      ·
        exfalso; omega
