set_option maxHeartbeats 4000000 in
set_option maxRecDepth 100000 in
theorem t_X8_best {g : G} {σ : Sg} {k : Int} (rk : -2147483648 ≤ k ∧ k ≤ 2147483647) (hV : WV (cv σ 1)) (hI : SI σ) : MM g mX8_best [.ref (g.2.2.1 0), vI k] σ (pI (fun r σ' => r = bestF (cv σ 1) (σ 1 4) k ∧ SI σ' ∧ Fm fSv σ σ')) := by
  refine mm_of rfl (by decide) rfl rfl (Nat.le_of_ble_eq_true rfl) (fun x hO hR => ?_)
  refine z_iload_n hO 1 dX8_best_0 rfl ?_
  refine z_bipush hO dX8_best_1 (by decide) ?_
  refine z_icmp_ge hO 10 dX8_best_3 (by decide) (by omega) (by decide) (fun c3 => ?_) (fun c3 => ?_)
  ·
    refine z_aload_n hO 0 dX8_best_10 rfl ?_
    refine z_getR hO (83) fl_X8_44 rfl rfl dX8_best_11 ?_
    refine z_iload_n hO 1 dX8_best_14 rfl ?_
    refine z_cvI hO (t_X6_bestTells (by omega) hV hI) cv_X8_166 rfl rfl rfl rfl (by decide) (Nat.le_of_ble_eq_true rfl) dX8_best_15 (fun v15 s15 p15 => ?_)
    exact z_retI hO hR dX8_best_18 (by first | exact p15 | exact ⟨by unfold bestF; rw [if_pos (by omega)], hI, Fm.rf⟩)
  ·
    refine z_iconst hO dX8_best_6 ?_
    refine z_goto hO 18 dX8_best_7 (by decide) ?_
    exact z_retI hO hR dX8_best_18 (by first | exact p15 | exact ⟨by unfold bestF; rw [if_pos (by omega)], hI, Fm.rf⟩)

set_option maxHeartbeats 4000000 in
set_option maxRecDepth 100000 in
theorem t_X8_taken {g : G} {σ : Sg} {s : Int} (rs : -2147483648 ≤ s ∧ s ≤ 2147483647) (hV : WV (cv σ 1)) (hI : SI σ) : MM g mX8_taken [.ref (g.2.2.1 0), vI s] σ (pI (fun r σ' => r = takenF (cv σ 1) (σ 1 4) s ∧ SI σ' ∧ Fm fSv σ σ')) := by
  refine mm_of rfl (by decide) rfl rfl (Nat.le_of_ble_eq_true rfl) (fun x hO hR => ?_)
  refine z_aload_n hO 0 dX8_taken_0 rfl ?_
  refine z_getR hO (1) fl_X8_12 rfl rfl dX8_taken_1 ?_
  refine z_iload_n hO 1 dX8_taken_4 rfl ?_
  refine z_cvQ hO (t_X2_isSlot hd_1 (by omega)) cv_X8_76 rfl rfl rfl rfl (by decide) (Nat.le_of_ble_eq_true rfl) dX8_taken_5 (fun c5 => ?_) (fun c5 => ?_)
  ·
    refine z_if_eq hO 22 dX8_taken_8 (by decide) (by decide) (fun c8 => absurd c8 (by omega)) (fun c8 => ?_)
    refine z_aload_n hO 0 dX8_taken_11 rfl ?_
    refine z_getR hO (83) fl_X8_44 rfl rfl dX8_taken_12 ?_
    refine z_iload_n hO 1 dX8_taken_15 rfl ?_
    refine z_cvI hO (t_X6_bestWord (by omega) hV hI) cv_X8_170 rfl rfl rfl rfl (by decide) (Nat.le_of_ble_eq_true rfl) dX8_taken_16 (fun v16 s16 p16 => ?_)
    refine z_goto hO 23 dX8_taken_19 (by decide) ?_
    exact z_retI hO hR dX8_taken_23 (by first | exact p16 | exact ⟨by unfold takenF; rw [if_pos (by show ¬ (0 ≤ s ∧ s < σ 1 3); omega)], hI, Fm.rf⟩)
  ·
    refine z_if_eq hO 22 dX8_taken_8 (by decide) (by decide) (fun c8 => ?_) (fun c8 => absurd c8 (by omega))
    refine z_iconst hO dX8_taken_22 ?_
    exact z_retI hO hR dX8_taken_23 (by first | exact p16 | exact ⟨by unfold takenF; rw [if_pos (by show ¬ (0 ≤ s ∧ s < σ 1 3); omega)], hI, Fm.rf⟩)

set_option maxHeartbeats 4000000 in
set_option maxRecDepth 100000 in
theorem t_X8_likely {g : G} {σ : Sg} {v q : Int} (rv : -2147483648 ≤ v ∧ v ≤ 2147483647) (rq : -2147483648 ≤ q ∧ q ≤ 2147483647) (hV : WV (cv σ 1)) (hI : SI σ) : MM g mX8_likely [.ref (g.2.2.1 0), vI v, vI q] σ (pL (fun r σ' => r = (if ¬ ((0 ≤ v ∧ v ≤ 999999) ∧ 0 ≤ q ∧ q ≤ 1) then -1 else likF (cv σ 1) (σ 1 4) v q) ∧ SI σ' ∧ Fm fSv σ σ')) := by
  refine mm_of rfl (by decide) rfl rfl (Nat.le_of_ble_eq_true rfl) (fun x hO hR => ?_)
  refine z_iload_n hO 1 dX8_likely_0 rfl ?_
  refine z_if_lt hO 19 dX8_likely_1 (by decide) (by omega) (fun c1 => ?_) (fun c1 => ?_)
  ·
    refine z_ldc2 hO k_X8_177 dX8_likely_19 ?_
    refine z_goto hO 43 dX8_likely_22 (by decide) ?_
    exact z_retL hO hR dX8_likely_43 (by first | (rw [if_neg (by omega)]; exact p40) | exact ⟨by rw [if_pos (by omega)], hI, Fm.rf⟩)
  ·
    refine z_iload_n hO 1 dX8_likely_4 rfl ?_
    refine z_ldc hO k_X8_71 dX8_likely_5 ?_
    refine z_icmp_gt hO 19 dX8_likely_7 (by decide) (by omega) (by decide) (fun c7 => ?_) (fun c7 => ?_)
    ·
      refine z_ldc2 hO k_X8_177 dX8_likely_19 ?_
      refine z_goto hO 43 dX8_likely_22 (by decide) ?_
      exact z_retL hO hR dX8_likely_43 (by first | (rw [if_neg (by omega)]; exact p40) | exact ⟨by rw [if_pos (by omega)], hI, Fm.rf⟩)
    ·
      refine z_iload_n hO 2 dX8_likely_10 rfl ?_
      refine z_if_lt hO 19 dX8_likely_11 (by decide) (by omega) (fun c11 => ?_) (fun c11 => ?_)
      ·
        refine z_ldc2 hO k_X8_177 dX8_likely_19 ?_
        refine z_goto hO 43 dX8_likely_22 (by decide) ?_
        exact z_retL hO hR dX8_likely_43 (by first | (rw [if_neg (by omega)]; exact p40) | exact ⟨by rw [if_pos (by omega)], hI, Fm.rf⟩)
      ·
        refine z_iload_n hO 2 dX8_likely_14 rfl ?_
        refine z_iconst hO dX8_likely_15 ?_
        refine z_icmp_le hO 25 dX8_likely_16 (by decide) (by omega) (by decide) (fun c16 => ?_) (fun c16 => ?_)
        ·
          refine z_aload_n hO 0 dX8_likely_25 rfl ?_
          refine z_getR hO (83) fl_X8_44 rfl rfl dX8_likely_26 ?_
          refine z_iload_n hO 1 dX8_likely_29 rfl ?_
          refine z_iload_n hO 2 dX8_likely_30 rfl ?_
          refine z_iconst hO dX8_likely_31 ?_
          refine z_icmp_ne hO 39 dX8_likely_32 (by decide) (by omega) (by decide) (fun c32 => ?_) (fun c32 => ?_)
          ·
            have hq0 : q = 0 := by omega
            subst hq0
            refine z_iconst hO dX8_likely_39 ?_
            refine z_cvL hO (t_X6_likelihood (by omega) (by omega) hV hI) cv_X8_183 rfl rfl rfl rfl (by decide) (Nat.le_of_ble_eq_true rfl) dX8_likely_40 (fun v40 s40 p40 => ?_)
            exact z_retL hO hR dX8_likely_43 (by first | (rw [if_neg (by omega)]; exact p40) | exact ⟨by rw [if_pos (by omega)], hI, Fm.rf⟩)
          ·
            have hq0 : q = 1 := by omega
            subst hq0
            refine z_iconst hO dX8_likely_35 ?_
            refine z_goto hO 40 dX8_likely_36 (by decide) ?_
            refine z_cvL hO (t_X6_likelihood (by omega) (by omega) hV hI) cv_X8_183 rfl rfl rfl rfl (by decide) (Nat.le_of_ble_eq_true rfl) dX8_likely_40 (fun v40 s40 p40 => ?_)
            exact z_retL hO hR dX8_likely_43 (by first | (rw [if_neg (by omega)]; exact p40) | exact ⟨by rw [if_pos (by omega)], hI, Fm.rf⟩)
        ·
          refine z_ldc2 hO k_X8_177 dX8_likely_19 ?_
          refine z_goto hO 43 dX8_likely_22 (by decide) ?_
          exact z_retL hO hR dX8_likely_43 (by first | (rw [if_neg (by omega)]; exact p40) | exact ⟨by rw [if_pos (by omega)], hI, Fm.rf⟩)
