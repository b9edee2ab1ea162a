set_option maxHeartbeats 4000000 in
set_option maxRecDepth 100000 in
theorem t_X9_film2 {g : G} {σ : Sg} {s lane i0 : Int} (rs : -2147483648 ≤ s ∧ s ≤ 2147483647) (rl : -2147483648 ≤ lane ∧ lane ≤ 2147483647) (ri : -2147483648 ≤ i0 ∧ i0 ≤ 2147483647) (hV : WV (mv (σ 114))) (hz : ∀ s, 0 ≤ s → s ≤ 3 → 0 ≤ σ 131 s ∧ σ 131 s ≤ 24) : MM g mX9_film [.ref (g.2.2.1 113), vI s, vI lane, vI i0] σ (pI (fun r σ' => (¬ (0 ≤ s ∧ s ≤ 3 ∧ 0 ≤ lane ∧ lane ≤ 3) ∧ r = -1 ∧ σ' = σ) ∨ ((0 ≤ s ∧ s ≤ 3 ∧ 0 ≤ lane ∧ lane ≤ 3) ∧ bR (mv (σ 114)) (σ 114 1) = -4 ∧ r = -4 ∧ Fm fFd σ σ') ∨ ((0 ≤ s ∧ s ≤ 3 ∧ 0 ≤ lane ∧ lane ≤ 3) ∧ bR (mv (σ 114)) (σ 114 1) ≠ -4 ∧ r < 0 ∧ r = (if σ 130 s < 0 then (-11 : Int) else if σ 130 s ≠ lane then -12 else if i0 < 0 ∨ σ 131 s - i0 < ((nm (mv (σ 114)) (bR (mv (σ 114)) (σ 114 1))).length : Int) then -13 else 0) ∧ Fm fFd σ σ') ∨ ((0 ≤ s ∧ s ≤ 3 ∧ 0 ≤ lane ∧ lane ≤ 3) ∧ bR (mv (σ 114)) (σ 114 1) ≠ -4 ∧ (if σ 130 s < 0 then (-11 : Int) else if σ 130 s ≠ lane then -12 else if i0 < 0 ∨ σ 131 s - i0 < ((nm (mv (σ 114)) (bR (mv (σ 114)) (σ 114 1))).length : Int) then -13 else 0) = 0 ∧ r = ((nm (mv (σ 114)) (bR (mv (σ 114)) (σ 114 1))).length : Int) ∧ ∃ τ, Fm fFd σ τ ∧ τ 113 13 = ((nm (mv (σ 114)) (bR (mv (σ 114)) (σ 114 1))).length : Int) ∧ rowIs (τ 118) (nm (mv (σ 114)) (bR (mv (σ 114)) (σ 114 1))) ∧ σ' = fl τ 132 (24 * s + i0) (24 * s + i0 + (τ 113 13 - 0)) (fun k => cutF (τ 118 (k - (24 * s + i0))) lane)))) := by
  refine mm_of rfl (by decide) rfl rfl (Nat.le_of_ble_eq_true rfl) (fun x hO hR => ?_)
  refine z_iload_n hO 1 dX9_film_0 rfl ?_
  refine z_csQ hO (t_X9_isSheet (by omega)) cs_X9_282 rfl rfl (by decide) (Nat.le_of_ble_eq_true rfl) dX9_film_1 (fun c1 => ?_) (fun c1 => ?_)
  ·
    refine z_if_eq hO 19 dX9_film_4 (by decide) (by decide) (fun c4 => absurd c4 (by omega)) (fun c4 => ?_)
    refine z_iload_n hO 2 dX9_film_7 rfl ?_
    refine z_i2l hO dX9_film_8 (by omega) ?_
    refine z_lconst hO 0 dX9_film_9 (by decide) ?_
    refine z_ldc2 hO k_X9_280 dX9_film_10 ?_
    refine z_csQ hO (t_X9_in (by omega) (by omega) (by omega)) cs_X9_75 rfl rfl (by decide) (Nat.le_of_ble_eq_true rfl) dX9_film_13 (fun c13 => ?_) (fun c13 => ?_)
    ·
      refine z_if_ne hO 21 dX9_film_16 (by decide) (by decide) (fun c16 => ?_) (fun c16 => absurd c16 (by omega))
      refine z_aload_n hO 0 dX9_film_21 rfl ?_
      refine z_cvV hO (t_X9_finds hV) cv_X9_154 rfl rfl rfl rfl (by decide) (Nat.le_of_ble_eq_true rfl) dX9_film_22 (fun s22 p22 => ?_)
      obtain ⟨⟨f8, f9, f10, f11, f13, f14⟩, hFm⟩ := p22
      have f114 : s22 114 = σ 114 := hFm.row 114 (fun _ => rfl)
      have hbr := bR_r hV (σ 114 1)
      have f10 : s22 113 10 = bR (mv (σ 114)) (σ 114 1) := f10
      have f11 : s22 113 11 = bC (mv (σ 114)) (σ 114 1) := f11
      have f13 : bR (mv (σ 114)) (σ 114 1) = -4 → s22 113 13 = 0 := f13
      have f14 : bR (mv (σ 114)) (σ 114 1) ≠ -4 → s22 113 13 = (nm (mv (σ 114)) (bR (mv (σ 114)) (σ 114 1))).length ∧ rowIs (s22 118) (nm (mv (σ 114)) (bR (mv (σ 114)) (σ 114 1))) := f14
      have hrd := rdN_r hV
      have hcs := cst_r hV (bR (mv (σ 114)) (σ 114 1))
      have hlen : bR (mv (σ 114)) (σ 114 1) ≠ -4 → 1 ≤ (nm (mv (σ 114)) (bR (mv (σ 114)) (σ 114 1))).length ∧ (nm (mv (σ 114)) (bR (mv (σ 114)) (σ 114 1))).length ≤ 4 ∧ ∀ v ∈ nm (mv (σ 114)) (bR (mv (σ 114)) (σ 114 1)), 0 < v ∧ v ≤ 999999 := fun q => said_r hV (snd_said (by rcases hbr with z | z; exact absurd z.1 q; exact z.2.2.2))
      refine z_aload_n hO 0 dX9_film_25 rfl ?_
      refine z_getI hO 10 fl_X9_135 rfl rfl rfl dX9_film_26 (fun r26 => ?_)
      try simp only [fl_row_ne, fl_ne, up_row_ne, up_ne, up_eq, up_nk, up_up, up_self, ne_eq, Nat.reduceEqDiff, Int.reduceEq, reduceCtorEq, not_false_eq_true, not_true_eq_false, f114, f10, f11, f8, f9] at r26 ⊢
      refine z_bipush hO dX9_film_29 (by decide) ?_
      refine z_icmp_ne hO 37 dX9_film_31 (by decide) (by omega) (by decide) (fun c31 => ?_) (fun c31 => ?_)
      ·
        have h14 := f14 c31
        have hl := hlen c31
        have h13 := h14.1
        have f130 : s22 130 = σ 130 := hFm.row 130 (fun _ => rfl)
        have f131 : s22 131 = σ 131 := hFm.row 131 (fun _ => rfl)
        refine z_aload_n hO 0 dX9_film_37 rfl ?_
        refine z_iload_n hO 1 dX9_film_38 rfl ?_
        refine z_iload_n hO 2 dX9_film_39 rfl ?_
        refine z_iload_n hO 3 dX9_film_40 rfl ?_
        refine z_aload_n hO 0 dX9_film_41 rfl ?_
        refine z_getI hO 13 fl_X9_151 rfl rfl rfl dX9_film_42 (fun r42 => ?_)
        try simp only [fl_row_ne, fl_ne, up_row_ne, up_ne, up_eq, up_nk, up_up, up_self, ne_eq, Nat.reduceEqDiff, Int.reduceEq, reduceCtorEq, not_false_eq_true, not_true_eq_false, f114, f10, f11, f8, f9] at r42 ⊢
        rw [h13] at r42 ⊢
        refine z_cvE hO (t_X9_why (by omega) (by omega) (by omega) (by omega) (by rw [f131]; exact hz s (by omega) (by omega))) cv_X9_285 rfl rfl rfl rfl (by decide) (Nat.le_of_ble_eq_true rfl) dX9_film_45 ?_
        try simp only [fl_row_ne, fl_ne, up_row_ne, up_ne, up_eq, up_nk, up_up, up_self, ne_eq, Nat.reduceEqDiff, Int.reduceEq, reduceCtorEq, not_false_eq_true, not_true_eq_false, f114, f10, f11, f8, f9]
        rw [f130, f131]
        obtain ⟨y, hy⟩ : ∃ y, y = (if σ 130 s < 0 then (-11 : Int) else if σ 130 s ≠ lane then -12 else if i0 < 0 ∨ σ 131 s - i0 < ((nm (mv (σ 114)) (bR (mv (σ 114)) (σ 114 1))).length : Int) then -13 else 0) := ⟨_, rfl⟩
        rw [← hy]
        have hyr : -13 ≤ y ∧ y ≤ 0 := by rw [hy]; (repeat' split) <;> omega
        have hy2 : 0 ≤ y → 0 ≤ i0 ∧ ((nm (mv (σ 114)) (bR (mv (σ 114)) (σ 114 1))).length : Int) ≤ σ 131 s - i0 ∧ σ 130 s = lane := by rw [hy]; intro q; (repeat' split at q) <;> omega
        have hzs := hz s (by omega) (by omega)
        refine z_istore hO (L' := [(4, _), (0, _), (1, _), (2, _), (3, _)]) dX9_film_48 (by decide) rfl ?_
        refine z_iload hO 0 dX9_film_50 rfl ?_
        refine z_if_ge hO 58 dX9_film_52 (by decide) (by omega) (fun c52 => ?_) (fun c52 => ?_)
        ·
          refine z_iconst hO dX9_film_58 ?_
          refine z_istore hO (L' := [(5, _), (4, _), (0, _), (1, _), (2, _), (3, _)]) dX9_film_59 (by decide) rfl ?_
          refine z_sg (fl_0 (c := 132) (lo := 24 * s + i0) (hi := 24 * s + i0 + (0 - 0)) (f := fun k => cutF (s22 118 (k - (24 * s + i0))) lane) (by omega)).symm ?_
          refine z_pick [2, 3, 4, 5, 0] rfl (lp_film hO (by omega) (by omega) (by omega) (by omega) ?_ 25 0 (by decide) (by omega) (by omega))
          refine z_aload_n hO 0 dX9_film_102 rfl ?_
          refine z_getI hO 13 fl_X9_151 rfl rfl rfl dX9_film_103 (fun r103 => ?_)
          rw [fl_ne (by decide), h13] at r103 ⊢
          exact z_retI hO hR dX9_film_106 (Or.inr (Or.inr (Or.inr ⟨by omega, c31, by omega, rfl, s22, hFm, h13, h14.2, by rw [h13]⟩)))
        ·
          refine z_iload hO 0 dX9_film_55 rfl ?_
          exact z_retI hO hR dX9_film_57 (Or.inr (Or.inr (Or.inl ⟨by omega, c31, by omega, hy, hFm⟩)))
      ·
        refine z_bipush hO dX9_film_34 (by decide) ?_
        exact z_retI hO hR dX9_film_36 (Or.inr (Or.inl ⟨by omega, by omega, rfl, hFm⟩))
    ·
      refine z_if_ne hO 21 dX9_film_16 (by decide) (by decide) (fun c16 => absurd c16 (by omega)) (fun c16 => ?_)
      refine z_iconst hO dX9_film_19 ?_
      exact z_retI hO hR dX9_film_20 (Or.inl ⟨by omega, rfl, rfl⟩)
  ·
    refine z_if_eq hO 19 dX9_film_4 (by decide) (by decide) (fun c4 => ?_) (fun c4 => absurd c4 (by omega))
    refine z_iconst hO dX9_film_19 ?_
    exact z_retI hO hR dX9_film_20 (Or.inl ⟨by omega, rfl, rfl⟩)
