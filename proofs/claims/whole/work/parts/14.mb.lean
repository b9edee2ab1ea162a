set_option maxHeartbeats 4000000 in
set_option maxRecDepth 100000 in
theorem t_X9_low {g : G} {σ : Sg} (hw : PF (wh (σ 116) (σ 113 3)) (σ 113 3)) (h0 : 0 ≤ σ 113 7) (h1 : σ 113 7 ≤ σ 113 3) : MM g mX9_low [.ref (g.2.2.1 113)] σ (pI (fun r σ' => r = (lowF (wh (σ 116) (σ 113 3)) (σ 113 7)).1 ∧ σ' = up σ 113 7 (lowF (wh (σ 116) (σ 113 3)) (σ 113 7)).2)) := by
  refine mm_of rfl (by decide) rfl rfl (Nat.le_of_ble_eq_true rfl) (fun x hO hR => ?_)
  have hA := hw.1
  have hB := hw.2.1
  have hC := hw.r (σ 113 7)
  have hD := wth_r (wh (σ 116) (σ 113 3) (σ 113 7))
  have hE := hw.r (σ 113 7 + 1)
  refine z_aload_n hO 0 dX9_low_0 rfl ?_
  refine z_cvE hO (t_X9_wordHere (by (try simp only [fl_row_ne, fl_ne, up_row_ne, up_ne, up_eq, up_nk, up_up, up_self, ne_eq, Nat.reduceEqDiff, Int.reduceEq, reduceCtorEq, not_false_eq_true, not_true_eq_false]); omega) (by (try simp only [fl_row_ne, fl_ne, up_row_ne, up_ne, up_eq, up_nk, up_up, up_self, ne_eq, Nat.reduceEqDiff, Int.reduceEq, reduceCtorEq, not_false_eq_true, not_true_eq_false]); omega)) cv_X9_95 rfl rfl rfl rfl (by decide) (Nat.le_of_ble_eq_true rfl) dX9_low_1 ?_
  refine z_istore_n hO (L' := [(1, _), (0, _)]) dX9_low_4 (by decide) rfl ?_
  refine z_iload_n hO 0 dX9_low_5 rfl ?_
  refine z_csE hO (t_X9_worth (by omega)) cs_X9_99 rfl rfl (by decide) (Nat.le_of_ble_eq_true rfl) dX9_low_6 ?_
  refine z_istore_n hO (L' := [(2, _), (1, _), (0, _)]) dX9_low_9 (by decide) rfl ?_
  refine z_iload_n hO 0 dX9_low_10 rfl ?_
  refine z_if_ne hO 16 dX9_low_11 (by decide) (by omega) (fun c11 => ?_) (fun c11 => ?_)
  ·
    refine z_aload_n hO 2 dX9_low_16 rfl ?_
    refine z_dup hO dX9_low_17 rfl ?_
    refine z_getI hO 7 fl_X9_83 rfl rfl rfl dX9_low_18 (fun r18 => ?_)
    refine z_iconst hO dX9_low_21 ?_
    refine z_iadd hO dX9_low_22 ?_
    refine z_putI hO 7 fp_X9_83 rfl rfl rfl (by omega) rfl rfl dX9_low_23 ?_
    refine z_iload_n hO 1 dX9_low_26 rfl ?_
    refine z_bipush hO dX9_low_27 (by decide) ?_
    refine z_icmp_le hO 64 dX9_low_29 (by decide) (by omega) (by decide) (fun c29 => ?_) (fun c29 => ?_)
    ·
      refine z_iload_n hO 0 dX9_low_64 rfl ?_
      exact z_retI hO hR dX9_low_65 (by unfold lowF; (repeat' split) <;> first | (exfalso; omega) | (constructor <;> first | rfl | omega | simp [fl_row_ne, fl_ne, up_row_ne, up_ne, up_eq, up_nk, up_up, up_self, ne_eq, Nat.reduceEqDiff, Int.reduceEq, reduceCtorEq, not_false_eq_true, not_true_eq_false]))
    ·
      refine z_aload_n hO 2 dX9_low_32 rfl ?_
      refine z_cvE hO (t_X9_wordHere (by (try simp only [fl_row_ne, fl_ne, up_row_ne, up_ne, up_eq, up_nk, up_up, up_self, ne_eq, Nat.reduceEqDiff, Int.reduceEq, reduceCtorEq, not_false_eq_true, not_true_eq_false]); omega) (by (try simp only [fl_row_ne, fl_ne, up_row_ne, up_ne, up_eq, up_nk, up_up, up_self, ne_eq, Nat.reduceEqDiff, Int.reduceEq, reduceCtorEq, not_false_eq_true, not_true_eq_false]); omega)) cv_X9_95 rfl rfl rfl rfl (by decide) (Nat.le_of_ble_eq_true rfl) dX9_low_33 ?_
      try simp only [fl_row_ne, fl_ne, up_row_ne, up_ne, up_eq, up_nk, up_up, up_self, ne_eq, Nat.reduceEqDiff, Int.reduceEq, reduceCtorEq, not_false_eq_true, not_true_eq_false]
      refine z_i2l hO dX9_low_36 (by omega) ?_
      refine z_lconst hO 1 dX9_low_37 (by decide) ?_
      refine z_ldc2 hO k_X9_102 dX9_low_38 ?_
      refine z_csQ hO (t_X9_in (by omega) (by omega) (by omega)) cs_X9_75 rfl rfl (by decide) (Nat.le_of_ble_eq_true rfl) dX9_low_41 (fun c41 => ?_) (fun c41 => ?_)
      ·
        try simp only [fl_row_ne, fl_ne, up_row_ne, up_ne, up_eq, up_nk, up_up, up_self, ne_eq, Nat.reduceEqDiff, Int.reduceEq, reduceCtorEq, not_false_eq_true, not_true_eq_false] at c41 ⊢
        refine z_if_eq hO 64 dX9_low_44 (by decide) (by decide) (fun c44 => absurd c44 (by omega)) (fun c44 => ?_)
        refine z_iload_n hO 0 dX9_low_47 rfl ?_
        refine z_aload_n hO 2 dX9_low_48 rfl ?_
        refine z_cvE hO (t_X9_wordHere (by (try simp only [fl_row_ne, fl_ne, up_row_ne, up_ne, up_eq, up_nk, up_up, up_self, ne_eq, Nat.reduceEqDiff, Int.reduceEq, reduceCtorEq, not_false_eq_true, not_true_eq_false]); omega) (by (try simp only [fl_row_ne, fl_ne, up_row_ne, up_ne, up_eq, up_nk, up_up, up_self, ne_eq, Nat.reduceEqDiff, Int.reduceEq, reduceCtorEq, not_false_eq_true, not_true_eq_false]); omega)) cv_X9_95 rfl rfl rfl rfl (by decide) (Nat.le_of_ble_eq_true rfl) dX9_low_49 ?_
        try simp only [fl_row_ne, fl_ne, up_row_ne, up_ne, up_eq, up_nk, up_up, up_self, ne_eq, Nat.reduceEqDiff, Int.reduceEq, reduceCtorEq, not_false_eq_true, not_true_eq_false]
        refine z_iadd hO dX9_low_52 ?_
        refine z_istore_n hO (L' := [(2, _), (1, _), (0, _)]) dX9_low_53 (by decide) rfl ?_
        refine z_aload_n hO 2 dX9_low_54 rfl ?_
        refine z_dup hO dX9_low_55 rfl ?_
        refine z_getI hO 7 fl_X9_83 rfl rfl rfl dX9_low_56 (fun r56 => ?_)
        try simp only [fl_row_ne, fl_ne, up_row_ne, up_ne, up_eq, up_nk, up_up, up_self, ne_eq, Nat.reduceEqDiff, Int.reduceEq, reduceCtorEq, not_false_eq_true, not_true_eq_false] at r56 ⊢
        refine z_iconst hO dX9_low_59 ?_
        refine z_iadd hO dX9_low_60 ?_
        refine z_putI hO 7 fp_X9_83 rfl rfl rfl (by omega) rfl rfl dX9_low_61 ?_
        refine z_iload_n hO 0 dX9_low_64 rfl ?_
        exact z_retI hO hR dX9_low_65 (by unfold lowF; (repeat' split) <;> first | (exfalso; omega) | (constructor <;> first | rfl | omega | simp [fl_row_ne, fl_ne, up_row_ne, up_ne, up_eq, up_nk, up_up, up_self, ne_eq, Nat.reduceEqDiff, Int.reduceEq, reduceCtorEq, not_false_eq_true, not_true_eq_false]))
      ·
        try simp only [fl_row_ne, fl_ne, up_row_ne, up_ne, up_eq, up_nk, up_up, up_self, ne_eq, Nat.reduceEqDiff, Int.reduceEq, reduceCtorEq, not_false_eq_true, not_true_eq_false] at c41 ⊢
        refine z_if_eq hO 64 dX9_low_44 (by decide) (by decide) (fun c44 => ?_) (fun c44 => absurd c44 (by omega))
        refine z_iload_n hO 0 dX9_low_64 rfl ?_
        exact z_retI hO hR dX9_low_65 (by unfold lowF; (repeat' split) <;> first | (exfalso; omega) | (constructor <;> first | rfl | omega | simp [fl_row_ne, fl_ne, up_row_ne, up_ne, up_eq, up_nk, up_up, up_self, ne_eq, Nat.reduceEqDiff, Int.reduceEq, reduceCtorEq, not_false_eq_true, not_true_eq_false]))
  ·
    refine z_iconst hO dX9_low_14 ?_
    exact z_retI hO hR dX9_low_15 (by unfold lowF; (repeat' split) <;> first | (exfalso; omega) | (constructor <;> first | rfl | omega | simp [fl_row_ne, fl_ne, up_row_ne, up_ne, up_eq, up_nk, up_up, up_self, ne_eq, Nat.reduceEqDiff, Int.reduceEq, reduceCtorEq, not_false_eq_true, not_true_eq_false]))

set_option maxHeartbeats 4000000 in
set_option maxRecDepth 100000 in
theorem t_X9_more {g : G} {σ : Sg} (hw : PF (wh (σ 116) (σ 113 3)) (σ 113 3)) (h0 : 0 ≤ σ 113 7) (h1 : σ 113 7 ≤ σ 113 3) : MM g mX9_more [.ref (g.2.2.1 113)] σ (pI (fun r σ' => r = (moreF (wh (σ 116) (σ 113 3)) (σ 113 7)).1 ∧ σ' = up σ 113 7 (moreF (wh (σ 116) (σ 113 3)) (σ 113 7)).2)) := by
  refine mm_of rfl (by decide) rfl rfl (Nat.le_of_ble_eq_true rfl) (fun x hO hR => ?_)
  have hA := hw.1
  have hB := hw.2.1
  have hC := hw.r (σ 113 7)
  have hE := lowF_r hw h0 h1
  have hF : wh (σ 116) (σ 113 3) (σ 113 7) = 30 → σ 113 7 + 1 ≤ σ 113 3 := fun q => by have := hw.lt (i := σ 113 7) (by omega); omega
  have hG : wh (σ 116) (σ 113 3) (σ 113 7) = 30 → _ := fun q => lowF_r hw (i := σ 113 7 + 1) (by omega) (hF q)
  refine z_aload_n hO 0 dX9_more_0 rfl ?_
  refine z_cvE hO (t_X9_wordHere (by (try simp only [fl_row_ne, fl_ne, up_row_ne, up_ne, up_eq, up_nk, up_up, up_self, ne_eq, Nat.reduceEqDiff, Int.reduceEq, reduceCtorEq, not_false_eq_true, not_true_eq_false]); omega) (by (try simp only [fl_row_ne, fl_ne, up_row_ne, up_ne, up_eq, up_nk, up_up, up_self, ne_eq, Nat.reduceEqDiff, Int.reduceEq, reduceCtorEq, not_false_eq_true, not_true_eq_false]); omega)) cv_X9_95 rfl rfl rfl rfl (by decide) (Nat.le_of_ble_eq_true rfl) dX9_more_1 ?_
  refine z_bipush hO dX9_more_4 (by decide) ?_
  refine z_icmp_ne hO 13 dX9_more_6 (by decide) (by omega) (by decide) (fun c6 => ?_) (fun c6 => ?_)
  ·
    refine z_iconst hO dX9_more_13 ?_
    refine z_istore_n hO (L' := [(1, _), (0, _)]) dX9_more_14 (by decide) rfl ?_
    refine z_aload_n hO 1 dX9_more_15 rfl ?_
    refine z_dup hO dX9_more_16 rfl ?_
    refine z_getI hO 7 fl_X9_83 rfl rfl rfl dX9_more_17 (fun r17 => ?_)
    refine z_iload_n hO 0 dX9_more_20 rfl ?_
    refine z_if_eq hO 28 dX9_more_21 (by decide) (by decide) (fun c21 => ?_) (fun c21 => absurd c21 (by omega))
    refine z_iconst hO dX9_more_28 ?_
    refine z_iadd hO dX9_more_29 ?_
    refine z_putI hO 7 fp_X9_83 rfl rfl rfl (by omega) rfl rfl dX9_more_30 ?_
    refine z_aload_n hO 1 dX9_more_33 rfl ?_
    refine z_cvI hO (t_X9_low (by first | exact hw | (simp only [fl_row_ne, fl_ne, up_row_ne, up_ne, up_eq, up_nk, up_up, up_self, ne_eq, Nat.reduceEqDiff, Int.reduceEq, reduceCtorEq, not_false_eq_true, not_true_eq_false]; exact hw)) (by (try simp only [fl_row_ne, fl_ne, up_row_ne, up_ne, up_eq, up_nk, up_up, up_self, ne_eq, Nat.reduceEqDiff, Int.reduceEq, reduceCtorEq, not_false_eq_true, not_true_eq_false]); omega) (by (try simp only [fl_row_ne, fl_ne, up_row_ne, up_ne, up_eq, up_nk, up_up, up_self, ne_eq, Nat.reduceEqDiff, Int.reduceEq, reduceCtorEq, not_false_eq_true, not_true_eq_false]); omega)) cv_X9_104 rfl rfl rfl rfl (by decide) (Nat.le_of_ble_eq_true rfl) dX9_more_34 (fun v34 s34 p34 => ?_)
    try simp only [fl_row_ne, fl_ne, up_row_ne, up_ne, up_eq, up_nk, up_up, up_self, ne_eq, Nat.reduceEqDiff, Int.reduceEq, reduceCtorEq, not_false_eq_true, not_true_eq_false] at p34
    obtain ⟨rfl, rfl⟩ := p34
    try simp only [fl_row_ne, fl_ne, up_row_ne, up_ne, up_eq, up_nk, up_up, up_self, ne_eq, Nat.reduceEqDiff, Int.reduceEq, reduceCtorEq, not_false_eq_true, not_true_eq_false]
    refine z_istore_n hO (L' := [(2, _), (1, _), (0, _)]) dX9_more_37 (by decide) rfl ?_
    refine z_iload_n hO 1 dX9_more_38 rfl ?_
    refine z_if_eq hO 51 dX9_more_39 (by decide) (by decide) (fun c39 => ?_) (fun c39 => absurd c39 (by omega))
    refine z_iload_n hO 0 dX9_more_51 rfl ?_
    exact z_retI hO hR dX9_more_52 (by unfold moreF; (repeat' split) <;> first | (exfalso; omega) | (constructor <;> first | rfl | omega | simp [fl_row_ne, fl_ne, up_row_ne, up_ne, up_eq, up_nk, up_up, up_self, ne_eq, Nat.reduceEqDiff, Int.reduceEq, reduceCtorEq, not_false_eq_true, not_true_eq_false]))
  ·
    refine z_iconst hO dX9_more_9 ?_
    refine z_goto hO 14 dX9_more_10 (by decide) ?_
    refine z_istore_n hO (L' := [(1, _), (0, _)]) dX9_more_14 (by decide) rfl ?_
    refine z_aload_n hO 1 dX9_more_15 rfl ?_
    refine z_dup hO dX9_more_16 rfl ?_
    refine z_getI hO 7 fl_X9_83 rfl rfl rfl dX9_more_17 (fun r17 => ?_)
    refine z_iload_n hO 0 dX9_more_20 rfl ?_
    refine z_if_eq hO 28 dX9_more_21 (by decide) (by decide) (fun c21 => absurd c21 (by omega)) (fun c21 => ?_)
    refine z_iconst hO dX9_more_24 ?_
    refine z_goto hO 29 dX9_more_25 (by decide) ?_
    refine z_iadd hO dX9_more_29 ?_
    refine z_putI hO 7 fp_X9_83 rfl rfl rfl (by omega) rfl rfl dX9_more_30 ?_
    refine z_aload_n hO 1 dX9_more_33 rfl ?_
    refine z_cvI hO (t_X9_low (by first | exact hw | (simp only [fl_row_ne, fl_ne, up_row_ne, up_ne, up_eq, up_nk, up_up, up_self, ne_eq, Nat.reduceEqDiff, Int.reduceEq, reduceCtorEq, not_false_eq_true, not_true_eq_false]; exact hw)) (by (try simp only [fl_row_ne, fl_ne, up_row_ne, up_ne, up_eq, up_nk, up_up, up_self, ne_eq, Nat.reduceEqDiff, Int.reduceEq, reduceCtorEq, not_false_eq_true, not_true_eq_false]); omega) (by (try simp only [fl_row_ne, fl_ne, up_row_ne, up_ne, up_eq, up_nk, up_up, up_self, ne_eq, Nat.reduceEqDiff, Int.reduceEq, reduceCtorEq, not_false_eq_true, not_true_eq_false]); omega)) cv_X9_104 rfl rfl rfl rfl (by decide) (Nat.le_of_ble_eq_true rfl) dX9_more_34 (fun v34 s34 p34 => ?_)
    try simp only [fl_row_ne, fl_ne, up_row_ne, up_ne, up_eq, up_nk, up_up, up_self, ne_eq, Nat.reduceEqDiff, Int.reduceEq, reduceCtorEq, not_false_eq_true, not_true_eq_false] at p34
    obtain ⟨rfl, rfl⟩ := p34
    try simp only [fl_row_ne, fl_ne, up_row_ne, up_ne, up_eq, up_nk, up_up, up_self, ne_eq, Nat.reduceEqDiff, Int.reduceEq, reduceCtorEq, not_false_eq_true, not_true_eq_false]
    refine z_istore_n hO (L' := [(2, _), (1, _), (0, _)]) dX9_more_37 (by decide) rfl ?_
    refine z_iload_n hO 1 dX9_more_38 rfl ?_
    refine z_if_eq hO 51 dX9_more_39 (by decide) (by decide) (fun c39 => absurd c39 (by omega)) (fun c39 => ?_)
    refine z_iload_n hO 0 dX9_more_42 rfl ?_
    refine z_if_ne hO 51 dX9_more_43 (by decide) (by omega) (fun c43 => ?_) (fun c43 => ?_)
    ·
      refine z_iload_n hO 0 dX9_more_51 rfl ?_
      exact z_retI hO hR dX9_more_52 (by unfold moreF; (repeat' split) <;> first | (exfalso; omega) | (constructor <;> first | rfl | omega | simp [fl_row_ne, fl_ne, up_row_ne, up_ne, up_eq, up_nk, up_up, up_self, ne_eq, Nat.reduceEqDiff, Int.reduceEq, reduceCtorEq, not_false_eq_true, not_true_eq_false]))
    ·
      refine z_bipush hO dX9_more_46 (by decide) ?_
      refine z_goto hO 52 dX9_more_48 (by decide) ?_
      exact z_retI hO hR dX9_more_52 (by unfold moreF; (repeat' split) <;> first | (exfalso; omega) | (constructor <;> first | rfl | omega | simp [fl_row_ne, fl_ne, up_row_ne, up_ne, up_eq, up_nk, up_up, up_self, ne_eq, Nat.reduceEqDiff, Int.reduceEq, reduceCtorEq, not_false_eq_true, not_true_eq_false]))

set_option maxHeartbeats 4000000 in
set_option maxRecDepth 100000 in
theorem t_X9_small {g : G} {σ : Sg} (hw : PF (wh (σ 116) (σ 113 3)) (σ 113 3)) (h0 : 0 ≤ σ 113 7) (h1 : σ 113 7 ≤ σ 113 3) : MM g mX9_small [.ref (g.2.2.1 113)] σ (pI (fun r σ' => r = (smallF (wh (σ 116) (σ 113 3)) (σ 113 7)).1 ∧ σ' = up σ 113 7 (smallF (wh (σ 116) (σ 113 3)) (σ 113 7)).2)) := by
  refine mm_of rfl (by decide) rfl rfl (Nat.le_of_ble_eq_true rfl) (fun x hO hR => ?_)
  have hA := hw.1
  have hB := hw.2.1
  have hC := hw.r (σ 113 7)
  have hE := lowF_r hw h0 h1
  have hF : σ 113 7 + 1 < σ 113 3 → wh (σ 116) (σ 113 3) (σ 113 7 + 1) = σ 116 (σ 113 7 + 1) := fun q => by unfold wh; rw [if_pos (by omega)]
  have hF2 : σ 113 3 ≤ σ 113 7 + 1 → wh (σ 116) (σ 113 3) (σ 113 7 + 1) = -4 := fun q => hw.2.2.2 _ (by omega)
  have hG : σ 113 7 + 1 < σ 113 3 → _ := fun q => moreF_r hw (i := σ 113 7 + 2) (by omega) (by omega)
  refine z_aload_n hO 0 dX9_small_0 rfl ?_
  refine z_cvE hO (t_X9_wordHere (by (try simp only [fl_row_ne, fl_ne, up_row_ne, up_ne, up_eq, up_nk, up_up, up_self, ne_eq, Nat.reduceEqDiff, Int.reduceEq, reduceCtorEq, not_false_eq_true, not_true_eq_false]); omega) (by (try simp only [fl_row_ne, fl_ne, up_row_ne, up_ne, up_eq, up_nk, up_up, up_self, ne_eq, Nat.reduceEqDiff, Int.reduceEq, reduceCtorEq, not_false_eq_true, not_true_eq_false]); omega)) cv_X9_95 rfl rfl rfl rfl (by decide) (Nat.le_of_ble_eq_true rfl) dX9_small_1 ?_
  refine z_i2l hO dX9_small_4 (by omega) ?_
  refine z_lconst hO 1 dX9_small_5 (by decide) ?_
  refine z_ldc2 hO k_X9_102 dX9_small_6 ?_
  refine z_csQ hO (t_X9_in (by omega) (by omega) (by omega)) cs_X9_75 rfl rfl (by decide) (Nat.le_of_ble_eq_true rfl) dX9_small_9 (fun c9 => ?_) (fun c9 => ?_)
  ·
    refine z_if_eq hO 48 dX9_small_12 (by decide) (by decide) (fun c12 => absurd c12 (by omega)) (fun c12 => ?_)
    refine z_aload_n hO 0 dX9_small_15 rfl ?_
    refine z_getI hO 7 fl_X9_83 rfl rfl rfl dX9_small_16 (fun r16 => ?_)
    refine z_iconst hO dX9_small_19 ?_
    refine z_iadd hO dX9_small_20 ?_
    refine z_aload_n hO 0 dX9_small_21 rfl ?_
    refine z_getI hO 3 fl_X9_86 rfl rfl rfl dX9_small_22 (fun r22 => ?_)
    refine z_icmp_ge hO 48 dX9_small_25 (by decide) (by omega) (by omega) (fun c25 => ?_) (fun c25 => ?_)
    ·
      refine z_iconst hO dX9_small_48 ?_
      refine z_istore_n hO (L' := [(1, _), (0, _)]) dX9_small_49 (by decide) rfl ?_
      refine z_iload_n hO 0 dX9_small_50 rfl ?_
      refine z_if_ne hO 59 dX9_small_51 (by decide) (by decide) (fun c51 => absurd c51 (by omega)) (fun c51 => ?_)
      refine z_aload_n hO 1 dX9_small_54 rfl ?_
      refine z_cvI hO (t_X9_low (by first | exact hw | (simp only [fl_row_ne, fl_ne, up_row_ne, up_ne, up_eq, up_nk, up_up, up_self, ne_eq, Nat.reduceEqDiff, Int.reduceEq, reduceCtorEq, not_false_eq_true, not_true_eq_false]; exact hw)) (by (try simp only [fl_row_ne, fl_ne, up_row_ne, up_ne, up_eq, up_nk, up_up, up_self, ne_eq, Nat.reduceEqDiff, Int.reduceEq, reduceCtorEq, not_false_eq_true, not_true_eq_false]); omega) (by (try simp only [fl_row_ne, fl_ne, up_row_ne, up_ne, up_eq, up_nk, up_up, up_self, ne_eq, Nat.reduceEqDiff, Int.reduceEq, reduceCtorEq, not_false_eq_true, not_true_eq_false]); omega)) cv_X9_104 rfl rfl rfl rfl (by decide) (Nat.le_of_ble_eq_true rfl) dX9_small_55 (fun v55 s55 p55 => ?_)
      try simp only [fl_row_ne, fl_ne, up_row_ne, up_ne, up_eq, up_nk, up_up, up_self, ne_eq, Nat.reduceEqDiff, Int.reduceEq, reduceCtorEq, not_false_eq_true, not_true_eq_false] at p55
      obtain ⟨rfl, rfl⟩ := p55
      try simp only [fl_row_ne, fl_ne, up_row_ne, up_ne, up_eq, up_nk, up_up, up_self, ne_eq, Nat.reduceEqDiff, Int.reduceEq, reduceCtorEq, not_false_eq_true, not_true_eq_false]
      exact z_retI hO hR dX9_small_58 (by unfold smallF; (repeat' split) <;> first | (exfalso; omega) | (constructor <;> first | rfl | omega | simp [fl_row_ne, fl_ne, up_row_ne, up_ne, up_eq, up_nk, up_up, up_self, ne_eq, Nat.reduceEqDiff, Int.reduceEq, reduceCtorEq, not_false_eq_true, not_true_eq_false]))
    ·
      refine z_aload_n hO 0 dX9_small_28 rfl ?_
      refine z_getR hO (116) fl_X9_16 rfl rfl dX9_small_29 ?_
      refine z_aload_n hO 0 dX9_small_32 rfl ?_
      refine z_getI hO 7 fl_X9_83 rfl rfl rfl dX9_small_33 (fun r33 => ?_)
      refine z_iconst hO dX9_small_36 ?_
      refine z_iadd hO dX9_small_37 ?_
      refine z_iald hO rfl (by omega) (by decide) dX9_small_38 (fun r38 => ?_)
      refine z_bipush hO dX9_small_39 (by decide) ?_
      refine z_icmp_ne hO 48 dX9_small_41 (by decide) (by omega) (by decide) (fun c41 => ?_) (fun c41 => ?_)
      ·
        refine z_iconst hO dX9_small_48 ?_
        refine z_istore_n hO (L' := [(1, _), (0, _)]) dX9_small_49 (by decide) rfl ?_
        refine z_iload_n hO 0 dX9_small_50 rfl ?_
        refine z_if_ne hO 59 dX9_small_51 (by decide) (by decide) (fun c51 => absurd c51 (by omega)) (fun c51 => ?_)
        refine z_aload_n hO 1 dX9_small_54 rfl ?_
        refine z_cvI hO (t_X9_low (by first | exact hw | (simp only [fl_row_ne, fl_ne, up_row_ne, up_ne, up_eq, up_nk, up_up, up_self, ne_eq, Nat.reduceEqDiff, Int.reduceEq, reduceCtorEq, not_false_eq_true, not_true_eq_false]; exact hw)) (by (try simp only [fl_row_ne, fl_ne, up_row_ne, up_ne, up_eq, up_nk, up_up, up_self, ne_eq, Nat.reduceEqDiff, Int.reduceEq, reduceCtorEq, not_false_eq_true, not_true_eq_false]); omega) (by (try simp only [fl_row_ne, fl_ne, up_row_ne, up_ne, up_eq, up_nk, up_up, up_self, ne_eq, Nat.reduceEqDiff, Int.reduceEq, reduceCtorEq, not_false_eq_true, not_true_eq_false]); omega)) cv_X9_104 rfl rfl rfl rfl (by decide) (Nat.le_of_ble_eq_true rfl) dX9_small_55 (fun v55 s55 p55 => ?_)
        try simp only [fl_row_ne, fl_ne, up_row_ne, up_ne, up_eq, up_nk, up_up, up_self, ne_eq, Nat.reduceEqDiff, Int.reduceEq, reduceCtorEq, not_false_eq_true, not_true_eq_false] at p55
        obtain ⟨rfl, rfl⟩ := p55
        try simp only [fl_row_ne, fl_ne, up_row_ne, up_ne, up_eq, up_nk, up_up, up_self, ne_eq, Nat.reduceEqDiff, Int.reduceEq, reduceCtorEq, not_false_eq_true, not_true_eq_false]
        exact z_retI hO hR dX9_small_58 (by unfold smallF; (repeat' split) <;> first | (exfalso; omega) | (constructor <;> first | rfl | omega | simp [fl_row_ne, fl_ne, up_row_ne, up_ne, up_eq, up_nk, up_up, up_self, ne_eq, Nat.reduceEqDiff, Int.reduceEq, reduceCtorEq, not_false_eq_true, not_true_eq_false]))
      ·
        refine z_iconst hO dX9_small_44 ?_
        refine z_goto hO 49 dX9_small_45 (by decide) ?_
        refine z_istore_n hO (L' := [(1, _), (0, _)]) dX9_small_49 (by decide) rfl ?_
        refine z_iload_n hO 0 dX9_small_50 rfl ?_
        refine z_if_ne hO 59 dX9_small_51 (by decide) (by decide) (fun c51 => ?_) (fun c51 => absurd c51 (by omega))
        refine z_bipush hO dX9_small_59 (by decide) ?_
        refine z_aload_n hO 1 dX9_small_61 rfl ?_
        refine z_cvE hO (t_X9_wordHere (by (try simp only [fl_row_ne, fl_ne, up_row_ne, up_ne, up_eq, up_nk, up_up, up_self, ne_eq, Nat.reduceEqDiff, Int.reduceEq, reduceCtorEq, not_false_eq_true, not_true_eq_false]); omega) (by (try simp only [fl_row_ne, fl_ne, up_row_ne, up_ne, up_eq, up_nk, up_up, up_self, ne_eq, Nat.reduceEqDiff, Int.reduceEq, reduceCtorEq, not_false_eq_true, not_true_eq_false]); omega)) cv_X9_95 rfl rfl rfl rfl (by decide) (Nat.le_of_ble_eq_true rfl) dX9_small_62 ?_
        refine z_imul hO dX9_small_65 ?_
        refine z_istore_n hO (L' := [(2, _), (1, _), (0, _)]) dX9_small_66 (by decide) rfl ?_
        refine z_aload_n hO 2 dX9_small_67 rfl ?_
        refine z_dup hO dX9_small_68 rfl ?_
        refine z_getI hO 7 fl_X9_83 rfl rfl rfl dX9_small_69 (fun r69 => ?_)
        refine z_iconst hO dX9_small_72 ?_
        refine z_iadd hO dX9_small_73 ?_
        refine z_putI hO 7 fp_X9_83 rfl rfl rfl (by omega) rfl rfl dX9_small_74 ?_
        refine z_aload_n hO 2 dX9_small_77 rfl ?_
        refine z_cvI hO (t_X9_more (by first | exact hw | (simp only [fl_row_ne, fl_ne, up_row_ne, up_ne, up_eq, up_nk, up_up, up_self, ne_eq, Nat.reduceEqDiff, Int.reduceEq, reduceCtorEq, not_false_eq_true, not_true_eq_false]; exact hw)) (by (try simp only [fl_row_ne, fl_ne, up_row_ne, up_ne, up_eq, up_nk, up_up, up_self, ne_eq, Nat.reduceEqDiff, Int.reduceEq, reduceCtorEq, not_false_eq_true, not_true_eq_false]); omega) (by (try simp only [fl_row_ne, fl_ne, up_row_ne, up_ne, up_eq, up_nk, up_up, up_self, ne_eq, Nat.reduceEqDiff, Int.reduceEq, reduceCtorEq, not_false_eq_true, not_true_eq_false]); omega)) cv_X9_107 rfl rfl rfl rfl (by decide) (Nat.le_of_ble_eq_true rfl) dX9_small_78 (fun v78 s78 p78 => ?_)
        try simp only [fl_row_ne, fl_ne, up_row_ne, up_ne, up_eq, up_nk, up_up, up_self, ne_eq, Nat.reduceEqDiff, Int.reduceEq, reduceCtorEq, not_false_eq_true, not_true_eq_false] at p78
        obtain ⟨rfl, rfl⟩ := p78
        try simp only [fl_row_ne, fl_ne, up_row_ne, up_ne, up_eq, up_nk, up_up, up_self, ne_eq, Nat.reduceEqDiff, Int.reduceEq, reduceCtorEq, not_false_eq_true, not_true_eq_false]
        refine z_istore_n hO (L' := [(3, _), (2, _), (1, _), (0, _)]) dX9_small_81 (by decide) rfl ?_
        refine z_iload_n hO 0 dX9_small_82 rfl ?_
        refine z_if_ge hO 91 dX9_small_83 (by decide) (by omega) (fun c83 => ?_) (fun c83 => ?_)
        ·
          refine z_iload_n hO 1 dX9_small_91 rfl ?_
          refine z_iload_n hO 0 dX9_small_92 rfl ?_
          refine z_iadd hO dX9_small_93 ?_
          exact z_retI hO hR dX9_small_94 (by unfold smallF; (repeat' split) <;> first | (exfalso; omega) | (constructor <;> first | rfl | omega | simp [fl_row_ne, fl_ne, up_row_ne, up_ne, up_eq, up_nk, up_up, up_self, ne_eq, Nat.reduceEqDiff, Int.reduceEq, reduceCtorEq, not_false_eq_true, not_true_eq_false]))
        ·
          refine z_bipush hO dX9_small_86 (by decide) ?_
          refine z_goto hO 94 dX9_small_88 (by decide) ?_
          exact z_retI hO hR dX9_small_94 (by unfold smallF; (repeat' split) <;> first | (exfalso; omega) | (constructor <;> first | rfl | omega | simp [fl_row_ne, fl_ne, up_row_ne, up_ne, up_eq, up_nk, up_up, up_self, ne_eq, Nat.reduceEqDiff, Int.reduceEq, reduceCtorEq, not_false_eq_true, not_true_eq_false]))
  ·
    refine z_if_eq hO 48 dX9_small_12 (by decide) (by decide) (fun c12 => ?_) (fun c12 => absurd c12 (by omega))
    refine z_iconst hO dX9_small_48 ?_
    refine z_istore_n hO (L' := [(1, _), (0, _)]) dX9_small_49 (by decide) rfl ?_
    refine z_iload_n hO 0 dX9_small_50 rfl ?_
    refine z_if_ne hO 59 dX9_small_51 (by decide) (by decide) (fun c51 => absurd c51 (by omega)) (fun c51 => ?_)
    refine z_aload_n hO 1 dX9_small_54 rfl ?_
    refine z_cvI hO (t_X9_low (by first | exact hw | (simp only [fl_row_ne, fl_ne, up_row_ne, up_ne, up_eq, up_nk, up_up, up_self, ne_eq, Nat.reduceEqDiff, Int.reduceEq, reduceCtorEq, not_false_eq_true, not_true_eq_false]; exact hw)) (by (try simp only [fl_row_ne, fl_ne, up_row_ne, up_ne, up_eq, up_nk, up_up, up_self, ne_eq, Nat.reduceEqDiff, Int.reduceEq, reduceCtorEq, not_false_eq_true, not_true_eq_false]); omega) (by (try simp only [fl_row_ne, fl_ne, up_row_ne, up_ne, up_eq, up_nk, up_up, up_self, ne_eq, Nat.reduceEqDiff, Int.reduceEq, reduceCtorEq, not_false_eq_true, not_true_eq_false]); omega)) cv_X9_104 rfl rfl rfl rfl (by decide) (Nat.le_of_ble_eq_true rfl) dX9_small_55 (fun v55 s55 p55 => ?_)
    try simp only [fl_row_ne, fl_ne, up_row_ne, up_ne, up_eq, up_nk, up_up, up_self, ne_eq, Nat.reduceEqDiff, Int.reduceEq, reduceCtorEq, not_false_eq_true, not_true_eq_false] at p55
    obtain ⟨rfl, rfl⟩ := p55
    try simp only [fl_row_ne, fl_ne, up_row_ne, up_ne, up_eq, up_nk, up_up, up_self, ne_eq, Nat.reduceEqDiff, Int.reduceEq, reduceCtorEq, not_false_eq_true, not_true_eq_false]
    exact z_retI hO hR dX9_small_58 (by unfold smallF; (repeat' split) <;> first | (exfalso; omega) | (constructor <;> first | rfl | omega | simp [fl_row_ne, fl_ne, up_row_ne, up_ne, up_eq, up_nk, up_up, up_self, ne_eq, Nat.reduceEqDiff, Int.reduceEq, reduceCtorEq, not_false_eq_true, not_true_eq_false]))

set_option maxHeartbeats 4000000 in
set_option maxRecDepth 100000 in
theorem t_X9_number {g : G} {σ : Sg} (hw : PF (wh (σ 116) (σ 113 3)) (σ 113 3)) (h0 : 0 ≤ σ 113 7) (h1 : σ 113 7 ≤ σ 113 3) : MM g mX9_number [.ref (g.2.2.1 113)] σ (pI (fun r σ' => r = (numF (wh (σ 116) (σ 113 3)) (σ 113 7)).1 ∧ σ' = up σ 113 7 (numF (wh (σ 116) (σ 113 3)) (σ 113 7)).2)) := by
  refine mm_of rfl (by decide) rfl rfl (Nat.le_of_ble_eq_true rfl) (fun x hO hR => ?_)
  have hA := hw.1
  have hB := hw.2.1
  have hC := hw.r (σ 113 7)
  have hE := smallF_r hw h0 h1
  have hD := hw.r (smallF (wh (σ 116) (σ 113 3)) (σ 113 7)).2
  have hD2 := hw.r ((smallF (wh (σ 116) (σ 113 3)) (σ 113 7)).2 + 1)
  have hF : wh (σ 116) (σ 113 3) (smallF (wh (σ 116) (σ 113 3)) (σ 113 7)).2 = 29 → (smallF (wh (σ 116) (σ 113 3)) (σ 113 7)).2 + 1 ≤ σ 113 3 := fun q => by have := hw.lt (i := (smallF (wh (σ 116) (σ 113 3)) (σ 113 7)).2) (by omega); omega
  have hG : wh (σ 116) (σ 113 3) (smallF (wh (σ 116) (σ 113 3)) (σ 113 7)).2 = 29 → _ := fun q => moreF_r hw (i := (smallF (wh (σ 116) (σ 113 3)) (σ 113 7)).2 + 1) (by omega) (hF q)
  have hH : wh (σ 116) (σ 113 3) (smallF (wh (σ 116) (σ 113 3)) (σ 113 7)).2 = 29 → _ := fun q => smallF_r hw (i := (smallF (wh (σ 116) (σ 113 3)) (σ 113 7)).2 + 1) (by omega) (hF q)
  refine z_aload_n hO 0 dX9_number_0 rfl ?_
  refine z_cvI hO (t_X9_small (by first | exact hw | (simp only [fl_row_ne, fl_ne, up_row_ne, up_ne, up_eq, up_nk, up_up, up_self, ne_eq, Nat.reduceEqDiff, Int.reduceEq, reduceCtorEq, not_false_eq_true, not_true_eq_false]; exact hw)) (by (try simp only [fl_row_ne, fl_ne, up_row_ne, up_ne, up_eq, up_nk, up_up, up_self, ne_eq, Nat.reduceEqDiff, Int.reduceEq, reduceCtorEq, not_false_eq_true, not_true_eq_false]); omega) (by (try simp only [fl_row_ne, fl_ne, up_row_ne, up_ne, up_eq, up_nk, up_up, up_self, ne_eq, Nat.reduceEqDiff, Int.reduceEq, reduceCtorEq, not_false_eq_true, not_true_eq_false]); omega)) cv_X9_110 rfl rfl rfl rfl (by decide) (Nat.le_of_ble_eq_true rfl) dX9_number_1 (fun v1 s1 p1 => ?_)
  try simp only [fl_row_ne, fl_ne, up_row_ne, up_ne, up_eq, up_nk, up_up, up_self, ne_eq, Nat.reduceEqDiff, Int.reduceEq, reduceCtorEq, not_false_eq_true, not_true_eq_false] at p1
  obtain ⟨rfl, rfl⟩ := p1
  try simp only [fl_row_ne, fl_ne, up_row_ne, up_ne, up_eq, up_nk, up_up, up_self, ne_eq, Nat.reduceEqDiff, Int.reduceEq, reduceCtorEq, not_false_eq_true, not_true_eq_false]
  refine z_istore_n hO (L' := [(1, _), (0, _)]) dX9_number_4 (by decide) rfl ?_
  refine z_iload_n hO 0 dX9_number_5 rfl ?_
  refine z_if_le hO 18 dX9_number_6 (by decide) (by omega) (fun c6 => ?_) (fun c6 => ?_)
  ·
    refine z_iload_n hO 0 dX9_number_18 rfl ?_
    exact z_retI hO hR dX9_number_19 (by unfold numF restF; (repeat' split) <;> first | (exfalso; omega) | (constructor <;> first | rfl | omega | simp [fl_row_ne, fl_ne, up_row_ne, up_ne, up_eq, up_nk, up_up, up_self, ne_eq, Nat.reduceEqDiff, Int.reduceEq, reduceCtorEq, not_false_eq_true, not_true_eq_false]))
  ·
    refine z_aload_n hO 1 dX9_number_9 rfl ?_
    refine z_cvE hO (t_X9_wordHere (by (try simp only [fl_row_ne, fl_ne, up_row_ne, up_ne, up_eq, up_nk, up_up, up_self, ne_eq, Nat.reduceEqDiff, Int.reduceEq, reduceCtorEq, not_false_eq_true, not_true_eq_false]); omega) (by (try simp only [fl_row_ne, fl_ne, up_row_ne, up_ne, up_eq, up_nk, up_up, up_self, ne_eq, Nat.reduceEqDiff, Int.reduceEq, reduceCtorEq, not_false_eq_true, not_true_eq_false]); omega)) cv_X9_95 rfl rfl rfl rfl (by decide) (Nat.le_of_ble_eq_true rfl) dX9_number_10 ?_
    try simp only [fl_row_ne, fl_ne, up_row_ne, up_ne, up_eq, up_nk, up_up, up_self, ne_eq, Nat.reduceEqDiff, Int.reduceEq, reduceCtorEq, not_false_eq_true, not_true_eq_false]
    refine z_bipush hO dX9_number_13 (by decide) ?_
    refine z_icmp_eq hO 20 dX9_number_15 (by decide) (by omega) (by decide) (fun c15 => ?_) (fun c15 => ?_)
    ·
      refine z_aload_n hO 1 dX9_number_20 rfl ?_
      refine z_dup hO dX9_number_21 rfl ?_
      refine z_getI hO 7 fl_X9_83 rfl rfl rfl dX9_number_22 (fun r22 => ?_)
      try simp only [fl_row_ne, fl_ne, up_row_ne, up_ne, up_eq, up_nk, up_up, up_self, ne_eq, Nat.reduceEqDiff, Int.reduceEq, reduceCtorEq, not_false_eq_true, not_true_eq_false] at r22 ⊢
      refine z_iconst hO dX9_number_25 ?_
      refine z_iadd hO dX9_number_26 ?_
      refine z_putI hO 7 fp_X9_83 rfl rfl rfl (by omega) rfl rfl dX9_number_27 ?_
      refine z_aload_n hO 1 dX9_number_30 rfl ?_
      refine z_cvE hO (t_X9_wordHere (by (try simp only [fl_row_ne, fl_ne, up_row_ne, up_ne, up_eq, up_nk, up_up, up_self, ne_eq, Nat.reduceEqDiff, Int.reduceEq, reduceCtorEq, not_false_eq_true, not_true_eq_false]); omega) (by (try simp only [fl_row_ne, fl_ne, up_row_ne, up_ne, up_eq, up_nk, up_up, up_self, ne_eq, Nat.reduceEqDiff, Int.reduceEq, reduceCtorEq, not_false_eq_true, not_true_eq_false]); omega)) cv_X9_95 rfl rfl rfl rfl (by decide) (Nat.le_of_ble_eq_true rfl) dX9_number_31 ?_
      try simp only [fl_row_ne, fl_ne, up_row_ne, up_ne, up_eq, up_nk, up_up, up_self, ne_eq, Nat.reduceEqDiff, Int.reduceEq, reduceCtorEq, not_false_eq_true, not_true_eq_false]
      refine z_bipush hO dX9_number_34 (by decide) ?_
      refine z_icmp_ne hO 46 dX9_number_36 (by decide) (by omega) (by decide) (fun c36 => ?_) (fun c36 => ?_)
      ·
        refine z_aload_n hO 1 dX9_number_46 rfl ?_
        refine z_cvI hO (t_X9_small (by first | exact hw | (simp only [fl_row_ne, fl_ne, up_row_ne, up_ne, up_eq, up_nk, up_up, up_self, ne_eq, Nat.reduceEqDiff, Int.reduceEq, reduceCtorEq, not_false_eq_true, not_true_eq_false]; exact hw)) (by (try simp only [fl_row_ne, fl_ne, up_row_ne, up_ne, up_eq, up_nk, up_up, up_self, ne_eq, Nat.reduceEqDiff, Int.reduceEq, reduceCtorEq, not_false_eq_true, not_true_eq_false]); omega) (by (try simp only [fl_row_ne, fl_ne, up_row_ne, up_ne, up_eq, up_nk, up_up, up_self, ne_eq, Nat.reduceEqDiff, Int.reduceEq, reduceCtorEq, not_false_eq_true, not_true_eq_false]); omega)) cv_X9_110 rfl rfl rfl rfl (by decide) (Nat.le_of_ble_eq_true rfl) dX9_number_47 (fun v47 s47 p47 => ?_)
        try simp only [fl_row_ne, fl_ne, up_row_ne, up_ne, up_eq, up_nk, up_up, up_self, ne_eq, Nat.reduceEqDiff, Int.reduceEq, reduceCtorEq, not_false_eq_true, not_true_eq_false] at p47
        obtain ⟨rfl, rfl⟩ := p47
        try simp only [fl_row_ne, fl_ne, up_row_ne, up_ne, up_eq, up_nk, up_up, up_self, ne_eq, Nat.reduceEqDiff, Int.reduceEq, reduceCtorEq, not_false_eq_true, not_true_eq_false]
        refine z_istore_n hO (L' := [(2, _), (1, _), (0, _)]) dX9_number_50 (by decide) rfl ?_
        refine z_iload_n hO 0 dX9_number_51 rfl ?_
        refine z_if_ge hO 60 dX9_number_52 (by decide) (by omega) (fun c52 => ?_) (fun c52 => ?_)
        ·
          refine z_sipush hO dX9_number_60 (by decide) ?_
          refine z_iload_n hO 1 dX9_number_63 rfl ?_
          refine z_imul hO dX9_number_64 ?_
          refine z_iload_n hO 0 dX9_number_65 rfl ?_
          refine z_iadd hO dX9_number_66 ?_
          exact z_retI hO hR dX9_number_67 (by unfold numF restF; (repeat' split) <;> first | (exfalso; omega) | (constructor <;> first | rfl | omega | simp [fl_row_ne, fl_ne, up_row_ne, up_ne, up_eq, up_nk, up_up, up_self, ne_eq, Nat.reduceEqDiff, Int.reduceEq, reduceCtorEq, not_false_eq_true, not_true_eq_false]))
        ·
          refine z_bipush hO dX9_number_55 (by decide) ?_
          refine z_goto hO 67 dX9_number_57 (by decide) ?_
          exact z_retI hO hR dX9_number_67 (by unfold numF restF; (repeat' split) <;> first | (exfalso; omega) | (constructor <;> first | rfl | omega | simp [fl_row_ne, fl_ne, up_row_ne, up_ne, up_eq, up_nk, up_up, up_self, ne_eq, Nat.reduceEqDiff, Int.reduceEq, reduceCtorEq, not_false_eq_true, not_true_eq_false]))
      ·
        refine z_aload_n hO 1 dX9_number_39 rfl ?_
        refine z_cvI hO (t_X9_more (by first | exact hw | (simp only [fl_row_ne, fl_ne, up_row_ne, up_ne, up_eq, up_nk, up_up, up_self, ne_eq, Nat.reduceEqDiff, Int.reduceEq, reduceCtorEq, not_false_eq_true, not_true_eq_false]; exact hw)) (by (try simp only [fl_row_ne, fl_ne, up_row_ne, up_ne, up_eq, up_nk, up_up, up_self, ne_eq, Nat.reduceEqDiff, Int.reduceEq, reduceCtorEq, not_false_eq_true, not_true_eq_false]); omega) (by (try simp only [fl_row_ne, fl_ne, up_row_ne, up_ne, up_eq, up_nk, up_up, up_self, ne_eq, Nat.reduceEqDiff, Int.reduceEq, reduceCtorEq, not_false_eq_true, not_true_eq_false]); omega)) cv_X9_107 rfl rfl rfl rfl (by decide) (Nat.le_of_ble_eq_true rfl) dX9_number_40 (fun v40 s40 p40 => ?_)
        try simp only [fl_row_ne, fl_ne, up_row_ne, up_ne, up_eq, up_nk, up_up, up_self, ne_eq, Nat.reduceEqDiff, Int.reduceEq, reduceCtorEq, not_false_eq_true, not_true_eq_false] at p40
        obtain ⟨rfl, rfl⟩ := p40
        try simp only [fl_row_ne, fl_ne, up_row_ne, up_ne, up_eq, up_nk, up_up, up_self, ne_eq, Nat.reduceEqDiff, Int.reduceEq, reduceCtorEq, not_false_eq_true, not_true_eq_false]
        refine z_goto hO 50 dX9_number_43 (by decide) ?_
        refine z_istore_n hO (L' := [(2, _), (1, _), (0, _)]) dX9_number_50 (by decide) rfl ?_
        refine z_iload_n hO 0 dX9_number_51 rfl ?_
        refine z_if_ge hO 60 dX9_number_52 (by decide) (by omega) (fun c52 => ?_) (fun c52 => ?_)
        ·
          refine z_sipush hO dX9_number_60 (by decide) ?_
          refine z_iload_n hO 1 dX9_number_63 rfl ?_
          refine z_imul hO dX9_number_64 ?_
          refine z_iload_n hO 0 dX9_number_65 rfl ?_
          refine z_iadd hO dX9_number_66 ?_
          exact z_retI hO hR dX9_number_67 (by unfold numF restF; (repeat' split) <;> first | (exfalso; omega) | (constructor <;> first | rfl | omega | simp [fl_row_ne, fl_ne, up_row_ne, up_ne, up_eq, up_nk, up_up, up_self, ne_eq, Nat.reduceEqDiff, Int.reduceEq, reduceCtorEq, not_false_eq_true, not_true_eq_false]))
        ·
          refine z_bipush hO dX9_number_55 (by decide) ?_
          refine z_goto hO 67 dX9_number_57 (by decide) ?_
          exact z_retI hO hR dX9_number_67 (by unfold numF restF; (repeat' split) <;> first | (exfalso; omega) | (constructor <;> first | rfl | omega | simp [fl_row_ne, fl_ne, up_row_ne, up_ne, up_eq, up_nk, up_up, up_self, ne_eq, Nat.reduceEqDiff, Int.reduceEq, reduceCtorEq, not_false_eq_true, not_true_eq_false]))
    ·
      refine z_iload_n hO 0 dX9_number_18 rfl ?_
      exact z_retI hO hR dX9_number_19 (by unfold numF restF; (repeat' split) <;> first | (exfalso; omega) | (constructor <;> first | rfl | omega | simp [fl_row_ne, fl_ne, up_row_ne, up_ne, up_eq, up_nk, up_up, up_self, ne_eq, Nat.reduceEqDiff, Int.reduceEq, reduceCtorEq, not_false_eq_true, not_true_eq_false]))
