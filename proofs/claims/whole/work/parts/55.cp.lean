def undS (σ : Sg) : Sg := fgtS (keepS σ)
theorem keep1_ne {σ : Sg} {c : Nat} {k : Int} (h : c ≠ 13) : keep1 σ c k = σ c k := by
  unfold keep1; split
  · rw [up_ne h, up_ne h]
  · rfl
theorem undS_1 {σ : Sg} {c : Nat} {k : Int} (h : c < 13) : undS σ c k = σ c k := by
  unfold undS fgtS keepS; rw [up_ne (by omega), up_ne (by omega), up_ne (by omega), up_ne (by omega), tkS_ne (by omega), keep1_ne (by omega)]

set_option maxHeartbeats 4000000 in
set_option maxRecDepth 100000 in
theorem t_X8_seed {g : G} {σ : Sg} {v : Int} (rv : -2147483648 ≤ v ∧ v ≤ 2147483647) : MM g mX8_seed [.ref (g.2.2.1 0), vI v] σ (pI (fun r σ' => (r, σ') = if v < 0 then (-1, σ) else (σ 1 6, up σ 1 6 v))) := by
  refine mm_of rfl (by decide) rfl rfl (Nat.le_of_ble_eq_true rfl) (fun x hO hR => ?_)
  refine z_iload_n hO 1 dX8_seed_0 rfl ?_
  refine z_if_ge hO 6 dX8_seed_1 (by decide) (by omega) (fun c1 => ?_) (fun c1 => ?_)
  ·
    refine z_aload_n hO 0 dX8_seed_6 rfl ?_
    refine z_getR hO (1) fl_X8_12 rfl rfl dX8_seed_7 ?_
    refine z_getI hO 6 fl_X8_163 rfl rfl rfl dX8_seed_10 (fun r10 => ?_)
    refine z_istore_n hO (L' := [(2, _), (0, _), (1, _)]) dX8_seed_13 (by decide) rfl ?_
    refine z_aload_n hO 1 dX8_seed_14 rfl ?_
    refine z_getR hO (1) fl_X8_12 rfl rfl dX8_seed_15 ?_
    refine z_iload_n hO 2 dX8_seed_18 rfl ?_
    refine z_putI hO 6 fp_X8_163 rfl rfl rfl (by omega) rfl rfl dX8_seed_19 ?_
    refine z_iload_n hO 0 dX8_seed_22 rfl ?_
    exact z_retI hO hR dX8_seed_23 (by (repeat' split) <;> first | rfl | (exfalso; omega))
  ·
    refine z_iconst hO dX8_seed_4 ?_
    exact z_retI hO hR dX8_seed_5 (by (repeat' split) <;> first | rfl | (exfalso; omega))

set_option maxHeartbeats 4000000 in
set_option maxRecDepth 100000 in
theorem t_X8_check {g : G} {σ : Sg} {v : Int} (rv : -2147483648 ≤ v ∧ v ≤ 2147483647) (h1 : 0 ≤ σ 13 1 ∧ σ 13 1 ≤ 7) (h2 : 0 ≤ σ 13 2 ∧ σ 13 2 ≤ 8) : MM g mX8_check [.ref (g.2.2.1 0), vI v] σ (pI (fun r σ' => (r, σ') = if ¬ (0 ≤ v ∧ v ≤ 4) then (-1, σ) else if σ 1 4 = v then (-2, σ) else (σ 1 4, up (undS σ) 1 4 v))) := by
  refine mm_of rfl (by decide) rfl rfl (Nat.le_of_ble_eq_true rfl) (fun x hO hR => ?_)
  refine z_iload_n hO 1 dX8_check_0 rfl ?_
  refine z_if_lt hO 9 dX8_check_1 (by decide) (by omega) (fun c1 => ?_) (fun c1 => ?_)
  ·
    refine z_iconst hO dX8_check_9 ?_
    exact z_retI hO hR dX8_check_10 (by (repeat' split) <;> first | rfl | (exfalso; omega))
  ·
    refine z_iload_n hO 1 dX8_check_4 rfl ?_
    refine z_iconst hO dX8_check_5 ?_
    refine z_icmp_lt hO 11 dX8_check_6 (by decide) (by omega) (by decide) (fun c6 => ?_) (fun c6 => ?_)
    ·
      refine z_aload_n hO 0 dX8_check_11 rfl ?_
      refine z_getR hO (1) fl_X8_12 rfl rfl dX8_check_12 ?_
      refine z_getI hO 4 fl_X8_92 rfl rfl rfl dX8_check_15 (fun r15 => ?_)
      refine z_istore_n hO (L' := [(2, _), (0, _), (1, _)]) dX8_check_18 (by decide) rfl ?_
      refine z_iload_n hO 0 dX8_check_19 rfl ?_
      refine z_iload_n hO 2 dX8_check_20 rfl ?_
      refine z_icmp_ne hO 27 dX8_check_21 (by decide) (by omega) (by omega) (fun c21 => ?_) (fun c21 => ?_)
      ·
        refine z_aload_n hO 1 dX8_check_27 rfl ?_
        refine z_cvV hO (t_X8_keepForUndo h1 h2) cv_X8_128 rfl rfl rfl rfl (by decide) (Nat.le_of_ble_eq_true rfl) dX8_check_28 (fun s28 p28 => ?_)
        rw [show s28 = undS σ from p28]
        refine z_aload_n hO 1 dX8_check_31 rfl ?_
        refine z_getR hO (1) fl_X8_12 rfl rfl dX8_check_32 ?_
        refine z_iload_n hO 2 dX8_check_35 rfl ?_
        refine z_putI hO 4 fp_X8_92 rfl rfl rfl (by omega) rfl rfl dX8_check_36 ?_
        refine z_iload_n hO 0 dX8_check_39 rfl ?_
        exact z_retI hO hR dX8_check_40 (by (repeat' split) <;> first | rfl | (exfalso; omega))
      ·
        refine z_bipush hO dX8_check_24 (by decide) ?_
        exact z_retI hO hR dX8_check_26 (by (repeat' split) <;> first | rfl | (exfalso; omega))
    ·
      refine z_iconst hO dX8_check_9 ?_
      exact z_retI hO hR dX8_check_10 (by (repeat' split) <;> first | rfl | (exfalso; omega))

set_option maxHeartbeats 4000000 in
set_option maxRecDepth 100000 in
theorem t_X8_slack {g : G} {σ : Sg} {v : Int} (rv : -2147483648 ≤ v ∧ v ≤ 2147483647) (h1 : 0 ≤ σ 13 1 ∧ σ 13 1 ≤ 7) (h2 : 0 ≤ σ 13 2 ∧ σ 13 2 ≤ 8) : MM g mX8_slack [.ref (g.2.2.1 0), vI v] σ (pI (fun r σ' => (r, σ') = if ¬ (0 ≤ v ∧ v ≤ 20) then (-1, σ) else if σ 1 5 = v then (-2, σ) else (σ 1 5, up (undS σ) 1 5 v))) := by
  refine mm_of rfl (by decide) rfl rfl (Nat.le_of_ble_eq_true rfl) (fun x hO hR => ?_)
  refine z_iload_n hO 1 dX8_slack_0 rfl ?_
  refine z_if_lt hO 10 dX8_slack_1 (by decide) (by omega) (fun c1 => ?_) (fun c1 => ?_)
  ·
    refine z_iconst hO dX8_slack_10 ?_
    exact z_retI hO hR dX8_slack_11 (by (repeat' split) <;> first | rfl | (exfalso; omega))
  ·
    refine z_iload_n hO 1 dX8_slack_4 rfl ?_
    refine z_bipush hO dX8_slack_5 (by decide) ?_
    refine z_icmp_le hO 12 dX8_slack_7 (by decide) (by omega) (by decide) (fun c7 => ?_) (fun c7 => ?_)
    ·
      refine z_aload_n hO 0 dX8_slack_12 rfl ?_
      refine z_getR hO (1) fl_X8_12 rfl rfl dX8_slack_13 ?_
      refine z_getI hO 5 fl_X8_95 rfl rfl rfl dX8_slack_16 (fun r16 => ?_)
      refine z_istore_n hO (L' := [(2, _), (0, _), (1, _)]) dX8_slack_19 (by decide) rfl ?_
      refine z_iload_n hO 0 dX8_slack_20 rfl ?_
      refine z_iload_n hO 2 dX8_slack_21 rfl ?_
      refine z_icmp_ne hO 28 dX8_slack_22 (by decide) (by omega) (by omega) (fun c22 => ?_) (fun c22 => ?_)
      ·
        refine z_aload_n hO 1 dX8_slack_28 rfl ?_
        refine z_cvV hO (t_X8_keepForUndo h1 h2) cv_X8_128 rfl rfl rfl rfl (by decide) (Nat.le_of_ble_eq_true rfl) dX8_slack_29 (fun s29 p29 => ?_)
        rw [show s29 = undS σ from p29]
        refine z_aload_n hO 1 dX8_slack_32 rfl ?_
        refine z_getR hO (1) fl_X8_12 rfl rfl dX8_slack_33 ?_
        refine z_iload_n hO 2 dX8_slack_36 rfl ?_
        refine z_putI hO 5 fp_X8_95 rfl rfl rfl (by omega) rfl rfl dX8_slack_37 ?_
        refine z_iload_n hO 0 dX8_slack_40 rfl ?_
        exact z_retI hO hR dX8_slack_41 (by (repeat' split) <;> first | rfl | (exfalso; omega))
      ·
        refine z_bipush hO dX8_slack_25 (by decide) ?_
        exact z_retI hO hR dX8_slack_27 (by (repeat' split) <;> first | rfl | (exfalso; omega))
    ·
      refine z_iconst hO dX8_slack_10 ?_
      exact z_retI hO hR dX8_slack_11 (by (repeat' split) <;> first | rfl | (exfalso; omega))

set_option maxHeartbeats 4000000 in
set_option maxRecDepth 100000 in
theorem t_X8_type {g : G} {σ : Sg} {l : Int} (rl : -2147483648 ≤ l ∧ l ≤ 2147483647) (hn : 0 ≤ σ 81 1 ∧ σ 81 1 ≤ 120) : MM g mX8_type [.ref (g.2.2.1 0), vI l] σ (pI (fun r σ' => (r, σ') = if ¬ (32 ≤ l ∧ l ≤ 126) then (-1, σ) else if σ 81 1 = 120 then (-3, σ) else (σ 81 1 + 1, up (up σ 82 (σ 81 1) l) 81 1 (σ 81 1 + 1)))) := by
  refine mm_of rfl (by decide) rfl rfl (Nat.le_of_ble_eq_true rfl) (fun x hO hR => ?_)
  refine z_iload_n hO 1 dX8_type_0 rfl ?_
  refine z_bipush hO dX8_type_1 (by decide) ?_
  refine z_icmp_lt hO 12 dX8_type_3 (by decide) (by omega) (by decide) (fun c3 => ?_) (fun c3 => ?_)
  ·
    refine z_iconst hO dX8_type_12 ?_
    exact z_retI hO hR dX8_type_13 (by (repeat' split) <;> first | rfl | (exfalso; omega))
  ·
    refine z_iload_n hO 1 dX8_type_6 rfl ?_
    refine z_bipush hO dX8_type_7 (by decide) ?_
    refine z_icmp_le hO 14 dX8_type_9 (by decide) (by omega) (by decide) (fun c9 => ?_) (fun c9 => ?_)
    ·
      refine z_aload_n hO 0 dX8_type_14 rfl ?_
      refine z_getR hO (81) fl_X8_35 rfl rfl dX8_type_15 ?_
      refine z_iload_n hO 1 dX8_type_18 rfl ?_
      refine z_i2c hO dX8_type_19 (by omega) ?_
      refine z_cvB hO (t_X4_write (by omega) hn) cv_X8_55 rfl rfl rfl rfl (by decide) (Nat.le_of_ble_eq_true rfl) dX8_type_20 (fun s20 p20 => ?_) (fun s20 p20 => ?_)
      ·
        obtain ⟨k20, rfl⟩ := p20.1 rfl
        refine z_if_eq hO 36 dX8_type_23 (by decide) (by decide) (fun c23 => absurd c23 (by omega)) (fun c23 => ?_)
        refine z_aload_n hO 0 dX8_type_26 rfl ?_
        refine z_getR hO (81) fl_X8_35 rfl rfl dX8_type_27 ?_
        refine z_getI hO 1 fl_X8_59 rfl rfl rfl dX8_type_30 (fun r30 => ?_)
        try simp only [fl_row_ne, fl_ne, up_row_ne, up_ne, up_eq, up_nk, up_up, up_self, ne_eq, Nat.reduceEqDiff, Int.reduceEq, reduceCtorEq, not_false_eq_true, not_true_eq_false] at r30 ⊢
        refine z_goto hO 38 dX8_type_33 (by decide) ?_
        exact z_retI hO hR dX8_type_38 (by (repeat' split) <;> first | rfl | (exfalso; omega))
      ·
        obtain ⟨k20, e20⟩ := p20.2 rfl
        rw [e20]
        refine z_if_eq hO 36 dX8_type_23 (by decide) (by decide) (fun c23 => ?_) (fun c23 => absurd c23 (by omega))
        refine z_bipush hO dX8_type_36 (by decide) ?_
        exact z_retI hO hR dX8_type_38 (by (repeat' split) <;> first | rfl | (exfalso; omega))
    ·
      refine z_iconst hO dX8_type_12 ?_
      exact z_retI hO hR dX8_type_13 (by (repeat' split) <;> first | rfl | (exfalso; omega))

set_option maxHeartbeats 4000000 in
set_option maxRecDepth 100000 in
theorem t_X8_undo {g : G} {σ : Sg} (h1 : 0 ≤ σ 13 1 ∧ σ 13 1 ≤ 7) (h2 : 0 ≤ σ 13 2 ∧ σ 13 2 ≤ 8) : MM g mX8_undo [.ref (g.2.2.1 0)] σ (pI (fun r σ' => (r, σ') = if σ 13 2 = 0 then (-4, σ) else (σ 13 2 - 1, fgtS (backS σ)))) := by
  refine mm_of rfl (by decide) rfl rfl (Nat.le_of_ble_eq_true rfl) (fun x hO hR => ?_)
  refine z_aload_n hO 0 dX8_undo_0 rfl ?_
  refine z_getR hO (13) fl_X8_22 rfl rfl dX8_undo_1 ?_
  refine z_getI hO 2 fl_X8_119 rfl rfl rfl dX8_undo_4 (fun r4 => ?_)
  refine z_if_ne hO 13 dX8_undo_7 (by decide) (by omega) (fun c7 => ?_) (fun c7 => ?_)
  ·
    refine z_aload_n hO 0 dX8_undo_13 rfl ?_
    refine z_getR hO (13) fl_X8_22 rfl rfl dX8_undo_14 ?_
    refine z_aload_n hO 0 dX8_undo_17 rfl ?_
    refine z_getR hO (1) fl_X8_12 rfl rfl dX8_undo_18 ?_
    refine z_cvV hO (t_X3_giveBack h1 h2) cv_X8_157 rfl rfl rfl rfl (by decide) (Nat.le_of_ble_eq_true rfl) dX8_undo_21 (fun s21 p21 => ?_)
    subst p21
    refine z_aload_n hO 0 dX8_undo_24 rfl ?_
    refine z_getR hO (83) fl_X8_44 rfl rfl dX8_undo_25 ?_
    refine z_cvV hO (t_X6_forget) cv_X8_160 rfl rfl rfl rfl (by decide) (Nat.le_of_ble_eq_true rfl) dX8_undo_28 (fun s28 p28 => ?_)
    subst p28
    refine z_aload_n hO 0 dX8_undo_31 rfl ?_
    refine z_getR hO (13) fl_X8_22 rfl rfl dX8_undo_32 ?_
    refine z_getI hO 2 fl_X8_119 rfl rfl rfl dX8_undo_35 (fun r35 => ?_)
    rw [show fgtS (backS σ) 13 2 = σ 13 2 - 1 by unfold fgtS backS; rw [if_pos (by omega), up_ne (by decide), up_ne (by decide), up_ne (by decide), tkS_ne (by omega), up_eq]] at r35 ⊢
    exact z_retI hO hR dX8_undo_38 (by (repeat' split) <;> first | rfl | (exfalso; omega))
  ·
    refine z_bipush hO dX8_undo_10 (by decide) ?_
    exact z_retI hO hR dX8_undo_12 (by (repeat' split) <;> first | rfl | (exfalso; omega))
