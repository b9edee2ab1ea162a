/-- what is now is noted ahead of a change -/
def note1 (σ : Sg) : Sg := if σ 113 29 = 8 then up (fl σ 127 0 (0 + (608 - 76)) (fun k => σ 127 (k + 76))) 113 29 7 else σ
def noteS (σ : Sg) : Sg := up (fl (note1 σ) 127 (76 * note1 σ 113 29) (76 * note1 σ 113 29 + (76 - 0)) (fun k => note1 σ 114 (k - 76 * note1 σ 113 29))) 113 29 (note1 σ 113 29 + 1)
theorem note1_ne {σ : Sg} {c : Nat} {k : Int} (h : c ≠ 127 ∧ (c ≠ 113 ∨ k ≠ 29)) : note1 σ c k = σ c k := by
  unfold note1; split
  · rcases h.2 with q | q
    · rw [up_ne q, fl_ne h.1]
    · rw [up_nk q, fl_ne h.1]
  · rfl
theorem noteS_ne {σ : Sg} {c : Nat} {k : Int} (h : c ≠ 127 ∧ (c ≠ 113 ∨ k ≠ 29)) : noteS σ c k = σ c k := by
  unfold noteS
  rcases h.2 with q | q
  · rw [up_ne q, fl_ne h.1, note1_ne h]
  · rw [up_nk q, fl_ne h.1, note1_ne h]
theorem noteS_row {σ : Sg} {c : Nat} (h : c ≠ 127) (h2 : c ≠ 113) : noteS σ c = σ c := funext fun _ => noteS_ne ⟨h, Or.inl h2⟩

set_option maxHeartbeats 4000000 in
set_option maxRecDepth 100000 in
theorem t_X9_notes {g : G} {σ : Sg} (hu : 0 ≤ σ 113 29 ∧ σ 113 29 ≤ 8) : MM g mX9_notes [.ref (g.2.2.1 113)] σ (pV (fun σ' => σ' = noteS σ)) := by
  refine mm_of rfl (by decide) rfl rfl (Nat.le_of_ble_eq_true rfl) (fun x hO hR => ?_)
  have hu1 : 0 ≤ note1 σ 113 29 ∧ note1 σ 113 29 ≤ 7 := by
    unfold note1; split
    · simp only [up_eq]; omega
    · omega
  refine z_aload_n hO 0 dX9_notes_0 rfl ?_
  refine z_getI hO 29 fl_X9_192 rfl rfl rfl dX9_notes_1 (fun r1 => ?_)
  refine z_bipush hO dX9_notes_4 (by decide) ?_
  refine z_icmp_ne hO 46 dX9_notes_6 (by decide) (by omega) (by decide) (fun c6 => ?_) (fun c6 => ?_)
  ·
    have e1 : note1 σ = σ := by unfold note1; rw [if_neg c6]
    refine z_iconst hO dX9_notes_46 ?_
    refine z_istore_n hO (L' := [(1, _), (0, _)]) dX9_notes_47 (by decide) rfl ?_
    refine z_sg e1.symm ?_
    refine z_sg (fl_0 (c := 127) (lo := 76 * note1 σ 113 29) (hi := 76 * note1 σ 113 29 + (0 - 0)) (f := fun k => note1 σ 114 (k - 76 * note1 σ 113 29)) (by omega)).symm ?_
    refine z_pick [1, 0] rfl (lp_notes2 hO (by first | (rw [e1]; simp only [fl_row_ne, fl_ne, up_row_ne, up_ne, up_eq, up_nk, up_up, up_self, ne_eq, Nat.reduceEqDiff, Int.reduceEq, reduceCtorEq, not_false_eq_true, not_true_eq_false]; omega) | (rw [e1]; omega)) ?_ 77 0 (by decide) (by decide) (by decide))
    refine z_aload_n hO 0 dX9_notes_80 rfl ?_
    refine z_dup hO dX9_notes_81 rfl ?_
    refine z_getI hO 29 fl_X9_192 rfl rfl rfl dX9_notes_82 (fun r82 => ?_)
    try simp only [fl_row_ne, fl_ne, up_row_ne, up_ne, up_eq, up_nk, up_up, up_self, ne_eq, Nat.reduceEqDiff, Int.reduceEq, reduceCtorEq, not_false_eq_true, not_true_eq_false] at r82 ⊢
    refine z_iconst hO dX9_notes_85 ?_
    refine z_iadd hO dX9_notes_86 ?_
    refine z_putI hO 29 fp_X9_192 rfl rfl rfl (by omega) rfl rfl dX9_notes_87 ?_
    exact z_retV hO hR dX9_notes_90 (by unfold noteS; first | rfl | simp only [fl_row_ne, fl_ne, up_row_ne, up_ne, up_eq, up_nk, up_up, up_self, ne_eq, Nat.reduceEqDiff, Int.reduceEq, reduceCtorEq, not_false_eq_true, not_true_eq_false])
  ·
    have e1 : note1 σ = up (fl σ 127 0 (0 + (608 - 76)) (fun k => σ 127 (k + 76))) 113 29 7 := by unfold note1; rw [if_pos c6]
    refine z_bipush hO dX9_notes_9 (by decide) ?_
    refine z_istore_n hO (L' := [(1, _), (0, _)]) dX9_notes_11 (by decide) rfl ?_
    refine z_sg (fl_0 (c := 127) (lo := 0) (hi := 0 + (76 - 76)) (f := fun k => σ 127 (k + 76)) (by omega)).symm ?_
    refine z_pick [1, 0] rfl (lp_notes1 hO ?_ 533 76 (by decide) (by decide) (by decide))
    refine z_aload_n hO 0 dX9_notes_40 rfl ?_
    refine z_bipush hO dX9_notes_41 (by decide) ?_
    refine z_putI hO 29 fp_X9_192 rfl rfl rfl (by omega) rfl rfl dX9_notes_43 ?_
    refine z_iconst hO dX9_notes_46 ?_
    refine z_istore_n hO (L' := [(1, _), (0, _)]) dX9_notes_47 (by decide) rfl ?_
    refine z_sg e1.symm ?_
    refine z_sg (fl_0 (c := 127) (lo := 76 * note1 σ 113 29) (hi := 76 * note1 σ 113 29 + (0 - 0)) (f := fun k => note1 σ 114 (k - 76 * note1 σ 113 29)) (by omega)).symm ?_
    refine z_pick [1, 0] rfl (lp_notes2 hO (by first | (rw [e1]; simp only [fl_row_ne, fl_ne, up_row_ne, up_ne, up_eq, up_nk, up_up, up_self, ne_eq, Nat.reduceEqDiff, Int.reduceEq, reduceCtorEq, not_false_eq_true, not_true_eq_false]; omega) | (rw [e1]; omega)) ?_ 77 0 (by decide) (by decide) (by decide))
    refine z_aload_n hO 0 dX9_notes_80 rfl ?_
    refine z_dup hO dX9_notes_81 rfl ?_
    refine z_getI hO 29 fl_X9_192 rfl rfl rfl dX9_notes_82 (fun r82 => ?_)
    try simp only [fl_row_ne, fl_ne, up_row_ne, up_ne, up_eq, up_nk, up_up, up_self, ne_eq, Nat.reduceEqDiff, Int.reduceEq, reduceCtorEq, not_false_eq_true, not_true_eq_false] at r82 ⊢
    refine z_iconst hO dX9_notes_85 ?_
    refine z_iadd hO dX9_notes_86 ?_
    refine z_putI hO 29 fp_X9_192 rfl rfl rfl (by omega) rfl rfl dX9_notes_87 ?_
    exact z_retV hO hR dX9_notes_90 (by unfold noteS; first | rfl | simp only [fl_row_ne, fl_ne, up_row_ne, up_ne, up_eq, up_nk, up_up, up_self, ne_eq, Nat.reduceEqDiff, Int.reduceEq, reduceCtorEq, not_false_eq_true, not_true_eq_false])

set_option maxHeartbeats 4000000 in
set_option maxRecDepth 100000 in
theorem t_X9_check {g : G} {σ : Sg} {v : Int} (rv : -2147483648 ≤ v ∧ v ≤ 2147483647) (hu : 0 ≤ σ 113 29 ∧ σ 113 29 ≤ 8) : MM g mX9_check [.ref (g.2.2.1 113), vI v] σ (pI (fun r σ' => (r, σ') = if ¬ (0 ≤ v ∧ v ≤ 4) then (-1, σ) else if σ 114 1 = v then (-2, σ) else (σ 114 1, up (noteS σ) 114 1 v))) := by
  refine mm_of rfl (by decide) rfl rfl (Nat.le_of_ble_eq_true rfl) (fun x hO hR => ?_)
  refine z_iload_n hO 1 dX9_check_0 rfl ?_
  refine z_i2l hO dX9_check_1 (by omega) ?_
  refine z_lconst hO 0 dX9_check_2 (by decide) ?_
  refine z_ldc2 hO k_X9_262 dX9_check_3 ?_
  refine z_csQ hO (t_X9_in (by omega) (by omega) (by omega)) cs_X9_75 rfl rfl (by decide) (Nat.le_of_ble_eq_true rfl) dX9_check_6 (fun c6 => ?_) (fun c6 => ?_)
  ·
    refine z_if_ne hO 14 dX9_check_9 (by decide) (by decide) (fun c9 => ?_) (fun c9 => absurd c9 (by omega))
    refine z_aload_n hO 0 dX9_check_14 rfl ?_
    refine z_getR hO (114) fl_X9_7 rfl rfl dX9_check_15 ?_
    refine z_iconst hO dX9_check_18 ?_
    refine z_iald hO rfl (by omega) (by decide) dX9_check_19 (fun r19 => ?_)
    refine z_istore_n hO (L' := [(2, _), (0, _), (1, _)]) dX9_check_20 (by decide) rfl ?_
    refine z_iload_n hO 0 dX9_check_21 rfl ?_
    refine z_iload_n hO 2 dX9_check_22 rfl ?_
    refine z_icmp_ne hO 29 dX9_check_23 (by decide) (by omega) (by omega) (fun c23 => ?_) (fun c23 => ?_)
    ·
      refine z_aload_n hO 1 dX9_check_29 rfl ?_
      refine z_cvV hO (t_X9_notes hu) cv_X9_251 rfl rfl rfl rfl (by decide) (Nat.le_of_ble_eq_true rfl) dX9_check_30 (fun s30 p30 => ?_)
      subst p30
      refine z_aload_n hO 1 dX9_check_33 rfl ?_
      refine z_getR hO (114) fl_X9_7 rfl rfl dX9_check_34 ?_
      refine z_iconst hO dX9_check_37 ?_
      refine z_iload_n hO 2 dX9_check_38 rfl ?_
      refine z_iast hO rfl (by omega) (by decide) (by omega) dX9_check_39 ?_
      refine z_iload_n hO 0 dX9_check_40 rfl ?_
      exact z_retI hO hR dX9_check_41 (by (repeat' split) <;> first | rfl | (exfalso; omega))
    ·
      refine z_bipush hO dX9_check_26 (by decide) ?_
      exact z_retI hO hR dX9_check_28 (by (repeat' split) <;> first | rfl | (exfalso; omega))
  ·
    refine z_if_ne hO 14 dX9_check_9 (by decide) (by decide) (fun c9 => absurd c9 (by omega)) (fun c9 => ?_)
    refine z_iconst hO dX9_check_12 ?_
    exact z_retI hO hR dX9_check_13 (by (repeat' split) <;> first | rfl | (exfalso; omega))

set_option maxHeartbeats 4000000 in
set_option maxRecDepth 100000 in
theorem t_X9_slack {g : G} {σ : Sg} {v : Int} (rv : -2147483648 ≤ v ∧ v ≤ 2147483647) (hu : 0 ≤ σ 113 29 ∧ σ 113 29 ≤ 8) : MM g mX9_slack [.ref (g.2.2.1 113), vI v] σ (pI (fun r σ' => (r, σ') = if ¬ (0 ≤ v ∧ v ≤ 20) then (-1, σ) else if σ 114 2 = v then (-2, σ) else (σ 114 2, up (noteS σ) 114 2 v))) := by
  refine mm_of rfl (by decide) rfl rfl (Nat.le_of_ble_eq_true rfl) (fun x hO hR => ?_)
  refine z_iload_n hO 1 dX9_slack_0 rfl ?_
  refine z_i2l hO dX9_slack_1 (by omega) ?_
  refine z_lconst hO 0 dX9_slack_2 (by decide) ?_
  refine z_ldc2 hO k_X9_91 dX9_slack_3 ?_
  refine z_csQ hO (t_X9_in (by omega) (by omega) (by omega)) cs_X9_75 rfl rfl (by decide) (Nat.le_of_ble_eq_true rfl) dX9_slack_6 (fun c6 => ?_) (fun c6 => ?_)
  ·
    refine z_if_ne hO 14 dX9_slack_9 (by decide) (by decide) (fun c9 => ?_) (fun c9 => absurd c9 (by omega))
    refine z_aload_n hO 0 dX9_slack_14 rfl ?_
    refine z_getR hO (114) fl_X9_7 rfl rfl dX9_slack_15 ?_
    refine z_iconst hO dX9_slack_18 ?_
    refine z_iald hO rfl (by omega) (by decide) dX9_slack_19 (fun r19 => ?_)
    refine z_istore_n hO (L' := [(2, _), (0, _), (1, _)]) dX9_slack_20 (by decide) rfl ?_
    refine z_iload_n hO 0 dX9_slack_21 rfl ?_
    refine z_iload_n hO 2 dX9_slack_22 rfl ?_
    refine z_icmp_ne hO 29 dX9_slack_23 (by decide) (by omega) (by omega) (fun c23 => ?_) (fun c23 => ?_)
    ·
      refine z_aload_n hO 1 dX9_slack_29 rfl ?_
      refine z_cvV hO (t_X9_notes hu) cv_X9_251 rfl rfl rfl rfl (by decide) (Nat.le_of_ble_eq_true rfl) dX9_slack_30 (fun s30 p30 => ?_)
      subst p30
      refine z_aload_n hO 1 dX9_slack_33 rfl ?_
      refine z_getR hO (114) fl_X9_7 rfl rfl dX9_slack_34 ?_
      refine z_iconst hO dX9_slack_37 ?_
      refine z_iload_n hO 2 dX9_slack_38 rfl ?_
      refine z_iast hO rfl (by omega) (by decide) (by omega) dX9_slack_39 ?_
      refine z_iload_n hO 0 dX9_slack_40 rfl ?_
      exact z_retI hO hR dX9_slack_41 (by (repeat' split) <;> first | rfl | (exfalso; omega))
    ·
      refine z_bipush hO dX9_slack_26 (by decide) ?_
      exact z_retI hO hR dX9_slack_28 (by (repeat' split) <;> first | rfl | (exfalso; omega))
  ·
    refine z_if_ne hO 14 dX9_slack_9 (by decide) (by decide) (fun c9 => absurd c9 (by omega)) (fun c9 => ?_)
    refine z_iconst hO dX9_slack_12 ?_
    exact z_retI hO hR dX9_slack_13 (by (repeat' split) <;> first | rfl | (exfalso; omega))

set_option maxHeartbeats 4000000 in
set_option maxRecDepth 100000 in
theorem t_X9_hear {g : G} {σ : Sg} {w q : Int} (rw : -2147483648 ≤ w ∧ w ≤ 2147483647) (rq : -2147483648 ≤ q ∧ q ≤ 2147483647) (hu : 0 ≤ σ 113 29 ∧ σ 113 29 ≤ 8) (hn : 0 ≤ σ 114 0 ∧ σ 114 0 ≤ 8) : MM g mX9_hear [.ref (g.2.2.1 113), vI w, vI q] σ (pI (fun r σ' => (r, σ') = if ¬ (0 ≤ w ∧ w ≤ 31) ∨ ¬ (0 ≤ q ∧ q ≤ 9) then (-1, σ) else if σ 114 0 = 8 then (-3, σ) else (σ 114 0 + 1, up (up (up (up (noteS σ) 114 0 (σ 114 0 + 1)) 114 (4 + 9 * σ 114 0) 1) 114 (4 + 9 * σ 114 0 + 1) w) 114 (4 + 9 * σ 114 0 + 5) q))) := by
  refine mm_of rfl (by decide) rfl rfl (Nat.le_of_ble_eq_true rfl) (fun x hO hR => ?_)
  refine z_iload_n hO 1 dX9_hear_0 rfl ?_
  refine z_csQ hO (t_X9_isWord (by omega)) cs_X9_248 rfl rfl (by decide) (Nat.le_of_ble_eq_true rfl) dX9_hear_1 (fun c1 => ?_) (fun c1 => ?_)
  ·
    refine z_if_eq hO 19 dX9_hear_4 (by decide) (by decide) (fun c4 => absurd c4 (by omega)) (fun c4 => ?_)
    refine z_iload_n hO 2 dX9_hear_7 rfl ?_
    refine z_i2l hO dX9_hear_8 (by omega) ?_
    refine z_lconst hO 0 dX9_hear_9 (by decide) ?_
    refine z_ldc2 hO k_X9_102 dX9_hear_10 ?_
    refine z_csQ hO (t_X9_in (by omega) (by omega) (by omega)) cs_X9_75 rfl rfl (by decide) (Nat.le_of_ble_eq_true rfl) dX9_hear_13 (fun c13 => ?_) (fun c13 => ?_)
    ·
      refine z_if_ne hO 21 dX9_hear_16 (by decide) (by decide) (fun c16 => ?_) (fun c16 => absurd c16 (by omega))
      refine z_aload_n hO 0 dX9_hear_21 rfl ?_
      refine z_getR hO (114) fl_X9_7 rfl rfl dX9_hear_22 ?_
      refine z_iconst hO dX9_hear_25 ?_
      refine z_iald hO rfl (by omega) (by decide) dX9_hear_26 (fun r26 => ?_)
      refine z_bipush hO dX9_hear_27 (by decide) ?_
      refine z_icmp_ne hO 35 dX9_hear_29 (by decide) (by omega) (by decide) (fun c29 => ?_) (fun c29 => ?_)
      ·
        refine z_aload_n hO 0 dX9_hear_35 rfl ?_
        refine z_cvV hO (t_X9_notes hu) cv_X9_251 rfl rfl rfl rfl (by decide) (Nat.le_of_ble_eq_true rfl) dX9_hear_36 (fun s36 p36 => ?_)
        subst p36
        refine z_aload_n hO 0 dX9_hear_39 rfl ?_
        refine z_iload_n hO 1 dX9_hear_40 rfl ?_
        refine z_iload_n hO 2 dX9_hear_41 rfl ?_
        refine z_cvV hO (t_X9_hears (by omega) (by omega) (by simp only [fl_row_ne, fl_ne, up_row_ne, up_ne, up_eq, up_nk, up_up, up_self, ne_eq, Nat.reduceEqDiff, Int.reduceEq, reduceCtorEq, not_false_eq_true, not_true_eq_false, noteS_row]; omega)) cv_X9_242 rfl rfl rfl rfl (by decide) (Nat.le_of_ble_eq_true rfl) dX9_hear_42 (fun s42 p42 => ?_)
        simp only [fl_row_ne, fl_ne, up_row_ne, up_ne, up_eq, up_nk, up_up, up_self, ne_eq, Nat.reduceEqDiff, Int.reduceEq, reduceCtorEq, not_false_eq_true, not_true_eq_false, noteS_row] at p42
        subst p42
        refine z_aload_n hO 0 dX9_hear_45 rfl ?_
        refine z_getR hO (114) fl_X9_7 rfl rfl dX9_hear_46 ?_
        refine z_iconst hO dX9_hear_49 ?_
        refine z_iald hO rfl (by omega) (by decide) dX9_hear_50 (fun r50 => ?_)
        try simp (disch := omega) only [fl_row_ne, fl_ne, up_row_ne, up_ne, up_eq, up_nk, up_up, up_self, ne_eq, Nat.reduceEqDiff, Int.reduceEq, reduceCtorEq, not_false_eq_true, not_true_eq_false, noteS_row] at r50 ⊢
        exact z_retI hO hR dX9_hear_51 (by (repeat' split) <;> first | rfl | (exfalso; omega))
      ·
        refine z_bipush hO dX9_hear_32 (by decide) ?_
        exact z_retI hO hR dX9_hear_34 (by (repeat' split) <;> first | rfl | (exfalso; omega))
    ·
      refine z_if_ne hO 21 dX9_hear_16 (by decide) (by decide) (fun c16 => absurd c16 (by omega)) (fun c16 => ?_)
      refine z_iconst hO dX9_hear_19 ?_
      exact z_retI hO hR dX9_hear_20 (by (repeat' split) <;> first | rfl | (exfalso; omega))
  ·
    refine z_if_eq hO 19 dX9_hear_4 (by decide) (by decide) (fun c4 => ?_) (fun c4 => absurd c4 (by omega))
    refine z_iconst hO dX9_hear_19 ?_
    exact z_retI hO hR dX9_hear_20 (by (repeat' split) <;> first | rfl | (exfalso; omega))

set_option maxHeartbeats 4000000 in
set_option maxRecDepth 100000 in
theorem t_X9_also {g : G} {σ : Sg} {s w q : Int} (rs : -2147483648 ≤ s ∧ s ≤ 2147483647) (rw : -2147483648 ≤ w ∧ w ≤ 2147483647) (rq : -2147483648 ≤ q ∧ q ≤ 2147483647) (hu : 0 ≤ σ 113 29 ∧ σ 113 29 ≤ 8) (hn : 0 ≤ σ 114 0 ∧ σ 114 0 ≤ 8) (hV : WV (mv (σ 114))) : MM g mX9_also [.ref (g.2.2.1 113), vI s, vI w, vI q] σ (pI (fun r σ' => (r, σ') = (if ¬ (0 ≤ s ∧ s < σ 114 0) ∨ ¬ (0 ≤ w ∧ w ≤ 31) ∨ ¬ (0 ≤ q ∧ q ≤ 9) then (-1, σ) else @ite _ (∃ k, 0 ≤ k ∧ k < σ 114 (4 + 9 * s) ∧ (mv (σ 114)).2.2.1 s k = w) (Classical.propDecidable _) (-2, σ) (if σ 114 (4 + 9 * s) = 4 then (-3, σ) else (σ 114 (4 + 9 * s) + 1, up (up (up (noteS σ) 114 (4 + 9 * s + 1 + σ 114 (4 + 9 * s)) w) 114 (4 + 9 * s + 5 + σ 114 (4 + 9 * s)) q) 114 (4 + 9 * s) (σ 114 (4 + 9 * s) + 1)))))) := by
  refine mm_of rfl (by decide) rfl rfl (Nat.le_of_ble_eq_true rfl) (fun x hO hR => ?_)
  refine z_aload_n hO 0 dX9_also_0 rfl ?_
  refine z_iload_n hO 1 dX9_also_1 rfl ?_
  refine z_cvQ hO (t_X9_isSlot (by omega) (by omega)) cv_X9_183 rfl rfl rfl rfl (by decide) (Nat.le_of_ble_eq_true rfl) dX9_also_2 (fun c2 => ?_) (fun c2 => ?_)
  ·
    refine z_if_eq hO 27 dX9_also_5 (by decide) (by decide) (fun c5 => absurd c5 (by omega)) (fun c5 => ?_)
    refine z_iload_n hO 2 dX9_also_8 rfl ?_
    refine z_csQ hO (t_X9_isWord (by omega)) cs_X9_248 rfl rfl (by decide) (Nat.le_of_ble_eq_true rfl) dX9_also_9 (fun c9 => ?_) (fun c9 => ?_)
    ·
      refine z_if_eq hO 27 dX9_also_12 (by decide) (by decide) (fun c12 => absurd c12 (by omega)) (fun c12 => ?_)
      refine z_iload_n hO 3 dX9_also_15 rfl ?_
      refine z_i2l hO dX9_also_16 (by omega) ?_
      refine z_lconst hO 0 dX9_also_17 (by decide) ?_
      refine z_ldc2 hO k_X9_102 dX9_also_18 ?_
      refine z_csQ hO (t_X9_in (by omega) (by omega) (by omega)) cs_X9_75 rfl rfl (by decide) (Nat.le_of_ble_eq_true rfl) dX9_also_21 (fun c21 => ?_) (fun c21 => ?_)
      ·
        refine z_if_ne hO 29 dX9_also_24 (by decide) (by decide) (fun c24 => ?_) (fun c24 => absurd c24 (by omega))
        refine z_aload_n hO 0 dX9_also_29 rfl ?_
        refine z_iload_n hO 1 dX9_also_30 rfl ?_
        refine z_iload_n hO 2 dX9_also_31 rfl ?_
        refine z_cvI hO (t_X9_placeOf hV (by omega) (by omega)) cv_X9_254 rfl rfl rfl rfl (by decide) (Nat.le_of_ble_eq_true rfl) dX9_also_32 (fun v32 s32 p32 => ?_)
        obtain ⟨pq, e32⟩ := p32
        rw [e32]
        have hW := hV.2.2 s (by omega) (show s < σ 114 0 by omega)
        rw [mv_c] at hW
        have hvr : -4 ≤ v32 ∧ v32 ≤ 4 := by rcases pq with q | q <;> omega
        refine z_bipush hO dX9_also_35 (by decide) ?_
        refine z_icmp_eq hO 43 dX9_also_37 (by decide) (by omega) (by decide) (fun c37 => ?_) (fun c37 => ?_)
        ·
          have hex : ¬ ∃ k, 0 ≤ k ∧ k < σ 114 (4 + 9 * s) ∧ (mv (σ 114)).2.2.1 s k = w := by
            rintro ⟨k, k0, k1, k2⟩
            rcases pq with q | q
            · exact q.2 k k0 k1 k2
            · omega
          refine z_aload_n hO 0 dX9_also_43 rfl ?_
          refine z_getR hO (114) fl_X9_7 rfl rfl dX9_also_44 ?_
          refine z_aload_n hO 0 dX9_also_47 rfl ?_
          refine z_iload_n hO 1 dX9_also_48 rfl ?_
          refine z_cvE hO (t_X9_at) cv_X9_79 rfl rfl rfl rfl (by decide) (Nat.le_of_ble_eq_true rfl) dX9_also_49 ?_
          refine z_iald hO rfl (by omega) (by decide) dX9_also_52 (fun r52 => ?_)
          refine z_iconst hO dX9_also_53 ?_
          refine z_icmp_ne hO 60 dX9_also_54 (by decide) (by omega) (by decide) (fun c54 => ?_) (fun c54 => ?_)
          ·
            refine z_aload_n hO 0 dX9_also_60 rfl ?_
            refine z_cvV hO (t_X9_notes hu) cv_X9_251 rfl rfl rfl rfl (by decide) (Nat.le_of_ble_eq_true rfl) dX9_also_61 (fun s61 p61 => ?_)
            subst p61
            refine z_aload_n hO 0 dX9_also_64 rfl ?_
            refine z_iload_n hO 1 dX9_also_65 rfl ?_
            refine z_iload_n hO 2 dX9_also_66 rfl ?_
            refine z_iload_n hO 3 dX9_also_67 rfl ?_
            refine z_cvV hO (t_X9_comes (by omega) (by omega) (by omega) (by simp only [fl_row_ne, fl_ne, up_row_ne, up_ne, up_eq, up_nk, up_up, up_self, ne_eq, Nat.reduceEqDiff, Int.reduceEq, reduceCtorEq, not_false_eq_true, not_true_eq_false, noteS_row]; omega)) cv_X9_258 rfl rfl rfl rfl (by decide) (Nat.le_of_ble_eq_true rfl) dX9_also_68 (fun s68 p68 => ?_)
            simp only [fl_row_ne, fl_ne, up_row_ne, up_ne, up_eq, up_nk, up_up, up_self, ne_eq, Nat.reduceEqDiff, Int.reduceEq, reduceCtorEq, not_false_eq_true, not_true_eq_false, noteS_row] at p68
            subst p68
            refine z_aload_n hO 0 dX9_also_71 rfl ?_
            refine z_getR hO (114) fl_X9_7 rfl rfl dX9_also_72 ?_
            refine z_aload_n hO 0 dX9_also_75 rfl ?_
            refine z_iload_n hO 1 dX9_also_76 rfl ?_
            refine z_cvE hO (t_X9_at) cv_X9_79 rfl rfl rfl rfl (by decide) (Nat.le_of_ble_eq_true rfl) dX9_also_77 ?_
            try simp (disch := omega) only [fl_row_ne, fl_ne, up_row_ne, up_ne, up_eq, up_nk, up_up, up_self, ne_eq, Nat.reduceEqDiff, Int.reduceEq, reduceCtorEq, not_false_eq_true, not_true_eq_false, noteS_row]
            refine z_iald hO rfl (by omega) (by decide) dX9_also_80 (fun r80 => ?_)
            try simp (disch := omega) only [fl_row_ne, fl_ne, up_row_ne, up_ne, up_eq, up_nk, up_up, up_self, ne_eq, Nat.reduceEqDiff, Int.reduceEq, reduceCtorEq, not_false_eq_true, not_true_eq_false, noteS_row] at r80 ⊢
            exact z_retI hO hR dX9_also_81 (by first | rw [if_pos (by omega)] | (rw [if_neg (by omega)]; first | rw [if_pos hex] | (rw [if_neg hex]; first | rw [if_pos (by omega)] | rw [if_neg (by omega)])))
          ·
            refine z_bipush hO dX9_also_57 (by decide) ?_
            exact z_retI hO hR dX9_also_59 (by first | rw [if_pos (by omega)] | (rw [if_neg (by omega)]; first | rw [if_pos hex] | (rw [if_neg hex]; first | rw [if_pos (by omega)] | rw [if_neg (by omega)])))
        ·
          have hex : ∃ k, 0 ≤ k ∧ k < σ 114 (4 + 9 * s) ∧ (mv (σ 114)).2.2.1 s k = w := by
            rcases pq with q | q
            · exact absurd q.1 (by omega)
            · exact ⟨_, q.1, q.2.1, q.2.2.1⟩
          refine z_bipush hO dX9_also_40 (by decide) ?_
          exact z_retI hO hR dX9_also_42 (by first | rw [if_pos (by omega)] | (rw [if_neg (by omega)]; first | rw [if_pos hex] | (rw [if_neg hex]; first | rw [if_pos (by omega)] | rw [if_neg (by omega)])))
      ·
        refine z_if_ne hO 29 dX9_also_24 (by decide) (by decide) (fun c24 => absurd c24 (by omega)) (fun c24 => ?_)
        refine z_iconst hO dX9_also_27 ?_
        exact z_retI hO hR dX9_also_28 (by first | rw [if_pos (by omega)] | (rw [if_neg (by omega)]; first | rw [if_pos hex] | (rw [if_neg hex]; first | rw [if_pos (by omega)] | rw [if_neg (by omega)])))
    ·
      refine z_if_eq hO 27 dX9_also_12 (by decide) (by decide) (fun c12 => ?_) (fun c12 => absurd c12 (by omega))
      refine z_iconst hO dX9_also_27 ?_
      exact z_retI hO hR dX9_also_28 (by first | rw [if_pos (by omega)] | (rw [if_neg (by omega)]; first | rw [if_pos hex] | (rw [if_neg hex]; first | rw [if_pos (by omega)] | rw [if_neg (by omega)])))
  ·
    refine z_if_eq hO 27 dX9_also_5 (by decide) (by decide) (fun c5 => ?_) (fun c5 => absurd c5 (by omega))
    refine z_iconst hO dX9_also_27 ?_
    exact z_retI hO hR dX9_also_28 (by first | rw [if_pos (by omega)] | (rw [if_neg (by omega)]; first | rw [if_pos hex] | (rw [if_neg hex]; first | rw [if_pos (by omega)] | rw [if_neg (by omega)])))

set_option maxHeartbeats 4000000 in
set_option maxRecDepth 100000 in
theorem lp_lose1 {g : G} {x : Cx} {σ : Sg} {s : Int} (hO : Ok g x RX9 cX9_lose 3 3) (hs : 0 ≤ s ∧ s ≤ σ 114 0) (hn : σ 114 0 ≤ 7) (hE : Z g x 3 65 [(0, .ref (g.2.2.1 113)), (1, vI s), (2, vI ((4 + 9 * σ 114 0)))] [] (fl σ 114 (4 + 9 * s) (4 + 9 * s + ((4 + 9 * σ 114 0) - (4 + 9 * s))) (fun k => σ 114 (k + 9)))) : ∀ (k : Nat) (i : Int), (4 + 9 * s) ≤ i → i ≤ (4 + 9 * σ 114 0) → (4 + 9 * σ 114 0) - i < k → Z g x 3 30 [(0, .ref (g.2.2.1 113)), (1, vI s), (2, vI i)] [] (fl σ 114 (4 + 9 * s) (4 + 9 * s + (i - (4 + 9 * s))) (fun k => σ 114 (k + 9))) := by
  intro k
  induction k with
  | zero => intro i h0 h1 h2; exact absurd h2 (by omega)
  | succ k ih =>
    intro i h0 h1 h2
    refine z_iload_n hO 2 dX9_lose_30 rfl ?_
    refine z_aload_n hO 0 dX9_lose_31 rfl ?_
    refine z_aload_n hO 0 dX9_lose_32 rfl ?_
    refine z_getR hO (114) fl_X9_7 rfl rfl dX9_lose_33 ?_
    refine z_iconst hO dX9_lose_36 ?_
    refine z_iald hO rfl (by omega) (by decide) dX9_lose_37 (fun r37 => ?_)
    try simp (disch := omega) only [fl_row_ne, fl_ne, up_row_ne, up_ne, up_eq, up_nk, up_up, up_self, ne_eq, Nat.reduceEqDiff, Int.reduceEq, reduceCtorEq, not_false_eq_true, not_true_eq_false, fl_out] at r37 ⊢
    refine z_cvE hO (t_X9_at) cv_X9_79 rfl rfl rfl rfl (by decide) (Nat.le_of_ble_eq_true rfl) dX9_lose_38 ?_
    try simp (disch := omega) only [fl_row_ne, fl_ne, up_row_ne, up_ne, up_eq, up_nk, up_up, up_self, ne_eq, Nat.reduceEqDiff, Int.reduceEq, reduceCtorEq, not_false_eq_true, not_true_eq_false, fl_out]
    refine z_icmp_ge hO 65 dX9_lose_41 (by decide) (by omega) (by omega) (fun c41 => ?_) (fun c41 => ?_)
    ·
      have ei : i = (4 + 9 * σ 114 0) := by omega
      rw [ei]
      exact z_pick [0, 1, 2] rfl hE
    ·
      refine z_aload_n hO 0 dX9_lose_44 rfl ?_
      refine z_getR hO (114) fl_X9_7 rfl rfl dX9_lose_45 ?_
      refine z_iload_n hO 2 dX9_lose_48 rfl ?_
      refine z_aload_n hO 0 dX9_lose_49 rfl ?_
      refine z_getR hO (114) fl_X9_7 rfl rfl dX9_lose_50 ?_
      refine z_iload_n hO 2 dX9_lose_53 rfl ?_
      refine z_bipush hO dX9_lose_54 (by decide) ?_
      refine z_iadd hO dX9_lose_56 ?_
      refine z_iald hO rfl (by omega) (by decide) dX9_lose_57 (fun r57 => ?_)
      try simp (disch := omega) only [fl_row_ne, fl_ne, up_row_ne, up_ne, up_eq, up_nk, up_up, up_self, ne_eq, Nat.reduceEqDiff, Int.reduceEq, reduceCtorEq, not_false_eq_true, not_true_eq_false, fl_out] at r57 ⊢
      refine z_iast hO rfl (by omega) (by decide) (by omega) dX9_lose_58 ?_
      refine z_iinc hO (L' := [(2, _), (0, _), (1, _)]) 2 dX9_lose_59 rfl (by decide) rfl ?_
      refine z_goto hO 30 dX9_lose_62 (by decide) ?_
      refine z_sg (fl_s (by omega) (by omega) (by first | rfl | (congr 1; omega) | (dsimp only; congr 1; omega) | (simp only []; omega)) (show 4 + 9 * s + (i + 1 - (4 + 9 * s)) = _ by omega)) ?_
      exact z_pick [1, 2, 0] rfl (ih (i + 1) (by omega) (by omega) (by omega))

set_option maxHeartbeats 4000000 in
set_option maxRecDepth 100000 in
theorem lp_lose2 {g : G} {x : Cx} {σ : Sg} {s : Int} (hO : Ok g x RX9 cX9_lose 3 3) (hn : 0 ≤ σ 114 0 ∧ σ 114 0 ≤ 7) (hE : Z g x 3 97 [(0, .ref (g.2.2.1 113)), (1, vI s), (2, vI (9))] [] (fl σ 114 (4 + 9 * σ 114 0) (4 + 9 * σ 114 0 + (9 - 0)) (fun _ => 0))) : ∀ (k : Nat) (i : Int), 0 ≤ i → i ≤ 9 → 9 - i < k → Z g x 3 67 [(0, .ref (g.2.2.1 113)), (1, vI s), (2, vI i)] [] (fl σ 114 (4 + 9 * σ 114 0) (4 + 9 * σ 114 0 + (i - 0)) (fun _ => 0)) := by
  intro k
  induction k with
  | zero => intro i h0 h1 h2; exact absurd h2 (by omega)
  | succ k ih =>
    intro i h0 h1 h2
    refine z_iload_n hO 2 dX9_lose_67 rfl ?_
    refine z_bipush hO dX9_lose_68 (by decide) ?_
    refine z_icmp_ge hO 97 dX9_lose_70 (by decide) (by omega) (by decide) (fun c70 => ?_) (fun c70 => ?_)
    ·
      have ei : i = 9 := by omega
      rw [ei]
      exact z_pick [0, 1, 2] rfl hE
    ·
      refine z_aload_n hO 0 dX9_lose_73 rfl ?_
      refine z_getR hO (114) fl_X9_7 rfl rfl dX9_lose_74 ?_
      refine z_aload_n hO 0 dX9_lose_77 rfl ?_
      refine z_aload_n hO 0 dX9_lose_78 rfl ?_
      refine z_getR hO (114) fl_X9_7 rfl rfl dX9_lose_79 ?_
      refine z_iconst hO dX9_lose_82 ?_
      refine z_iald hO rfl (by omega) (by decide) dX9_lose_83 (fun r83 => ?_)
      try simp (disch := omega) only [fl_row_ne, fl_ne, up_row_ne, up_ne, up_eq, up_nk, up_up, up_self, ne_eq, Nat.reduceEqDiff, Int.reduceEq, reduceCtorEq, not_false_eq_true, not_true_eq_false, fl_out] at r83 ⊢
      refine z_cvE hO (t_X9_at) cv_X9_79 rfl rfl rfl rfl (by decide) (Nat.le_of_ble_eq_true rfl) dX9_lose_84 ?_
      try simp (disch := omega) only [fl_row_ne, fl_ne, up_row_ne, up_ne, up_eq, up_nk, up_up, up_self, ne_eq, Nat.reduceEqDiff, Int.reduceEq, reduceCtorEq, not_false_eq_true, not_true_eq_false, fl_out]
      refine z_iload_n hO 2 dX9_lose_87 rfl ?_
      refine z_iadd hO dX9_lose_88 ?_
      refine z_iconst hO dX9_lose_89 ?_
      refine z_iast hO rfl (by omega) (by decide) (by omega) dX9_lose_90 ?_
      refine z_iinc hO (L' := [(2, _), (0, _), (1, _)]) 2 dX9_lose_91 rfl (by decide) rfl ?_
      refine z_goto hO 67 dX9_lose_94 (by decide) ?_
      refine z_sg (fl_s (by omega) (by omega) (by first | rfl | (congr 1; omega) | (dsimp only; congr 1; omega) | (simp only []; omega)) (show 4 + 9 * σ 114 0 + (i + 1 - 0) = _ by omega)) ?_
      exact z_pick [1, 2, 0] rfl (ih (i + 1) (by omega) (by omega) (by omega))

def loseS (σ : Sg) (s : Int) : Sg := (fl (fl (up (noteS σ) 114 0 (σ 114 0 - 1)) 114 (4 + 9 * s) (4 + 9 * s + ((4 + 9 * (σ 114 0 - 1)) - (4 + 9 * s))) (fun k => (up (noteS σ) 114 0 (σ 114 0 - 1)) 114 (k + 9))) 114 (4 + 9 * (σ 114 0 - 1)) (4 + 9 * (σ 114 0 - 1) + (9 - 0)) (fun _ => 0))

set_option maxHeartbeats 4000000 in
set_option maxRecDepth 100000 in
theorem t_X9_lose {g : G} {σ : Sg} {s : Int} (rs : -2147483648 ≤ s ∧ s ≤ 2147483647) (hu : 0 ≤ σ 113 29 ∧ σ 113 29 ≤ 8) (hn : 0 ≤ σ 114 0 ∧ σ 114 0 ≤ 8) : MM g mX9_lose [.ref (g.2.2.1 113), vI s] σ (pI (fun r σ' => (r, σ') = if ¬ (0 ≤ s ∧ s < σ 114 0) then (-1, σ) else (σ 114 0 - 1, loseS σ s))) := by
  refine mm_of rfl (by decide) rfl rfl (Nat.le_of_ble_eq_true rfl) (fun x hO hR => ?_)
  refine z_aload_n hO 0 dX9_lose_0 rfl ?_
  refine z_iload_n hO 1 dX9_lose_1 rfl ?_
  refine z_cvQ hO (t_X9_isSlot (by omega) (by omega)) cv_X9_183 rfl rfl rfl rfl (by decide) (Nat.le_of_ble_eq_true rfl) dX9_lose_2 (fun c2 => ?_) (fun c2 => ?_)
  ·
    refine z_if_ne hO 10 dX9_lose_5 (by decide) (by decide) (fun c5 => ?_) (fun c5 => absurd c5 (by omega))
    refine z_aload_n hO 0 dX9_lose_10 rfl ?_
    refine z_cvV hO (t_X9_notes hu) cv_X9_251 rfl rfl rfl rfl (by decide) (Nat.le_of_ble_eq_true rfl) dX9_lose_11 (fun s11 p11 => ?_)
    subst p11
    refine z_aload_n hO 0 dX9_lose_14 rfl ?_
    refine z_getR hO (114) fl_X9_7 rfl rfl dX9_lose_15 ?_
    refine z_iconst hO dX9_lose_18 ?_
    refine z_dup2 hO dX9_lose_19 rfl rfl ?_
    refine z_iald hO rfl (by omega) (by decide) dX9_lose_20 (fun r20 => ?_)
    try simp (disch := omega) only [fl_row_ne, fl_ne, up_row_ne, up_ne, up_eq, up_nk, up_up, up_self, ne_eq, Nat.reduceEqDiff, Int.reduceEq, reduceCtorEq, not_false_eq_true, not_true_eq_false, noteS_row] at r20 ⊢
    refine z_iconst hO dX9_lose_21 ?_
    refine z_isub hO dX9_lose_22 ?_
    refine z_iast hO rfl (by omega) (by decide) (by omega) dX9_lose_23 ?_
    refine z_aload_n hO 0 dX9_lose_24 rfl ?_
    refine z_iload_n hO 1 dX9_lose_25 rfl ?_
    refine z_cvE hO (t_X9_at) cv_X9_79 rfl rfl rfl rfl (by decide) (Nat.le_of_ble_eq_true rfl) dX9_lose_26 ?_
    try simp (disch := omega) only [fl_row_ne, fl_ne, up_row_ne, up_ne, up_eq, up_nk, up_up, up_self, ne_eq, Nat.reduceEqDiff, Int.reduceEq, reduceCtorEq, not_false_eq_true, not_true_eq_false, noteS_row]
    refine z_istore_n hO (L' := [(2, _), (0, _), (1, _)]) dX9_lose_29 (by decide) rfl ?_
    have e0 : (up (noteS σ) 114 0 (σ 114 0 - 1)) 114 0 = σ 114 0 - 1 := up_eq
    refine z_sg (fl_0 (c := 114) (lo := 4 + 9 * s) (hi := 4 + 9 * s + ((4 + 9 * s) - (4 + 9 * s))) (f := fun k => (up (noteS σ) 114 0 (σ 114 0 - 1)) 114 (k + 9)) (by omega)).symm ?_
    refine z_pick [1, 2, 0] rfl (lp_lose1 hO (by rw [e0]; omega) (by rw [e0]; omega) ?_ 100 (4 + 9 * s) (by omega) (by rw [e0]; omega) (by rw [e0]; omega))
    rw [e0]
    refine z_iconst hO dX9_lose_65 ?_
    refine z_istore_n hO (L' := [(2, _), (0, _), (1, _)]) dX9_lose_66 (by decide) rfl ?_
    have e1 : (fl (up (noteS σ) 114 0 (σ 114 0 - 1)) 114 (4 + 9 * s) (4 + 9 * s + ((4 + 9 * (σ 114 0 - 1)) - (4 + 9 * s))) (fun k => (up (noteS σ) 114 0 (σ 114 0 - 1)) 114 (k + 9))) 114 0 = σ 114 0 - 1 := (fl_out (by omega)).trans e0
    refine z_sg (fl_0 (c := 114) (lo := 4 + 9 * (fl (up (noteS σ) 114 0 (σ 114 0 - 1)) 114 (4 + 9 * s) (4 + 9 * s + ((4 + 9 * (σ 114 0 - 1)) - (4 + 9 * s))) (fun k => (up (noteS σ) 114 0 (σ 114 0 - 1)) 114 (k + 9))) 114 0) (hi := 4 + 9 * (fl (up (noteS σ) 114 0 (σ 114 0 - 1)) 114 (4 + 9 * s) (4 + 9 * s + ((4 + 9 * (σ 114 0 - 1)) - (4 + 9 * s))) (fun k => (up (noteS σ) 114 0 (σ 114 0 - 1)) 114 (k + 9))) 114 0 + (0 - 0)) (f := fun _ => 0) (by omega)).symm ?_
    refine z_pick [1, 2, 0] rfl (lp_lose2 hO (by rw [e1]; omega) ?_ 10 0 (by decide) (by decide) (by decide))
    rw [e1]
    refine z_aload_n hO 0 dX9_lose_97 rfl ?_
    refine z_getR hO (114) fl_X9_7 rfl rfl dX9_lose_98 ?_
    refine z_iconst hO dX9_lose_101 ?_
    refine z_iald hO rfl (by omega) (by decide) dX9_lose_102 (fun r102 => ?_)
    rw [show (fl (fl (up (noteS σ) 114 0 (σ 114 0 - 1)) 114 (4 + 9 * s) (4 + 9 * s + ((4 + 9 * (σ 114 0 - 1)) - (4 + 9 * s))) (fun k => (up (noteS σ) 114 0 (σ 114 0 - 1)) 114 (k + 9))) 114 (4 + 9 * (σ 114 0 - 1)) (4 + 9 * (σ 114 0 - 1) + (9 - 0)) (fun _ => 0)) 114 0 = σ 114 0 - 1 from (fl_out (by omega)).trans e1]
    exact z_retI hO hR dX9_lose_103 (by rw [if_neg (by omega)]; rfl)
  ·
    refine z_if_ne hO 10 dX9_lose_5 (by decide) (by decide) (fun c5 => absurd c5 (by omega)) (fun c5 => ?_)
    refine z_iconst hO dX9_lose_8 ?_
    exact z_retI hO hR dX9_lose_9 (by rw [if_pos (by omega)])

set_option maxHeartbeats 4000000 in
set_option maxRecDepth 100000 in
theorem lp_settle {g : G} {x : Cx} {σ : Sg} {s w n q : Int} (hO : Ok g x RX9 cX9_settle 7 3) (hs : 0 ≤ s ∧ s ≤ 7) (hE : Z g x 7 101 [(0, .ref (g.2.2.1 113)), (1, vI s), (2, vI w), (4, vI n), (5, vI q), (6, vI (9))] [] (fl σ 114 (4 + 9 * s) (4 + 9 * s + (9 - 0)) (fun _ => 0))) : ∀ (k : Nat) (i : Int), 0 ≤ i → i ≤ 9 → 9 - i < k → Z g x 7 74 [(0, .ref (g.2.2.1 113)), (1, vI s), (2, vI w), (4, vI n), (5, vI q), (6, vI i)] [] (fl σ 114 (4 + 9 * s) (4 + 9 * s + (i - 0)) (fun _ => 0)) := by
  intro k
  induction k with
  | zero => intro i h0 h1 h2; exact absurd h2 (by omega)
  | succ k ih =>
    intro i h0 h1 h2
    refine z_iload hO 5 dX9_settle_74 rfl ?_
    refine z_bipush hO dX9_settle_76 (by decide) ?_
    refine z_icmp_ge hO 101 dX9_settle_78 (by decide) (by omega) (by decide) (fun c78 => ?_) (fun c78 => ?_)
    ·
      have ei : i = 9 := by omega
      rw [ei]
      exact z_pick [0, 1, 2, 3, 4, 5] rfl hE
    ·
      refine z_aload_n hO 0 dX9_settle_81 rfl ?_
      refine z_getR hO (114) fl_X9_7 rfl rfl dX9_settle_82 ?_
      refine z_aload_n hO 0 dX9_settle_85 rfl ?_
      refine z_iload_n hO 1 dX9_settle_86 rfl ?_
      refine z_cvE hO (t_X9_at) cv_X9_79 rfl rfl rfl rfl (by decide) (Nat.le_of_ble_eq_true rfl) dX9_settle_87 ?_
      try simp (disch := omega) only [fl_row_ne, fl_ne, up_row_ne, up_ne, up_eq, up_nk, up_up, up_self, ne_eq, Nat.reduceEqDiff, Int.reduceEq, reduceCtorEq, not_false_eq_true, not_true_eq_false, fl_out]
      refine z_iload hO 5 dX9_settle_90 rfl ?_
      refine z_iadd hO dX9_settle_92 ?_
      refine z_iconst hO dX9_settle_93 ?_
      refine z_iast hO rfl (by omega) (by decide) (by omega) dX9_settle_94 ?_
      refine z_iinc hO (L' := [(6, _), (0, _), (1, _), (2, _), (4, _), (5, _)]) 5 dX9_settle_95 rfl (by decide) rfl ?_
      refine z_goto hO 74 dX9_settle_98 (by decide) ?_
      refine z_sg (fl_s (by omega) (by omega) (by first | rfl | (congr 1; omega) | (dsimp only; congr 1; omega) | (simp only []; omega)) (show 4 + 9 * s + (i + 1 - 0) = _ by omega)) ?_
      exact z_pick [1, 2, 3, 4, 5, 0] rfl (ih (i + 1) (by omega) (by omega) (by omega))

def setS (σ : Sg) (s w q : Int) : Sg := up (up (up (fl (noteS σ) 114 (4 + 9 * s) (4 + 9 * s + (9 - 0)) (fun _ => 0)) 114 (4 + 9 * s + 1 + 0) w) 114 (4 + 9 * s + 5 + 0) q) 114 (4 + 9 * s) (0 + 1)

set_option maxHeartbeats 4000000 in
set_option maxRecDepth 100000 in
theorem t_X9_settle {g : G} {σ : Sg} {s w : Int} (rs : -2147483648 ≤ s ∧ s ≤ 2147483647) (rw : -2147483648 ≤ w ∧ w ≤ 2147483647) (hu : 0 ≤ σ 113 29 ∧ σ 113 29 ≤ 8) (hn : 0 ≤ σ 114 0 ∧ σ 114 0 ≤ 8) (hV : WV (mv (σ 114))) : MM g mX9_settle [.ref (g.2.2.1 113), vI s, vI w] σ (pI (fun r σ' => (¬ (0 ≤ s ∧ s < σ 114 0 ∧ 0 ≤ w ∧ w ≤ 31) ∧ r = -1 ∧ σ' = σ) ∨ ((0 ≤ s ∧ s < σ 114 0) ∧ (0 ≤ w ∧ w ≤ 31) ∧ ((¬ ∃ k, 0 ≤ k ∧ k < σ 114 (4 + 9 * s) ∧ (mv (σ 114)).2.2.1 s k = w) ∨ σ 114 (4 + 9 * s) = 1) ∧ r = -2 ∧ σ' = σ) ∨ ((0 ≤ s ∧ s < σ 114 0) ∧ (0 ≤ w ∧ w ≤ 31) ∧ ∃ k, 0 ≤ k ∧ k < σ 114 (4 + 9 * s) ∧ (mv (σ 114)).2.2.1 s k = w ∧ σ 114 (4 + 9 * s) ≠ 1 ∧ r = σ 114 (4 + 9 * s) - 1 ∧ σ' = setS σ s w ((mv (σ 114)).2.2.2 s k)))) := by
  refine mm_of rfl (by decide) rfl rfl (Nat.le_of_ble_eq_true rfl) (fun x hO hR => ?_)
  refine z_aload_n hO 0 dX9_settle_0 rfl ?_
  refine z_iload_n hO 1 dX9_settle_1 rfl ?_
  refine z_cvQ hO (t_X9_isSlot (by omega) (by omega)) cv_X9_183 rfl rfl rfl rfl (by decide) (Nat.le_of_ble_eq_true rfl) dX9_settle_2 (fun c2 => ?_) (fun c2 => ?_)
  ·
    refine z_if_eq hO 15 dX9_settle_5 (by decide) (by decide) (fun c5 => absurd c5 (by omega)) (fun c5 => ?_)
    refine z_iload_n hO 2 dX9_settle_8 rfl ?_
    refine z_csQ hO (t_X9_isWord (by omega)) cs_X9_248 rfl rfl (by decide) (Nat.le_of_ble_eq_true rfl) dX9_settle_9 (fun c9 => ?_) (fun c9 => ?_)
    ·
      refine z_if_ne hO 17 dX9_settle_12 (by decide) (by decide) (fun c12 => ?_) (fun c12 => absurd c12 (by omega))
      refine z_aload_n hO 0 dX9_settle_17 rfl ?_
      refine z_iload_n hO 1 dX9_settle_18 rfl ?_
      refine z_iload_n hO 2 dX9_settle_19 rfl ?_
      refine z_cvI hO (t_X9_placeOf hV (by omega) (by omega)) cv_X9_254 rfl rfl rfl rfl (by decide) (Nat.le_of_ble_eq_true rfl) dX9_settle_20 (fun v20 s20 p20 => ?_)
      obtain ⟨pq, e20⟩ := p20
      rw [e20]
      have hW := hV.2.2 s (by omega) (show s < σ 114 0 by omega)
      have hvr : -4 ≤ v20 ∧ v20 ≤ 4 := by rw [mv_c] at hW; rcases pq with q | q <;> omega
      have hX := hW.2.2 v20
      simp only [mv_c, mv_w, mv_q] at hW hX
      refine z_istore_n hO (L' := [(3, _), (0, _), (1, _), (2, _)]) dX9_settle_23 (by decide) rfl ?_
      refine z_aload_n hO 1 dX9_settle_24 rfl ?_
      refine z_getR hO (114) fl_X9_7 rfl rfl dX9_settle_25 ?_
      refine z_aload_n hO 1 dX9_settle_28 rfl ?_
      refine z_iload_n hO 2 dX9_settle_29 rfl ?_
      refine z_cvE hO (t_X9_at) cv_X9_79 rfl rfl rfl rfl (by decide) (Nat.le_of_ble_eq_true rfl) dX9_settle_30 ?_
      refine z_iald hO rfl (by omega) (by decide) dX9_settle_33 (fun r33 => ?_)
      refine z_istore hO (L' := [(4, _), (3, _), (0, _), (1, _), (2, _)]) dX9_settle_34 (by decide) rfl ?_
      refine z_iload_n hO 1 dX9_settle_36 rfl ?_
      refine z_bipush hO dX9_settle_37 (by decide) ?_
      refine z_icmp_eq hO 48 dX9_settle_39 (by decide) (by omega) (by decide) (fun c39 => ?_) (fun c39 => ?_)
      ·
        have hex : ¬ ∃ k, 0 ≤ k ∧ k < σ 114 (4 + 9 * s) ∧ (mv (σ 114)).2.2.1 s k = w := by
          rintro ⟨k, k0, k1, k2⟩
          rcases pq with q | q
          · exact q.2 k k0 k1 k2
          · omega
        refine z_bipush hO dX9_settle_48 (by decide) ?_
        exact z_retI hO hR dX9_settle_50 (Or.inr (Or.inl ⟨by omega, by omega, by first | exact Or.inl hex | exact Or.inr (by omega), rfl, rfl⟩))
      ·
        have hp : 0 ≤ v20 ∧ v20 < σ 114 (4 + 9 * s) ∧ (mv (σ 114)).2.2.1 s v20 = w := by
          rcases pq with q | q
          · exact absurd q.1 (by omega)
          · exact ⟨q.1, q.2.1, q.2.2.1⟩
        have hX2 := hX hp.1 hp.2.1
        refine z_iload hO 0 dX9_settle_42 rfl ?_
        refine z_iconst hO dX9_settle_44 ?_
        refine z_icmp_ne hO 51 dX9_settle_45 (by decide) (by omega) (by decide) (fun c45 => ?_) (fun c45 => ?_)
        ·
          refine z_aload_n hO 2 dX9_settle_51 rfl ?_
          refine z_cvV hO (t_X9_notes hu) cv_X9_251 rfl rfl rfl rfl (by decide) (Nat.le_of_ble_eq_true rfl) dX9_settle_52 (fun s52 p52 => ?_)
          subst p52
          refine z_aload_n hO 2 dX9_settle_55 rfl ?_
          refine z_getR hO (114) fl_X9_7 rfl rfl dX9_settle_56 ?_
          refine z_aload_n hO 2 dX9_settle_59 rfl ?_
          refine z_iload_n hO 3 dX9_settle_60 rfl ?_
          refine z_cvE hO (t_X9_at) cv_X9_79 rfl rfl rfl rfl (by decide) (Nat.le_of_ble_eq_true rfl) dX9_settle_61 ?_
          try simp (disch := omega) only [fl_row_ne, fl_ne, up_row_ne, up_ne, up_eq, up_nk, up_up, up_self, ne_eq, Nat.reduceEqDiff, Int.reduceEq, reduceCtorEq, not_false_eq_true, not_true_eq_false, noteS_row]
          refine z_iconst hO dX9_settle_64 ?_
          refine z_iadd hO dX9_settle_65 ?_
          refine z_iload_n hO 1 dX9_settle_66 rfl ?_
          refine z_iadd hO dX9_settle_67 ?_
          refine z_iald hO rfl (by omega) (by decide) dX9_settle_68 (fun r68 => ?_)
          try simp (disch := omega) only [fl_row_ne, fl_ne, up_row_ne, up_ne, up_eq, up_nk, up_up, up_self, ne_eq, Nat.reduceEqDiff, Int.reduceEq, reduceCtorEq, not_false_eq_true, not_true_eq_false, noteS_row] at r68 ⊢
          refine z_istore hO (L' := [(5, _), (4, _), (3, _), (0, _), (1, _), (2, _)]) dX9_settle_69 (by decide) rfl ?_
          refine z_iconst hO dX9_settle_71 ?_
          refine z_istore hO (L' := [(6, _), (5, _), (4, _), (3, _), (0, _), (1, _), (2, _)]) dX9_settle_72 (by decide) rfl ?_
          refine z_sg (fl_0 (c := 114) (lo := 4 + 9 * s) (hi := 4 + 9 * s + (0 - 0)) (f := fun _ => 0) (by omega)).symm ?_
          refine z_pick [4, 5, 6, 2, 1, 0] rfl (lp_settle hO (by omega) ?_ 10 0 (by decide) (by decide) (by decide))
          refine z_aload_n hO 0 dX9_settle_101 rfl ?_
          refine z_iload_n hO 1 dX9_settle_102 rfl ?_
          refine z_iload_n hO 2 dX9_settle_103 rfl ?_
          refine z_iload hO 4 dX9_settle_104 rfl ?_
          refine z_cvV hO (t_X9_comes (by omega) (by omega) (by omega) (by rw [fl_in (by omega)]; omega)) cv_X9_258 rfl rfl rfl rfl (by decide) (Nat.le_of_ble_eq_true rfl) dX9_settle_106 (fun s106 p106 => ?_)
          rw [fl_in (by omega)] at p106
          subst p106
          refine z_iload hO 3 dX9_settle_109 rfl ?_
          refine z_iconst hO dX9_settle_111 ?_
          refine z_isub hO dX9_settle_112 ?_
          exact z_retI hO hR dX9_settle_113 (Or.inr (Or.inr ⟨by omega, by omega, v20, hp.1, hp.2.1, hp.2.2, by omega, rfl, rfl⟩))
        ·
          refine z_bipush hO dX9_settle_48 (by decide) ?_
          exact z_retI hO hR dX9_settle_50 (Or.inr (Or.inl ⟨by omega, by omega, by first | exact Or.inl hex | exact Or.inr (by omega), rfl, rfl⟩))
    ·
      refine z_if_ne hO 17 dX9_settle_12 (by decide) (by decide) (fun c12 => absurd c12 (by omega)) (fun c12 => ?_)
      refine z_iconst hO dX9_settle_15 ?_
      exact z_retI hO hR dX9_settle_16 (Or.inl ⟨by omega, rfl, rfl⟩)
  ·
    refine z_if_eq hO 15 dX9_settle_5 (by decide) (by decide) (fun c5 => ?_) (fun c5 => absurd c5 (by omega))
    refine z_iconst hO dX9_settle_15 ?_
    exact z_retI hO hR dX9_settle_16 (Or.inl ⟨by omega, rfl, rfl⟩)
