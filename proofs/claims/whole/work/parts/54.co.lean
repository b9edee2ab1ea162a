set_option maxHeartbeats 4000000 in
set_option maxRecDepth 100000 in
theorem t_X8_isWord {g : G} {σ : Sg} {v : Int} (rv : -2147483648 ≤ v ∧ v ≤ 2147483647) : MM g mX8_isWord [vI v] σ (pB (pQ (0 ≤ v ∧ v ≤ 31) σ)) := by
  refine mm_of rfl (by decide) rfl rfl (Nat.le_of_ble_eq_true rfl) (fun x hO hR => ?_)
  refine z_iload_n hO 0 dX8_isWord_0 rfl ?_
  refine z_if_lt hO 14 dX8_isWord_1 (by decide) (by omega) (fun c1 => ?_) (fun c1 => ?_)
  ·
    refine z_iconst hO dX8_isWord_14 ?_
    exact z_retQF hO hR dX8_isWord_15 (by omega) rfl
  ·
    refine z_iload_n hO 0 dX8_isWord_4 rfl ?_
    refine z_bipush hO dX8_isWord_5 (by decide) ?_
    refine z_icmp_ge hO 14 dX8_isWord_7 (by decide) (by omega) (by decide) (fun c7 => ?_) (fun c7 => ?_)
    ·
      refine z_iconst hO dX8_isWord_14 ?_
      exact z_retQF hO hR dX8_isWord_15 (by omega) rfl
    ·
      refine z_iconst hO dX8_isWord_10 ?_
      refine z_goto hO 15 dX8_isWord_11 (by decide) ?_
      exact z_retQT hO hR dX8_isWord_15 (by omega) rfl

set_option maxHeartbeats 4000000 in
set_option maxRecDepth 100000 in
theorem t_X8_isCost {g : G} {σ : Sg} {v : Int} (rv : -2147483648 ≤ v ∧ v ≤ 2147483647) : MM g mX8_isCost [vI v] σ (pB (pQ (0 ≤ v ∧ v ≤ 9) σ)) := by
  refine mm_of rfl (by decide) rfl rfl (Nat.le_of_ble_eq_true rfl) (fun x hO hR => ?_)
  refine z_iload_n hO 0 dX8_isCost_0 rfl ?_
  refine z_if_lt hO 14 dX8_isCost_1 (by decide) (by omega) (fun c1 => ?_) (fun c1 => ?_)
  ·
    refine z_iconst hO dX8_isCost_14 ?_
    exact z_retQF hO hR dX8_isCost_15 (by omega) rfl
  ·
    refine z_iload_n hO 0 dX8_isCost_4 rfl ?_
    refine z_bipush hO dX8_isCost_5 (by decide) ?_
    refine z_icmp_ge hO 14 dX8_isCost_7 (by decide) (by omega) (by decide) (fun c7 => ?_) (fun c7 => ?_)
    ·
      refine z_iconst hO dX8_isCost_14 ?_
      exact z_retQF hO hR dX8_isCost_15 (by omega) rfl
    ·
      refine z_iconst hO dX8_isCost_10 ?_
      refine z_goto hO 15 dX8_isCost_11 (by decide) ?_
      exact z_retQT hO hR dX8_isCost_15 (by omega) rfl

set_option maxHeartbeats 4000000 in
set_option maxRecDepth 100000 in
theorem t_X8_isSheet {g : G} {σ : Sg} {v : Int} (rv : -2147483648 ≤ v ∧ v ≤ 2147483647) : MM g mX8_isSheet [vI v] σ (pB (pQ (0 ≤ v ∧ v ≤ 3) σ)) := by
  refine mm_of rfl (by decide) rfl rfl (Nat.le_of_ble_eq_true rfl) (fun x hO hR => ?_)
  refine z_iload_n hO 0 dX8_isSheet_0 rfl ?_
  refine z_if_lt hO 13 dX8_isSheet_1 (by decide) (by omega) (fun c1 => ?_) (fun c1 => ?_)
  ·
    refine z_iconst hO dX8_isSheet_13 ?_
    exact z_retQF hO hR dX8_isSheet_14 (by omega) rfl
  ·
    refine z_iload_n hO 0 dX8_isSheet_4 rfl ?_
    refine z_iconst hO dX8_isSheet_5 ?_
    refine z_icmp_ge hO 13 dX8_isSheet_6 (by decide) (by omega) (by decide) (fun c6 => ?_) (fun c6 => ?_)
    ·
      refine z_iconst hO dX8_isSheet_13 ?_
      exact z_retQF hO hR dX8_isSheet_14 (by omega) rfl
    ·
      refine z_iconst hO dX8_isSheet_9 ?_
      refine z_goto hO 14 dX8_isSheet_10 (by decide) ?_
      exact z_retQT hO hR dX8_isSheet_14 (by omega) rfl

set_option maxHeartbeats 4000000 in
set_option maxRecDepth 100000 in
theorem t_X8_isLane {g : G} {σ : Sg} {v : Int} (rv : -2147483648 ≤ v ∧ v ≤ 2147483647) : MM g mX8_isLane [vI v] σ (pB (pQ (0 ≤ v ∧ v ≤ 3) σ)) := by
  refine mm_of rfl (by decide) rfl rfl (Nat.le_of_ble_eq_true rfl) (fun x hO hR => ?_)
  refine z_iload_n hO 0 dX8_isLane_0 rfl ?_
  refine z_if_lt hO 13 dX8_isLane_1 (by decide) (by omega) (fun c1 => ?_) (fun c1 => ?_)
  ·
    refine z_iconst hO dX8_isLane_13 ?_
    exact z_retQF hO hR dX8_isLane_14 (by omega) rfl
  ·
    refine z_iload_n hO 0 dX8_isLane_4 rfl ?_
    refine z_iconst hO dX8_isLane_5 ?_
    refine z_icmp_ge hO 13 dX8_isLane_6 (by decide) (by omega) (by decide) (fun c6 => ?_) (fun c6 => ?_)
    ·
      refine z_iconst hO dX8_isLane_13 ?_
      exact z_retQF hO hR dX8_isLane_14 (by omega) rfl
    ·
      refine z_iconst hO dX8_isLane_9 ?_
      refine z_goto hO 14 dX8_isLane_10 (by decide) ?_
      exact z_retQT hO hR dX8_isLane_14 (by omega) rfl

def fgtS (σ : Sg) : Sg := up (up (up σ 83 3 0) 97 0 0) 83 13 0

set_option maxHeartbeats 4000000 in
set_option maxRecDepth 100000 in
theorem t_X6_forget {g : G} {σ : Sg}  : MM g mX6_forget [.ref (g.2.2.1 83)] σ (pV (fun σ' => σ' = fgtS σ)) := by
  refine mm_of rfl (by decide) rfl rfl (Nat.le_of_ble_eq_true rfl) (fun x hO hR => ?_)
  refine z_aload_n hO 0 dX6_forget_0 rfl ?_
  refine z_iconst hO dX6_forget_1 ?_
  refine z_putI hO 3 fp_X6_44 rfl rfl rfl (by omega) (by decide) (by decide) dX6_forget_2 ?_
  refine z_aload_n hO 0 dX6_forget_5 rfl ?_
  refine z_getR hO (97) fl_X6_12 rfl rfl dX6_forget_6 ?_
  refine z_iconst hO dX6_forget_9 ?_
  refine z_putI hO 0 fp_X6_48 rfl rfl rfl (by omega) (by decide) (by decide) dX6_forget_10 ?_
  refine z_aload_n hO 0 dX6_forget_13 rfl ?_
  refine z_iconst hO dX6_forget_14 ?_
  refine z_putI hO 13 fp_X6_51 rfl rfl rfl (by omega) (by decide) (by decide) dX6_forget_15 ?_
  exact z_retV hO hR dX6_forget_18 (rfl)

set_option maxHeartbeats 4000000 in
set_option maxRecDepth 100000 in
theorem t_X1_lastNumber {g : G} {σ : Sg} {k : Int} (rk : -2147483648 ≤ k ∧ k ≤ 2147483647) (hn : ∀ k, 0 ≤ k → k < 60 → σ 100 k ≤ 4) : MM g mX1_lastNumber [.ref (g.2.2.1 97), vI k] σ (pI (pE (if k < 0 ∨ 60 ≤ k ∨ σ 100 k < 1 then -4 else σ 101 (k * 4 + σ 100 k - 1)) σ)) := by
  refine mm_of rfl (by decide) rfl rfl (Nat.le_of_ble_eq_true rfl) (fun x hO hR => ?_)
  have hk : 0 ≤ k ∧ k < 60 → σ 100 k ≤ 4 := fun h => hn k h.1 h.2
  refine z_iload_n hO 1 dX1_lastNumber_0 rfl ?_
  refine z_if_lt hO 20 dX1_lastNumber_1 (by decide) (by omega) (fun c1 => ?_) (fun c1 => ?_)
  ·
    refine z_bipush hO dX1_lastNumber_20 (by decide) ?_
    exact z_retE hO hR dX1_lastNumber_22 (by (repeat' split) <;> first | rfl | (exfalso; omega)) rfl
  ·
    refine z_iload_n hO 1 dX1_lastNumber_4 rfl ?_
    refine z_bipush hO dX1_lastNumber_5 (by decide) ?_
    refine z_icmp_ge hO 20 dX1_lastNumber_7 (by decide) (by omega) (by decide) (fun c7 => ?_) (fun c7 => ?_)
    ·
      refine z_bipush hO dX1_lastNumber_20 (by decide) ?_
      exact z_retE hO hR dX1_lastNumber_22 (by (repeat' split) <;> first | rfl | (exfalso; omega)) rfl
    ·
      refine z_aload_n hO 0 dX1_lastNumber_10 rfl ?_
      refine z_getR hO (100) fl_X1_18 rfl rfl dX1_lastNumber_11 ?_
      refine z_iload_n hO 1 dX1_lastNumber_14 rfl ?_
      refine z_iald hO rfl (by omega) (by decide) dX1_lastNumber_15 (fun r15 => ?_)
      refine z_iconst hO dX1_lastNumber_16 ?_
      refine z_icmp_ge hO 23 dX1_lastNumber_17 (by decide) (by omega) (by decide) (fun c17 => ?_) (fun c17 => ?_)
      ·
        refine z_aload_n hO 0 dX1_lastNumber_23 rfl ?_
        refine z_getR hO (101) fl_X1_21 rfl rfl dX1_lastNumber_24 ?_
        refine z_iload_n hO 1 dX1_lastNumber_27 rfl ?_
        refine z_iconst hO dX1_lastNumber_28 ?_
        refine z_imul hO dX1_lastNumber_29 ?_
        refine z_aload_n hO 0 dX1_lastNumber_30 rfl ?_
        refine z_getR hO (100) fl_X1_18 rfl rfl dX1_lastNumber_31 ?_
        refine z_iload_n hO 1 dX1_lastNumber_34 rfl ?_
        refine z_iald hO rfl (by omega) (by decide) dX1_lastNumber_35 (fun r35 => ?_)
        refine z_iadd hO dX1_lastNumber_36 ?_
        refine z_iconst hO dX1_lastNumber_37 ?_
        refine z_isub hO dX1_lastNumber_38 ?_
        refine z_iald hO rfl (by omega) (by decide) dX1_lastNumber_39 (fun r39 => ?_)
        exact z_retE hO hR dX1_lastNumber_40 (by (repeat' split) <;> first | rfl | (exfalso; omega)) rfl
      ·
        refine z_bipush hO dX1_lastNumber_20 (by decide) ?_
        exact z_retE hO hR dX1_lastNumber_22 (by (repeat' split) <;> first | rfl | (exfalso; omega)) rfl

set_option maxHeartbeats 4000000 in
set_option maxRecDepth 100000 in
theorem t_X8_keepForUndo {g : G} {σ : Sg} (h1 : 0 ≤ σ 13 1 ∧ σ 13 1 ≤ 7) (h2 : 0 ≤ σ 13 2 ∧ σ 13 2 ≤ 8) : MM g mX8_keepForUndo [.ref (g.2.2.1 0)] σ (pV (fun σ' => σ' = fgtS (keepS σ))) := by
  refine mm_of rfl (by decide) rfl rfl (Nat.le_of_ble_eq_true rfl) (fun x hO hR => ?_)
  refine z_aload_n hO 0 dX8_keepForUndo_0 rfl ?_
  refine z_getR hO (13) fl_X8_22 rfl rfl dX8_keepForUndo_1 ?_
  refine z_aload_n hO 0 dX8_keepForUndo_4 rfl ?_
  refine z_getR hO (1) fl_X8_12 rfl rfl dX8_keepForUndo_5 ?_
  refine z_cvV hO (t_X3_keep h1 h2) cv_X8_235 rfl rfl rfl rfl (by decide) (Nat.le_of_ble_eq_true rfl) dX8_keepForUndo_8 (fun s8 p8 => ?_)
  subst p8
  refine z_aload_n hO 0 dX8_keepForUndo_11 rfl ?_
  refine z_getR hO (83) fl_X8_44 rfl rfl dX8_keepForUndo_12 ?_
  refine z_cvV hO (t_X6_forget) cv_X8_160 rfl rfl rfl rfl (by decide) (Nat.le_of_ble_eq_true rfl) dX8_keepForUndo_15 (fun s15 p15 => ?_)
  subst p15
  exact z_retV hO hR dX8_keepForUndo_18 (rfl)

set_option maxHeartbeats 4000000 in
set_option maxRecDepth 100000 in
theorem t_X8_tellAnew {g : G} {σ : Sg}  : MM g mX8_tellAnew [.ref (g.2.2.1 0)] σ (pI (fun r σ' => r = σ 5 3 ∧ σ' = fgtS (up (tkSl σ 1 5) 13 2 0))) := by
  refine mm_of rfl (by decide) rfl rfl (Nat.le_of_ble_eq_true rfl) (fun x hO hR => ?_)
  refine z_aload_n hO 0 dX8_tellAnew_0 rfl ?_
  refine z_getR hO (1) fl_X8_12 rfl rfl dX8_tellAnew_1 ?_
  refine z_aload_n hO 0 dX8_tellAnew_4 rfl ?_
  refine z_getR hO (5) fl_X8_16 rfl rfl dX8_tellAnew_5 ?_
  refine z_cvV hO (t_X2_takeSlots hd_1 hd_5 (by omega)) cv_X8_238 rfl rfl rfl rfl (by decide) (Nat.le_of_ble_eq_true rfl) dX8_tellAnew_8 (fun s8 p8 => ?_)
  subst p8
  refine z_aload_n hO 0 dX8_tellAnew_11 rfl ?_
  refine z_getR hO (13) fl_X8_22 rfl rfl dX8_tellAnew_12 ?_
  refine z_iconst hO dX8_tellAnew_15 ?_
  refine z_putI hO 2 fp_X8_119 rfl rfl rfl (by omega) rfl rfl dX8_tellAnew_16 ?_
  refine z_aload_n hO 0 dX8_tellAnew_19 rfl ?_
  refine z_getR hO (83) fl_X8_44 rfl rfl dX8_tellAnew_20 ?_
  refine z_cvV hO (t_X6_forget) cv_X8_160 rfl rfl rfl rfl (by decide) (Nat.le_of_ble_eq_true rfl) dX8_tellAnew_23 (fun s23 p23 => ?_)
  subst p23
  refine z_aload_n hO 0 dX8_tellAnew_26 rfl ?_
  refine z_getR hO (1) fl_X8_12 rfl rfl dX8_tellAnew_27 ?_
  refine z_getI hO 3 fl_X8_89 rfl rfl rfl dX8_tellAnew_30 (fun r30 => ?_)
  rw [show fgtS (up (tkSl σ 1 5) 13 2 0) 1 3 = σ 5 3 by unfold fgtS tkSl; simp only [fl_row_ne, fl_ne, up_row_ne, up_ne, up_eq, up_nk, up_up, up_self, ne_eq, Nat.reduceEqDiff, Int.reduceEq, reduceCtorEq, not_false_eq_true, not_true_eq_false]] at r30 ⊢
  exact z_retI hO hR dX8_tellAnew_33 (⟨rfl, rfl⟩)
