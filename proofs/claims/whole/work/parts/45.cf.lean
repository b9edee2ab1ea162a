set_option maxHeartbeats 4000000 in
set_option maxRecDepth 100000 in
theorem lp_keep {g : G} {x : Cx} {τ : Sg} {P : Sg → Prop} (hO : Ok g x RX3 cX3_keep 2 3) (hR : Rt g x none (pV P)) (h1 : 0 ≤ τ 13 1 ∧ τ 13 1 ≤ 7) (h2 : 0 ≤ τ 13 2 ∧ τ 13 2 ≤ 7) (hP : P (up (tkS τ (15 + 4 * ((τ 13 1 + τ 13 2) % 8).toNat) 1) 13 2 (τ 13 2 + 1))) : Z g x 2 32 [(0, .ref (g.2.2.1 13)), (1, .ref (g.2.2.1 1))] [] τ := by
  refine z_aload_n hO 0 dX3_keep_32 rfl ?_
  refine z_getR hO (14) fl_X3_11 rfl rfl dX3_keep_33 ?_
  refine z_aload_n hO 0 dX3_keep_36 rfl ?_
  refine z_getI hO 1 fl_X3_22 rfl rfl rfl dX3_keep_37 (fun r37 => ?_)
  try simp (disch := omega) only [fl_row_ne, fl_ne, up_row_ne, up_ne, up_eq, up_nk, up_up, up_self, ne_eq, Nat.reduceEqDiff, Int.reduceEq, reduceCtorEq, not_false_eq_true, not_true_eq_false, tkS_ne] at r37 ⊢
  refine z_aload_n hO 0 dX3_keep_40 rfl ?_
  refine z_getI hO 2 fl_X3_18 rfl rfl rfl dX3_keep_41 (fun r41 => ?_)
  try simp (disch := omega) only [fl_row_ne, fl_ne, up_row_ne, up_ne, up_eq, up_nk, up_up, up_self, ne_eq, Nat.reduceEqDiff, Int.reduceEq, reduceCtorEq, not_false_eq_true, not_true_eq_false, tkS_ne] at r41 ⊢
  refine z_iadd hO dX3_keep_44 ?_
  refine z_bipush hO dX3_keep_45 (by decide) ?_
  refine z_irem hO dX3_keep_47 (by omega) (by omega) ?_
  have hdr := hd_r ((τ 13 1 + τ 13 2) % 8).toNat (by omega)
  refine z_aald hO (15 + 4 * ((τ 13 1 + τ 13 2) % 8).toNat) rfl (by decide) (by simp only [List.length_cons, List.length_nil]; omega) (by decide) (ring13 (by omega)) dX3_keep_48 ?_
  refine z_aload_n hO 1 dX3_keep_49 rfl ?_
  refine z_cvV hO (t_X2_take hdr hd_1 (by omega)) cv_X3_25 hdr.1 rfl rfl rfl (by decide) (Nat.le_of_ble_eq_true rfl) dX3_keep_50 (fun s50 p50 => ?_)
  subst p50
  refine z_aload_n hO 0 dX3_keep_53 rfl ?_
  refine z_dup hO dX3_keep_54 rfl ?_
  refine z_getI hO 2 fl_X3_18 rfl rfl rfl dX3_keep_55 (fun r55 => ?_)
  try simp (disch := omega) only [fl_row_ne, fl_ne, up_row_ne, up_ne, up_eq, up_nk, up_up, up_self, ne_eq, Nat.reduceEqDiff, Int.reduceEq, reduceCtorEq, not_false_eq_true, not_true_eq_false, tkS_ne] at r55 ⊢
  refine z_iconst hO dX3_keep_58 ?_
  refine z_iadd hO dX3_keep_59 ?_
  refine z_putI hO 2 fp_X3_18 rfl rfl rfl (by omega) rfl rfl dX3_keep_60 ?_
  exact z_retV hO hR dX3_keep_63 (hP)

set_option maxHeartbeats 4000000 in
set_option maxRecDepth 100000 in
theorem t_X3_keep {g : G} {σ : Sg} (h1 : 0 ≤ σ 13 1 ∧ σ 13 1 ≤ 7) (h2 : 0 ≤ σ 13 2 ∧ σ 13 2 ≤ 8) : MM g mX3_keep [.ref (g.2.2.1 13), .ref (g.2.2.1 1)] σ (pV (fun σ' => σ' = keepS σ)) := by
  refine mm_of rfl (by decide) rfl rfl (Nat.le_of_ble_eq_true rfl) (fun x hO hR => ?_)
  have hk : (0 ≤ keep1 σ 13 1 ∧ keep1 σ 13 1 ≤ 7) ∧ (0 ≤ keep1 σ 13 2 ∧ keep1 σ 13 2 ≤ 7) := by
    unfold keep1; split
    · simp only [fl_row_ne, fl_ne, up_row_ne, up_ne, up_eq, up_nk, up_up, up_self, ne_eq, Nat.reduceEqDiff, Int.reduceEq, reduceCtorEq, not_false_eq_true, not_true_eq_false]; omega
    · omega
  refine z_aload_n hO 0 dX3_keep_0 rfl ?_
  refine z_getI hO 2 fl_X3_18 rfl rfl rfl dX3_keep_1 (fun r1 => ?_)
  refine z_bipush hO dX3_keep_4 (by decide) ?_
  refine z_icmp_ne hO 32 dX3_keep_6 (by decide) (by omega) (by decide) (fun c6 => ?_) (fun c6 => ?_)
  ·
    have e1 : keep1 σ = σ := by unfold keep1; rw [if_neg c6]
    refine z_sg e1.symm ?_
    exact z_pick [0, 1] rfl (lp_keep hO hR hk.1 hk.2 rfl)
  ·
    have e1 : keep1 σ = up (up σ 13 1 ((σ 13 1 + 1) % 8)) 13 2 (8 - 1) := by unfold keep1; rw [if_pos c6]
    refine z_aload_n hO 0 dX3_keep_9 rfl ?_
    refine z_aload_n hO 0 dX3_keep_10 rfl ?_
    refine z_getI hO 1 fl_X3_22 rfl rfl rfl dX3_keep_11 (fun r11 => ?_)
    refine z_iconst hO dX3_keep_14 ?_
    refine z_iadd hO dX3_keep_15 ?_
    refine z_bipush hO dX3_keep_16 (by decide) ?_
    refine z_irem hO dX3_keep_18 (by omega) (by omega) ?_
    refine z_putI hO 1 fp_X3_22 rfl rfl rfl (by omega) rfl rfl dX3_keep_19 ?_
    refine z_aload_n hO 0 dX3_keep_22 rfl ?_
    refine z_dup hO dX3_keep_23 rfl ?_
    refine z_getI hO 2 fl_X3_18 rfl rfl rfl dX3_keep_24 (fun r24 => ?_)
    try simp (disch := omega) only [fl_row_ne, fl_ne, up_row_ne, up_ne, up_eq, up_nk, up_up, up_self, ne_eq, Nat.reduceEqDiff, Int.reduceEq, reduceCtorEq, not_false_eq_true, not_true_eq_false, tkS_ne] at r24 ⊢
    rw [c6] at r24 ⊢
    refine z_iconst hO dX3_keep_27 ?_
    refine z_isub hO dX3_keep_28 ?_
    refine z_putI hO 2 fp_X3_18 rfl rfl rfl (by omega) rfl rfl dX3_keep_29 ?_
    refine z_sg e1.symm ?_
    exact z_pick [0, 1] rfl (lp_keep hO hR hk.1 hk.2 rfl)

def backS (σ : Sg) : Sg := if 0 < σ 13 2 then tkS (up σ 13 2 (σ 13 2 - 1)) 1 (15 + 4 * ((σ 13 1 + (σ 13 2 - 1)) % 8).toNat) else σ

set_option maxHeartbeats 4000000 in
set_option maxRecDepth 100000 in
theorem t_X3_giveBack {g : G} {σ : Sg} (h1 : 0 ≤ σ 13 1 ∧ σ 13 1 ≤ 7) (h2 : 0 ≤ σ 13 2 ∧ σ 13 2 ≤ 8) : MM g mX3_giveBack [.ref (g.2.2.1 13), .ref (g.2.2.1 1)] σ (pV (fun σ' => σ' = backS σ)) := by
  refine mm_of rfl (by decide) rfl rfl (Nat.le_of_ble_eq_true rfl) (fun x hO hR => ?_)
  refine z_aload_n hO 0 dX3_giveBack_0 rfl ?_
  refine z_getI hO 2 fl_X3_18 rfl rfl rfl dX3_giveBack_1 (fun r1 => ?_)
  refine z_if_le hO 38 dX3_giveBack_4 (by decide) (by omega) (fun c4 => ?_) (fun c4 => ?_)
  ·
    exact z_retV hO hR dX3_giveBack_38 (by unfold backS; first | (rw [if_neg (by omega)]; done) | (rw [if_pos (by omega)]; done))
  ·
    refine z_aload_n hO 0 dX3_giveBack_7 rfl ?_
    refine z_dup hO dX3_giveBack_8 rfl ?_
    refine z_getI hO 2 fl_X3_18 rfl rfl rfl dX3_giveBack_9 (fun r9 => ?_)
    refine z_iconst hO dX3_giveBack_12 ?_
    refine z_isub hO dX3_giveBack_13 ?_
    refine z_putI hO 2 fp_X3_18 rfl rfl rfl (by omega) rfl rfl dX3_giveBack_14 ?_
    refine z_aload_n hO 1 dX3_giveBack_17 rfl ?_
    refine z_aload_n hO 0 dX3_giveBack_18 rfl ?_
    refine z_getR hO (14) fl_X3_11 rfl rfl dX3_giveBack_19 ?_
    refine z_aload_n hO 0 dX3_giveBack_22 rfl ?_
    refine z_getI hO 1 fl_X3_22 rfl rfl rfl dX3_giveBack_23 (fun r23 => ?_)
    try simp (disch := omega) only [fl_row_ne, fl_ne, up_row_ne, up_ne, up_eq, up_nk, up_up, up_self, ne_eq, Nat.reduceEqDiff, Int.reduceEq, reduceCtorEq, not_false_eq_true, not_true_eq_false, tkS_ne] at r23 ⊢
    refine z_aload_n hO 0 dX3_giveBack_26 rfl ?_
    refine z_getI hO 2 fl_X3_18 rfl rfl rfl dX3_giveBack_27 (fun r27 => ?_)
    try simp (disch := omega) only [fl_row_ne, fl_ne, up_row_ne, up_ne, up_eq, up_nk, up_up, up_self, ne_eq, Nat.reduceEqDiff, Int.reduceEq, reduceCtorEq, not_false_eq_true, not_true_eq_false, tkS_ne] at r27 ⊢
    refine z_iadd hO dX3_giveBack_30 ?_
    refine z_bipush hO dX3_giveBack_31 (by decide) ?_
    refine z_irem hO dX3_giveBack_33 (by omega) (by omega) ?_
    have hdr := hd_r ((σ 13 1 + (σ 13 2 - 1)) % 8).toNat (by omega)
    refine z_aald hO (15 + 4 * ((σ 13 1 + (σ 13 2 - 1)) % 8).toNat) rfl (by decide) (by simp only [List.length_cons, List.length_nil]; omega) (by decide) (ring13 (by omega)) dX3_giveBack_34 ?_
    refine z_cvV hO (t_X2_take hd_1 hdr (by omega)) cv_X3_25 rfl rfl rfl rfl (by decide) (Nat.le_of_ble_eq_true rfl) dX3_giveBack_35 (fun s35 p35 => ?_)
    subst p35
    exact z_retV hO hR dX3_giveBack_38 (by unfold backS; first | (rw [if_neg (by omega)]; done) | (rw [if_pos (by omega)]; done))

/-- eight Heards taken over, one by one -/
def tkA (σ : Sg) (a b : Nat) : Nat → Sg
  | 0 => σ
  | m + 1 => tkS (tkA σ a b m) (a + 4 * m) (b + 4 * m)
theorem tkA_ne {σ : Sg} {a b c : Nat} {k : Int} (m : Nat) (h : c < a ∨ a + 4 * m ≤ c) : tkA σ a b m c k = σ c k := by
  induction m with
  | zero => rfl
  | succ m ih => unfold tkA; rw [tkS_ne (by omega), ih (by omega)]
def pastS (σ : Sg) (p q : Nat) : Sg := up (up (tkA σ (p + 2) (q + 2) 8) p 1 (σ q 1)) p 2 (σ q 2)

set_option maxHeartbeats 4000000 in
set_option maxRecDepth 100000 in
theorem lp_past13 {g : G} {x : Cx} {σ : Sg} {P : Sg → Prop} (hO : Ok g x RX3 cX3_take 3 3) (hR : Rt g x none (pV P)) (hP : P (pastS σ 13 47)) : ∀ (f i : Nat), i ≤ 8 → 8 - i < f → Z g x 3 2 [(0, .ref (g.2.2.1 13)), (1, .ref (g.2.2.1 47)), (2, vI i)] [] (tkA σ 15 49 i) := by
  intro f
  induction f with
  | zero => intro i h0 hk; exact absurd hk (by omega)
  | succ f ih =>
    intro i h0 hk
    refine z_iload_n hO 2 dX3_take_2 rfl ?_
    refine z_bipush hO dX3_take_3 (by decide) ?_
    refine z_icmp_ge hO 29 dX3_take_5 (by decide) (by omega) (by decide) (fun c5 => ?_) (fun c5 => ?_)
    ·
      have hi3 : i = 8 := by omega
      subst hi3
      refine z_aload_n hO 0 dX3_take_29 rfl ?_
      refine z_aload_n hO 1 dX3_take_30 rfl ?_
      refine z_getI hO 1 fl_X3_22 rfl rfl rfl dX3_take_31 (fun r31 => ?_)
      try simp (disch := omega) only [fl_row_ne, fl_ne, up_row_ne, up_ne, up_eq, up_nk, up_up, up_self, ne_eq, Nat.reduceEqDiff, Int.reduceEq, reduceCtorEq, not_false_eq_true, not_true_eq_false, tkA_ne] at r31 ⊢
      refine z_putI hO 1 fp_X3_22 rfl rfl rfl (by omega) rfl rfl dX3_take_34 ?_
      refine z_aload_n hO 0 dX3_take_37 rfl ?_
      refine z_aload_n hO 1 dX3_take_38 rfl ?_
      refine z_getI hO 2 fl_X3_18 rfl rfl rfl dX3_take_39 (fun r39 => ?_)
      try simp (disch := omega) only [fl_row_ne, fl_ne, up_row_ne, up_ne, up_eq, up_nk, up_up, up_self, ne_eq, Nat.reduceEqDiff, Int.reduceEq, reduceCtorEq, not_false_eq_true, not_true_eq_false, tkA_ne] at r39 ⊢
      refine z_putI hO 2 fp_X3_18 rfl rfl rfl (by omega) rfl rfl dX3_take_42 ?_
      exact z_retV hO hR dX3_take_45 (hP)
    ·
      have hda := hd_r i (by omega)
      have hdb := hd_q i (by omega)
      refine z_aload_n hO 0 dX3_take_8 rfl ?_
      refine z_getR hO (14) fl_X3_11 rfl rfl dX3_take_9 ?_
      refine z_iload_n hO 2 dX3_take_12 rfl ?_
      refine z_aald hO (15 + 4 * i) rfl (by decide) (by simp only [List.length_cons, List.length_nil]; omega) (by decide) (ring13 (i := i) (by omega)) dX3_take_13 ?_
      refine z_aload_n hO 1 dX3_take_14 rfl ?_
      refine z_getR hO (48) fl_X3_11 rfl rfl dX3_take_15 ?_
      refine z_iload_n hO 2 dX3_take_18 rfl ?_
      refine z_aald hO (49 + 4 * i) rfl (by decide) (by simp only [List.length_cons, List.length_nil]; omega) (by decide) (ring47 (i := i) (by omega)) dX3_take_19 ?_
      refine z_cvV hO (t_X2_take hda hdb (by omega)) cv_X3_25 hda.1 rfl rfl rfl (by decide) (Nat.le_of_ble_eq_true rfl) dX3_take_20 (fun s20 p20 => ?_)
      subst p20
      refine z_iinc hO (L' := [(2, _), (0, _), (1, _)]) 2 dX3_take_23 rfl (by decide) rfl ?_
      refine z_goto hO 2 dX3_take_26 (by decide) ?_
      exact z_pick [1, 2, 0] rfl (ih (i + 1) (by omega) (by omega))

set_option maxHeartbeats 4000000 in
set_option maxRecDepth 100000 in
theorem t_X3_take13 {g : G} {σ : Sg}  : MM g mX3_take [.ref (g.2.2.1 13), .ref (g.2.2.1 47)] σ (pV (fun σ' => σ' = pastS σ 13 47)) := by
  refine mm_of rfl (by decide) rfl rfl (Nat.le_of_ble_eq_true rfl) (fun x hO hR => ?_)
  refine z_iconst hO dX3_take_0 ?_
  refine z_istore_n hO (L' := [(2, _), (0, _), (1, _)]) dX3_take_1 (by decide) rfl ?_
  exact z_pick [1, 2, 0] rfl (lp_past13 hO hR rfl 9 0 (by decide) (by decide))

set_option maxHeartbeats 4000000 in
set_option maxRecDepth 100000 in
theorem lp_past47 {g : G} {x : Cx} {σ : Sg} {P : Sg → Prop} (hO : Ok g x RX3 cX3_take 3 3) (hR : Rt g x none (pV P)) (hP : P (pastS σ 47 13)) : ∀ (f i : Nat), i ≤ 8 → 8 - i < f → Z g x 3 2 [(0, .ref (g.2.2.1 47)), (1, .ref (g.2.2.1 13)), (2, vI i)] [] (tkA σ 49 15 i) := by
  intro f
  induction f with
  | zero => intro i h0 hk; exact absurd hk (by omega)
  | succ f ih =>
    intro i h0 hk
    refine z_iload_n hO 2 dX3_take_2 rfl ?_
    refine z_bipush hO dX3_take_3 (by decide) ?_
    refine z_icmp_ge hO 29 dX3_take_5 (by decide) (by omega) (by decide) (fun c5 => ?_) (fun c5 => ?_)
    ·
      have hi3 : i = 8 := by omega
      subst hi3
      refine z_aload_n hO 0 dX3_take_29 rfl ?_
      refine z_aload_n hO 1 dX3_take_30 rfl ?_
      refine z_getI hO 1 fl_X3_22 rfl rfl rfl dX3_take_31 (fun r31 => ?_)
      try simp (disch := omega) only [fl_row_ne, fl_ne, up_row_ne, up_ne, up_eq, up_nk, up_up, up_self, ne_eq, Nat.reduceEqDiff, Int.reduceEq, reduceCtorEq, not_false_eq_true, not_true_eq_false, tkA_ne] at r31 ⊢
      refine z_putI hO 1 fp_X3_22 rfl rfl rfl (by omega) rfl rfl dX3_take_34 ?_
      refine z_aload_n hO 0 dX3_take_37 rfl ?_
      refine z_aload_n hO 1 dX3_take_38 rfl ?_
      refine z_getI hO 2 fl_X3_18 rfl rfl rfl dX3_take_39 (fun r39 => ?_)
      try simp (disch := omega) only [fl_row_ne, fl_ne, up_row_ne, up_ne, up_eq, up_nk, up_up, up_self, ne_eq, Nat.reduceEqDiff, Int.reduceEq, reduceCtorEq, not_false_eq_true, not_true_eq_false, tkA_ne] at r39 ⊢
      refine z_putI hO 2 fp_X3_18 rfl rfl rfl (by omega) rfl rfl dX3_take_42 ?_
      exact z_retV hO hR dX3_take_45 (hP)
    ·
      have hda := hd_q i (by omega)
      have hdb := hd_r i (by omega)
      refine z_aload_n hO 0 dX3_take_8 rfl ?_
      refine z_getR hO (48) fl_X3_11 rfl rfl dX3_take_9 ?_
      refine z_iload_n hO 2 dX3_take_12 rfl ?_
      refine z_aald hO (49 + 4 * i) rfl (by decide) (by simp only [List.length_cons, List.length_nil]; omega) (by decide) (ring47 (i := i) (by omega)) dX3_take_13 ?_
      refine z_aload_n hO 1 dX3_take_14 rfl ?_
      refine z_getR hO (14) fl_X3_11 rfl rfl dX3_take_15 ?_
      refine z_iload_n hO 2 dX3_take_18 rfl ?_
      refine z_aald hO (15 + 4 * i) rfl (by decide) (by simp only [List.length_cons, List.length_nil]; omega) (by decide) (ring13 (i := i) (by omega)) dX3_take_19 ?_
      refine z_cvV hO (t_X2_take hda hdb (by omega)) cv_X3_25 hda.1 rfl rfl rfl (by decide) (Nat.le_of_ble_eq_true rfl) dX3_take_20 (fun s20 p20 => ?_)
      subst p20
      refine z_iinc hO (L' := [(2, _), (0, _), (1, _)]) 2 dX3_take_23 rfl (by decide) rfl ?_
      refine z_goto hO 2 dX3_take_26 (by decide) ?_
      exact z_pick [1, 2, 0] rfl (ih (i + 1) (by omega) (by omega))

set_option maxHeartbeats 4000000 in
set_option maxRecDepth 100000 in
theorem t_X3_take47 {g : G} {σ : Sg}  : MM g mX3_take [.ref (g.2.2.1 47), .ref (g.2.2.1 13)] σ (pV (fun σ' => σ' = pastS σ 47 13)) := by
  refine mm_of rfl (by decide) rfl rfl (Nat.le_of_ble_eq_true rfl) (fun x hO hR => ?_)
  refine z_iconst hO dX3_take_0 ?_
  refine z_istore_n hO (L' := [(2, _), (0, _), (1, _)]) dX3_take_1 (by decide) rfl ?_
  exact z_pick [1, 2, 0] rfl (lp_past47 hO hR rfl 9 0 (by decide) (by decide))
