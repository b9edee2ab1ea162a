set_option maxHeartbeats 4000000 in
set_option maxRecDepth 100000 in
theorem lp_clears {g : G} {x : Cx} {σ : Sg}  (hO : Ok g x RX9 cX9_clears 2 1)  (hE : Z g x 2 28 [(0, .ref (g.2.2.1 113)), (1, vI (76))] [] (fl σ 114 (4) (4 + (76 - 4)) (fun _ => 0))) : ∀ (k : Nat) (i : Int), 4 ≤ i → i ≤ 76 → 76 - i < k → Z g x 2 9 [(0, .ref (g.2.2.1 113)), (1, vI i)] [] (fl σ 114 (4) (4 + (i - 4)) (fun _ => 0)) := by
  intro k
  induction k with
  | zero => intro i h0 h1 h2; exact absurd h2 (by omega)
  | succ k ih =>
    intro i h0 h1 h2
    refine z_iload_n hO 1 dX9_clears_9 rfl ?_
    refine z_bipush hO dX9_clears_10 (by decide) ?_
    refine z_icmp_ge hO 28 dX9_clears_12 (by decide) (by omega) (by decide) (fun c12 => ?_) (fun c12 => ?_)
    ·
      have ei : i = 76 := by omega
      rw [ei]
      exact z_pick [0, 1] rfl hE
    ·
      refine z_aload_n hO 0 dX9_clears_15 rfl ?_
      refine z_getR hO (114) fl_X9_7 rfl rfl dX9_clears_16 ?_
      refine z_iload_n hO 1 dX9_clears_19 rfl ?_
      refine z_iconst hO dX9_clears_20 ?_
      refine z_iast hO rfl (by omega) (by decide) (by omega) dX9_clears_21 ?_
      refine z_iinc hO (L' := [(1, _), (0, _)]) 1 dX9_clears_22 rfl (by decide) rfl ?_
      refine z_goto hO 9 dX9_clears_25 (by decide) ?_
      refine z_sg (fl_s (by omega) (by omega) (by first | rfl | (congr 1; omega) | (dsimp only; congr 1; omega) | (simp only []; omega)) (show 4 + (i + 1 - 4) = _ by omega)) ?_
      exact z_pick [1, 0] rfl (ih (i + 1) (by omega) (by omega) (by omega))

set_option maxHeartbeats 4000000 in
set_option maxRecDepth 100000 in
theorem t_X9_clears {g : G} {σ : Sg}  : MM g mX9_clears [.ref (g.2.2.1 113)] σ (pV (fun σ' => σ' = fl (up σ 114 0 0) 114 4 76 (fun _ => 0))) := by
  refine mm_of rfl (by decide) rfl rfl (Nat.le_of_ble_eq_true rfl) (fun x hO hR => ?_)
  refine z_aload_n hO 0 dX9_clears_0 rfl ?_
  refine z_getR hO (114) fl_X9_7 rfl rfl dX9_clears_1 ?_
  refine z_iconst hO dX9_clears_4 ?_
  refine z_iconst hO dX9_clears_5 ?_
  refine z_iast hO rfl (by omega) (by decide) (by omega) dX9_clears_6 ?_
  refine z_iconst hO dX9_clears_7 ?_
  refine z_istore_n hO (L' := [(1, _), (0, _)]) dX9_clears_8 (by decide) rfl ?_
  refine z_sg (fl_0 (c := 114) (lo := 4) (hi := 4 + (4 - 4)) (f := fun _ => 0) (by decide)).symm ?_
  refine z_pick [1, 0] rfl (lp_clears hO ?_ 73 4 (by decide) (by decide) (by decide))
  exact z_retV hO hR dX9_clears_28 rfl

set_option maxHeartbeats 4000000 in
set_option maxRecDepth 100000 in
theorem lp_image1 {g : G} {x : Cx} {σ : Sg}  (hO : Ok g x RX9 cX9_image 2 1)  (hE : Z g x 2 26 [(0, .ref (g.2.2.1 113)), (1, vI (76))] [] (fl σ 128 (0) (0 + (76 - 0)) (fun k => σ 114 k))) : ∀ (k : Nat) (i : Int), 0 ≤ i → i ≤ 76 → 76 - i < k → Z g x 2 2 [(0, .ref (g.2.2.1 113)), (1, vI i)] [] (fl σ 128 (0) (0 + (i - 0)) (fun k => σ 114 k)) := by
  intro k
  induction k with
  | zero => intro i h0 h1 h2; exact absurd h2 (by omega)
  | succ k ih =>
    intro i h0 h1 h2
    refine z_iload_n hO 1 dX9_image_2 rfl ?_
    refine z_bipush hO dX9_image_3 (by decide) ?_
    refine z_icmp_ge hO 26 dX9_image_5 (by decide) (by omega) (by decide) (fun c5 => ?_) (fun c5 => ?_)
    ·
      have ei : i = 76 := by omega
      rw [ei]
      exact z_pick [0, 1] rfl hE
    ·
      refine z_aload_n hO 0 dX9_image_8 rfl ?_
      refine z_getR hO (128) fl_X9_53 rfl rfl dX9_image_9 ?_
      refine z_iload_n hO 1 dX9_image_12 rfl ?_
      refine z_aload_n hO 0 dX9_image_13 rfl ?_
      refine z_getR hO (114) fl_X9_7 rfl rfl dX9_image_14 ?_
      refine z_iload_n hO 1 dX9_image_17 rfl ?_
      refine z_iald hO rfl (by omega) (by decide) dX9_image_18 (fun r18 => ?_)
      try simp (disch := omega) only [fl_row_ne, fl_ne, up_row_ne, up_ne, up_eq, up_nk, up_up, up_self, ne_eq, Nat.reduceEqDiff, Int.reduceEq, reduceCtorEq, not_false_eq_true, not_true_eq_false, fl_out] at r18 ⊢
      refine z_iast hO rfl (by omega) (by decide) (by omega) dX9_image_19 ?_
      refine z_iinc hO (L' := [(1, _), (0, _)]) 1 dX9_image_20 rfl (by decide) rfl ?_
      refine z_goto hO 2 dX9_image_23 (by decide) ?_
      refine z_sg (fl_s (by omega) (by omega) (by first | rfl | (congr 1; omega) | (dsimp only; congr 1; omega) | (simp only []; omega)) (show 0 + (i + 1 - 0) = _ by omega)) ?_
      exact z_pick [1, 0] rfl (ih (i + 1) (by omega) (by omega) (by omega))

set_option maxHeartbeats 4000000 in
set_option maxRecDepth 100000 in
theorem lp_image2 {g : G} {x : Cx} {σ : Sg}  (hO : Ok g x RX9 cX9_image 2 1)  (hE : Z g x 2 53 [(0, .ref (g.2.2.1 113)), (1, vI (608))] [] (fl σ 129 (0) (0 + (608 - 0)) (fun k => σ 127 k))) : ∀ (k : Nat) (i : Int), 0 ≤ i → i ≤ 608 → 608 - i < k → Z g x 2 28 [(0, .ref (g.2.2.1 113)), (1, vI i)] [] (fl σ 129 (0) (0 + (i - 0)) (fun k => σ 127 k)) := by
  intro k
  induction k with
  | zero => intro i h0 h1 h2; exact absurd h2 (by omega)
  | succ k ih =>
    intro i h0 h1 h2
    refine z_iload_n hO 1 dX9_image_28 rfl ?_
    refine z_sipush hO dX9_image_29 (by decide) ?_
    refine z_icmp_ge hO 53 dX9_image_32 (by decide) (by omega) (by decide) (fun c32 => ?_) (fun c32 => ?_)
    ·
      have ei : i = 608 := by omega
      rw [ei]
      exact z_pick [0, 1] rfl hE
    ·
      refine z_aload_n hO 0 dX9_image_35 rfl ?_
      refine z_getR hO (129) fl_X9_56 rfl rfl dX9_image_36 ?_
      refine z_iload_n hO 1 dX9_image_39 rfl ?_
      refine z_aload_n hO 0 dX9_image_40 rfl ?_
      refine z_getR hO (127) fl_X9_50 rfl rfl dX9_image_41 ?_
      refine z_iload_n hO 1 dX9_image_44 rfl ?_
      refine z_iald hO rfl (by omega) (by decide) dX9_image_45 (fun r45 => ?_)
      try simp (disch := omega) only [fl_row_ne, fl_ne, up_row_ne, up_ne, up_eq, up_nk, up_up, up_self, ne_eq, Nat.reduceEqDiff, Int.reduceEq, reduceCtorEq, not_false_eq_true, not_true_eq_false, fl_out] at r45 ⊢
      refine z_iast hO rfl (by omega) (by decide) (by omega) dX9_image_46 ?_
      refine z_iinc hO (L' := [(1, _), (0, _)]) 1 dX9_image_47 rfl (by decide) rfl ?_
      refine z_goto hO 28 dX9_image_50 (by decide) ?_
      refine z_sg (fl_s (by omega) (by omega) (by first | rfl | (congr 1; omega) | (dsimp only; congr 1; omega) | (simp only []; omega)) (show 0 + (i + 1 - 0) = _ by omega)) ?_
      exact z_pick [1, 0] rfl (ih (i + 1) (by omega) (by omega) (by omega))

set_option maxHeartbeats 4000000 in
set_option maxRecDepth 100000 in
theorem t_X9_image {g : G} {σ : Sg}  : MM g mX9_image [.ref (g.2.2.1 113)] σ (pI (fun r σ' => r = 1 ∧ σ' = up (fl (fl σ 128 0 76 (fun k => σ 114 k)) 129 0 608 (fun k => σ 127 k)) 113 32 (σ 113 29))) := by
  refine mm_of rfl (by decide) rfl rfl (Nat.le_of_ble_eq_true rfl) (fun x hO hR => ?_)
  refine z_iconst hO dX9_image_0 ?_
  refine z_istore_n hO (L' := [(1, _), (0, _)]) dX9_image_1 (by decide) rfl ?_
  refine z_sg (fl_0 (c := 128) (lo := 0) (hi := 0 + (0 - 0)) (f := fun k => σ 114 k) (by omega)).symm ?_
  refine z_pick [1, 0] rfl (lp_image1 hO ?_ 77 0 (by decide) (by decide) (by decide))
  refine z_iconst hO dX9_image_26 ?_
  refine z_istore_n hO (L' := [(1, _), (0, _)]) dX9_image_27 (by decide) rfl ?_
  refine z_sg (fl_0 (c := 129) (lo := 0) (hi := 0 + (0 - 0)) (f := fun k => (fl σ 128 0 (0 + (76 - 0)) (fun k => σ 114 k)) 127 k) (by omega)).symm ?_
  refine z_pick [1, 0] rfl (lp_image2 hO ?_ 609 0 (by decide) (by decide) (by decide))
  refine z_aload_n hO 0 dX9_image_53 rfl ?_
  refine z_aload_n hO 0 dX9_image_54 rfl ?_
  refine z_getI hO 29 fl_X9_192 rfl rfl rfl dX9_image_55 (fun r55 => ?_)
  try simp only [fl_row_ne, fl_ne, up_row_ne, up_ne, up_eq, up_nk, up_up, up_self, ne_eq, Nat.reduceEqDiff, Int.reduceEq, reduceCtorEq, not_false_eq_true, not_true_eq_false] at r55 ⊢
  refine z_putI hO 32 fp_X9_59 rfl rfl rfl (by omega) rfl rfl dX9_image_58 ?_
  refine z_iconst hO dX9_image_61 ?_
  exact z_retI hO hR dX9_image_62 (⟨rfl, rfl⟩)

set_option maxHeartbeats 4000000 in
set_option maxRecDepth 100000 in
theorem lp_restore1 {g : G} {x : Cx} {σ : Sg}  (hO : Ok g x RX9 cX9_restore 2 1)  (hE : Z g x 2 36 [(0, .ref (g.2.2.1 113)), (1, vI (76))] [] (fl σ 114 (0) (0 + (76 - 0)) (fun k => σ 128 k))) : ∀ (k : Nat) (i : Int), 0 ≤ i → i ≤ 76 → 76 - i < k → Z g x 2 12 [(0, .ref (g.2.2.1 113)), (1, vI i)] [] (fl σ 114 (0) (0 + (i - 0)) (fun k => σ 128 k)) := by
  intro k
  induction k with
  | zero => intro i h0 h1 h2; exact absurd h2 (by omega)
  | succ k ih =>
    intro i h0 h1 h2
    refine z_iload_n hO 1 dX9_restore_12 rfl ?_
    refine z_bipush hO dX9_restore_13 (by decide) ?_
    refine z_icmp_ge hO 36 dX9_restore_15 (by decide) (by omega) (by decide) (fun c15 => ?_) (fun c15 => ?_)
    ·
      have ei : i = 76 := by omega
      rw [ei]
      exact z_pick [0, 1] rfl hE
    ·
      refine z_aload_n hO 0 dX9_restore_18 rfl ?_
      refine z_getR hO (114) fl_X9_7 rfl rfl dX9_restore_19 ?_
      refine z_iload_n hO 1 dX9_restore_22 rfl ?_
      refine z_aload_n hO 0 dX9_restore_23 rfl ?_
      refine z_getR hO (128) fl_X9_53 rfl rfl dX9_restore_24 ?_
      refine z_iload_n hO 1 dX9_restore_27 rfl ?_
      refine z_iald hO rfl (by omega) (by decide) dX9_restore_28 (fun r28 => ?_)
      try simp (disch := omega) only [fl_row_ne, fl_ne, up_row_ne, up_ne, up_eq, up_nk, up_up, up_self, ne_eq, Nat.reduceEqDiff, Int.reduceEq, reduceCtorEq, not_false_eq_true, not_true_eq_false, fl_out] at r28 ⊢
      refine z_iast hO rfl (by omega) (by decide) (by omega) dX9_restore_29 ?_
      refine z_iinc hO (L' := [(1, _), (0, _)]) 1 dX9_restore_30 rfl (by decide) rfl ?_
      refine z_goto hO 12 dX9_restore_33 (by decide) ?_
      refine z_sg (fl_s (by omega) (by omega) (by first | rfl | (congr 1; omega) | (dsimp only; congr 1; omega) | (simp only []; omega)) (show 0 + (i + 1 - 0) = _ by omega)) ?_
      exact z_pick [1, 0] rfl (ih (i + 1) (by omega) (by omega) (by omega))

set_option maxHeartbeats 4000000 in
set_option maxRecDepth 100000 in
theorem lp_restore2 {g : G} {x : Cx} {σ : Sg}  (hO : Ok g x RX9 cX9_restore 2 1)  (hE : Z g x 2 63 [(0, .ref (g.2.2.1 113)), (1, vI (608))] [] (fl σ 127 (0) (0 + (608 - 0)) (fun k => σ 129 k))) : ∀ (k : Nat) (i : Int), 0 ≤ i → i ≤ 608 → 608 - i < k → Z g x 2 38 [(0, .ref (g.2.2.1 113)), (1, vI i)] [] (fl σ 127 (0) (0 + (i - 0)) (fun k => σ 129 k)) := by
  intro k
  induction k with
  | zero => intro i h0 h1 h2; exact absurd h2 (by omega)
  | succ k ih =>
    intro i h0 h1 h2
    refine z_iload_n hO 1 dX9_restore_38 rfl ?_
    refine z_sipush hO dX9_restore_39 (by decide) ?_
    refine z_icmp_ge hO 63 dX9_restore_42 (by decide) (by omega) (by decide) (fun c42 => ?_) (fun c42 => ?_)
    ·
      have ei : i = 608 := by omega
      rw [ei]
      exact z_pick [0, 1] rfl hE
    ·
      refine z_aload_n hO 0 dX9_restore_45 rfl ?_
      refine z_getR hO (127) fl_X9_50 rfl rfl dX9_restore_46 ?_
      refine z_iload_n hO 1 dX9_restore_49 rfl ?_
      refine z_aload_n hO 0 dX9_restore_50 rfl ?_
      refine z_getR hO (129) fl_X9_56 rfl rfl dX9_restore_51 ?_
      refine z_iload_n hO 1 dX9_restore_54 rfl ?_
      refine z_iald hO rfl (by omega) (by decide) dX9_restore_55 (fun r55 => ?_)
      try simp (disch := omega) only [fl_row_ne, fl_ne, up_row_ne, up_ne, up_eq, up_nk, up_up, up_self, ne_eq, Nat.reduceEqDiff, Int.reduceEq, reduceCtorEq, not_false_eq_true, not_true_eq_false, fl_out] at r55 ⊢
      refine z_iast hO rfl (by omega) (by decide) (by omega) dX9_restore_56 ?_
      refine z_iinc hO (L' := [(1, _), (0, _)]) 1 dX9_restore_57 rfl (by decide) rfl ?_
      refine z_goto hO 38 dX9_restore_60 (by decide) ?_
      refine z_sg (fl_s (by omega) (by omega) (by first | rfl | (congr 1; omega) | (dsimp only; congr 1; omega) | (simp only []; omega)) (show 0 + (i + 1 - 0) = _ by omega)) ?_
      exact z_pick [1, 0] rfl (ih (i + 1) (by omega) (by omega) (by omega))

set_option maxHeartbeats 4000000 in
set_option maxRecDepth 100000 in
theorem t_X9_restore {g : G} {σ : Sg}  : MM g mX9_restore [.ref (g.2.2.1 113)] σ (pI (fun r σ' => (r, σ') = if σ 113 32 < 0 then (-4, σ) else (1, up (fl (fl σ 114 0 76 (fun k => σ 128 k)) 127 0 608 (fun k => σ 129 k)) 113 29 (σ 113 32)))) := by
  refine mm_of rfl (by decide) rfl rfl (Nat.le_of_ble_eq_true rfl) (fun x hO hR => ?_)
  refine z_aload_n hO 0 dX9_restore_0 rfl ?_
  refine z_getI hO 32 fl_X9_59 rfl rfl rfl dX9_restore_1 (fun r1 => ?_)
  refine z_if_ge hO 10 dX9_restore_4 (by decide) (by omega) (fun c4 => ?_) (fun c4 => ?_)
  ·
    refine z_iconst hO dX9_restore_10 ?_
    refine z_istore_n hO (L' := [(1, _), (0, _)]) dX9_restore_11 (by decide) rfl ?_
    refine z_sg (fl_0 (c := 114) (lo := 0) (hi := 0 + (0 - 0)) (f := fun k => σ 128 k) (by omega)).symm ?_
    refine z_pick [1, 0] rfl (lp_restore1 hO ?_ 77 0 (by decide) (by decide) (by decide))
    refine z_iconst hO dX9_restore_36 ?_
    refine z_istore_n hO (L' := [(1, _), (0, _)]) dX9_restore_37 (by decide) rfl ?_
    refine z_sg (fl_0 (c := 127) (lo := 0) (hi := 0 + (0 - 0)) (f := fun k => (fl σ 114 0 (0 + (76 - 0)) (fun k => σ 128 k)) 129 k) (by omega)).symm ?_
    refine z_pick [1, 0] rfl (lp_restore2 hO ?_ 609 0 (by decide) (by decide) (by decide))
    refine z_aload_n hO 0 dX9_restore_63 rfl ?_
    refine z_aload_n hO 0 dX9_restore_64 rfl ?_
    refine z_getI hO 32 fl_X9_59 rfl rfl rfl dX9_restore_65 (fun r65 => ?_)
    try simp only [fl_row_ne, fl_ne, up_row_ne, up_ne, up_eq, up_nk, up_up, up_self, ne_eq, Nat.reduceEqDiff, Int.reduceEq, reduceCtorEq, not_false_eq_true, not_true_eq_false] at r65 ⊢
    refine z_putI hO 29 fp_X9_192 rfl rfl rfl (by omega) rfl rfl dX9_restore_68 ?_
    refine z_iconst hO dX9_restore_71 ?_
    exact z_retI hO hR dX9_restore_72 (by rw [if_neg (by omega)]; rfl)
  ·
    refine z_bipush hO dX9_restore_7 (by decide) ?_
    exact z_retI hO hR dX9_restore_9 (by rw [if_pos (by omega)])

set_option maxHeartbeats 4000000 in
set_option maxRecDepth 100000 in
theorem lp_undo {g : G} {x : Cx} {σ : Sg}  (hO : Ok g x RX9 cX9_undo 2 1) (hu : 0 ≤ σ 113 29 ∧ σ 113 29 ≤ 7) (hE : Z g x 2 54 [(0, .ref (g.2.2.1 113)), (1, vI (76))] [] (fl σ 114 (0) (0 + (76 - 0)) (fun k => σ 127 (76 * σ 113 29 + k)))) : ∀ (k : Nat) (i : Int), 0 ≤ i → i ≤ 76 → 76 - i < k → Z g x 2 22 [(0, .ref (g.2.2.1 113)), (1, vI i)] [] (fl σ 114 (0) (0 + (i - 0)) (fun k => σ 127 (76 * σ 113 29 + k))) := by
  intro k
  induction k with
  | zero => intro i h0 h1 h2; exact absurd h2 (by omega)
  | succ k ih =>
    intro i h0 h1 h2
    refine z_iload_n hO 1 dX9_undo_22 rfl ?_
    refine z_bipush hO dX9_undo_23 (by decide) ?_
    refine z_icmp_ge hO 54 dX9_undo_25 (by decide) (by omega) (by decide) (fun c25 => ?_) (fun c25 => ?_)
    ·
      have ei : i = 76 := by omega
      rw [ei]
      exact z_pick [0, 1] rfl hE
    ·
      refine z_aload_n hO 0 dX9_undo_28 rfl ?_
      refine z_getR hO (114) fl_X9_7 rfl rfl dX9_undo_29 ?_
      refine z_iload_n hO 1 dX9_undo_32 rfl ?_
      refine z_aload_n hO 0 dX9_undo_33 rfl ?_
      refine z_getR hO (127) fl_X9_50 rfl rfl dX9_undo_34 ?_
      refine z_bipush hO dX9_undo_37 (by decide) ?_
      refine z_aload_n hO 0 dX9_undo_39 rfl ?_
      refine z_getI hO 29 fl_X9_192 rfl rfl rfl dX9_undo_40 (fun r40 => ?_)
      try simp (disch := omega) only [fl_row_ne, fl_ne, up_row_ne, up_ne, up_eq, up_nk, up_up, up_self, ne_eq, Nat.reduceEqDiff, Int.reduceEq, reduceCtorEq, not_false_eq_true, not_true_eq_false, fl_out] at r40 ⊢
      refine z_imul hO dX9_undo_43 ?_
      refine z_iload_n hO 1 dX9_undo_44 rfl ?_
      refine z_iadd hO dX9_undo_45 ?_
      refine z_iald hO rfl (by omega) (by decide) dX9_undo_46 (fun r46 => ?_)
      try simp (disch := omega) only [fl_row_ne, fl_ne, up_row_ne, up_ne, up_eq, up_nk, up_up, up_self, ne_eq, Nat.reduceEqDiff, Int.reduceEq, reduceCtorEq, not_false_eq_true, not_true_eq_false, fl_out] at r46 ⊢
      refine z_iast hO rfl (by omega) (by decide) (by omega) dX9_undo_47 ?_
      refine z_iinc hO (L' := [(1, _), (0, _)]) 1 dX9_undo_48 rfl (by decide) rfl ?_
      refine z_goto hO 22 dX9_undo_51 (by decide) ?_
      refine z_sg (fl_s (by omega) (by omega) (by first | rfl | (congr 1; omega) | (dsimp only; congr 1; omega) | (simp only []; omega)) (show 0 + (i + 1 - 0) = _ by omega)) ?_
      exact z_pick [1, 0] rfl (ih (i + 1) (by omega) (by omega) (by omega))

set_option maxHeartbeats 4000000 in
set_option maxRecDepth 100000 in
theorem t_X9_undo {g : G} {σ : Sg} (hu : 0 ≤ σ 113 29 ∧ σ 113 29 ≤ 8) : MM g mX9_undo [.ref (g.2.2.1 113)] σ (pI (fun r σ' => (r, σ') = if σ 113 29 = 0 then (-4, σ) else (σ 113 29 - 1, fl (up σ 113 29 (σ 113 29 - 1)) 114 0 76 (fun k => σ 127 (76 * (σ 113 29 - 1) + k))))) := by
  refine mm_of rfl (by decide) rfl rfl (Nat.le_of_ble_eq_true rfl) (fun x hO hR => ?_)
  refine z_aload_n hO 0 dX9_undo_0 rfl ?_
  refine z_getI hO 29 fl_X9_192 rfl rfl rfl dX9_undo_1 (fun r1 => ?_)
  refine z_if_ne hO 10 dX9_undo_4 (by decide) (by omega) (fun c4 => ?_) (fun c4 => ?_)
  ·
    refine z_aload_n hO 0 dX9_undo_10 rfl ?_
    refine z_dup hO dX9_undo_11 rfl ?_
    refine z_getI hO 29 fl_X9_192 rfl rfl rfl dX9_undo_12 (fun r12 => ?_)
    refine z_iconst hO dX9_undo_15 ?_
    refine z_isub hO dX9_undo_16 ?_
    refine z_putI hO 29 fp_X9_192 rfl rfl rfl (by omega) rfl rfl dX9_undo_17 ?_
    refine z_iconst hO dX9_undo_20 ?_
    refine z_istore_n hO (L' := [(1, _), (0, _)]) dX9_undo_21 (by decide) rfl ?_
    refine z_sg (fl_0 (c := 114) (lo := 0) (hi := 0 + (0 - 0)) (f := fun k => (up σ 113 29 (σ 113 29 - 1)) 127 (76 * (up σ 113 29 (σ 113 29 - 1)) 113 29 + k)) (by omega)).symm ?_
    refine z_pick [1, 0] rfl (lp_undo hO (by simp only [fl_row_ne, fl_ne, up_row_ne, up_ne, up_eq, up_nk, up_up, up_self, ne_eq, Nat.reduceEqDiff, Int.reduceEq, reduceCtorEq, not_false_eq_true, not_true_eq_false]; omega) ?_ 77 0 (by decide) (by decide) (by decide))
    simp only [fl_row_ne, fl_ne, up_row_ne, up_ne, up_eq, up_nk, up_up, up_self, ne_eq, Nat.reduceEqDiff, Int.reduceEq, reduceCtorEq, not_false_eq_true, not_true_eq_false]
    refine z_aload_n hO 0 dX9_undo_54 rfl ?_
    refine z_getI hO 29 fl_X9_192 rfl rfl rfl dX9_undo_55 (fun r55 => ?_)
    try simp only [fl_row_ne, fl_ne, up_row_ne, up_ne, up_eq, up_nk, up_up, up_self, ne_eq, Nat.reduceEqDiff, Int.reduceEq, reduceCtorEq, not_false_eq_true, not_true_eq_false] at r55 ⊢
    exact z_retI hO hR dX9_undo_58 (by rw [if_neg (by omega)]; rfl)
  ·
    refine z_bipush hO dX9_undo_7 (by decide) ?_
    exact z_retI hO hR dX9_undo_9 (by rw [if_pos (by omega)])

set_option maxHeartbeats 4000000 in
set_option maxRecDepth 100000 in
theorem lp_notes1 {g : G} {x : Cx} {σ : Sg}  (hO : Ok g x RX9 cX9_notes 2 1)  (hE : Z g x 2 40 [(0, .ref (g.2.2.1 113)), (1, vI (608))] [] (fl σ 127 (0) (0 + (608 - 76)) (fun k => σ 127 (k + 76)))) : ∀ (k : Nat) (i : Int), 76 ≤ i → i ≤ 608 → 608 - i < k → Z g x 2 12 [(0, .ref (g.2.2.1 113)), (1, vI i)] [] (fl σ 127 (0) (0 + (i - 76)) (fun k => σ 127 (k + 76))) := by
  intro k
  induction k with
  | zero => intro i h0 h1 h2; exact absurd h2 (by omega)
  | succ k ih =>
    intro i h0 h1 h2
    refine z_iload_n hO 1 dX9_notes_12 rfl ?_
    refine z_sipush hO dX9_notes_13 (by decide) ?_
    refine z_icmp_ge hO 40 dX9_notes_16 (by decide) (by omega) (by decide) (fun c16 => ?_) (fun c16 => ?_)
    ·
      have ei : i = 608 := by omega
      rw [ei]
      exact z_pick [0, 1] rfl hE
    ·
      refine z_aload_n hO 0 dX9_notes_19 rfl ?_
      refine z_getR hO (127) fl_X9_50 rfl rfl dX9_notes_20 ?_
      refine z_iload_n hO 1 dX9_notes_23 rfl ?_
      refine z_bipush hO dX9_notes_24 (by decide) ?_
      refine z_isub hO dX9_notes_26 ?_
      refine z_aload_n hO 0 dX9_notes_27 rfl ?_
      refine z_getR hO (127) fl_X9_50 rfl rfl dX9_notes_28 ?_
      refine z_iload_n hO 1 dX9_notes_31 rfl ?_
      refine z_iald hO rfl (by omega) (by decide) dX9_notes_32 (fun r32 => ?_)
      try simp (disch := omega) only [fl_row_ne, fl_ne, up_row_ne, up_ne, up_eq, up_nk, up_up, up_self, ne_eq, Nat.reduceEqDiff, Int.reduceEq, reduceCtorEq, not_false_eq_true, not_true_eq_false, fl_out] at r32 ⊢
      refine z_iast hO rfl (by omega) (by decide) (by omega) dX9_notes_33 ?_
      refine z_iinc hO (L' := [(1, _), (0, _)]) 1 dX9_notes_34 rfl (by decide) rfl ?_
      refine z_goto hO 12 dX9_notes_37 (by decide) ?_
      refine z_sg (fl_s (by omega) (by omega) (by first | rfl | (congr 1; omega) | (dsimp only; congr 1; omega) | (simp only []; omega)) (show 0 + (i + 1 - 76) = _ by omega)) ?_
      exact z_pick [1, 0] rfl (ih (i + 1) (by omega) (by omega) (by omega))

set_option maxHeartbeats 4000000 in
set_option maxRecDepth 100000 in
theorem lp_notes2 {g : G} {x : Cx} {σ : Sg}  (hO : Ok g x RX9 cX9_notes 2 1) (hu : 0 ≤ σ 113 29 ∧ σ 113 29 ≤ 7) (hE : Z g x 2 80 [(0, .ref (g.2.2.1 113)), (1, vI (76))] [] (fl σ 127 (76 * σ 113 29) (76 * σ 113 29 + (76 - 0)) (fun k => σ 114 (k - 76 * σ 113 29)))) : ∀ (k : Nat) (i : Int), 0 ≤ i → i ≤ 76 → 76 - i < k → Z g x 2 48 [(0, .ref (g.2.2.1 113)), (1, vI i)] [] (fl σ 127 (76 * σ 113 29) (76 * σ 113 29 + (i - 0)) (fun k => σ 114 (k - 76 * σ 113 29))) := by
  intro k
  induction k with
  | zero => intro i h0 h1 h2; exact absurd h2 (by omega)
  | succ k ih =>
    intro i h0 h1 h2
    refine z_iload_n hO 1 dX9_notes_48 rfl ?_
    refine z_bipush hO dX9_notes_49 (by decide) ?_
    refine z_icmp_ge hO 80 dX9_notes_51 (by decide) (by omega) (by decide) (fun c51 => ?_) (fun c51 => ?_)
    ·
      have ei : i = 76 := by omega
      rw [ei]
      exact z_pick [0, 1] rfl hE
    ·
      refine z_aload_n hO 0 dX9_notes_54 rfl ?_
      refine z_getR hO (127) fl_X9_50 rfl rfl dX9_notes_55 ?_
      refine z_bipush hO dX9_notes_58 (by decide) ?_
      refine z_aload_n hO 0 dX9_notes_60 rfl ?_
      refine z_getI hO 29 fl_X9_192 rfl rfl rfl dX9_notes_61 (fun r61 => ?_)
      try simp (disch := omega) only [fl_row_ne, fl_ne, up_row_ne, up_ne, up_eq, up_nk, up_up, up_self, ne_eq, Nat.reduceEqDiff, Int.reduceEq, reduceCtorEq, not_false_eq_true, not_true_eq_false, fl_out] at r61 ⊢
      refine z_imul hO dX9_notes_64 ?_
      refine z_iload_n hO 1 dX9_notes_65 rfl ?_
      refine z_iadd hO dX9_notes_66 ?_
      refine z_aload_n hO 0 dX9_notes_67 rfl ?_
      refine z_getR hO (114) fl_X9_7 rfl rfl dX9_notes_68 ?_
      refine z_iload_n hO 1 dX9_notes_71 rfl ?_
      refine z_iald hO rfl (by omega) (by decide) dX9_notes_72 (fun r72 => ?_)
      try simp (disch := omega) only [fl_row_ne, fl_ne, up_row_ne, up_ne, up_eq, up_nk, up_up, up_self, ne_eq, Nat.reduceEqDiff, Int.reduceEq, reduceCtorEq, not_false_eq_true, not_true_eq_false, fl_out] at r72 ⊢
      refine z_iast hO rfl (by omega) (by decide) (by omega) dX9_notes_73 ?_
      refine z_iinc hO (L' := [(1, _), (0, _)]) 1 dX9_notes_74 rfl (by decide) rfl ?_
      refine z_goto hO 48 dX9_notes_77 (by decide) ?_
      refine z_sg (fl_s (by omega) (by omega) (by first | rfl | (congr 1; omega) | (dsimp only; congr 1; omega) | (simp only []; omega)) (show 76 * σ 113 29 + (i + 1 - 0) = _ by omega)) ?_
      exact z_pick [1, 0] rfl (ih (i + 1) (by omega) (by omega) (by omega))
