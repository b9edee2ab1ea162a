set_option maxHeartbeats 4000000 in
set_option maxRecDepth 100000 in
theorem t_X9_isWord {g : G} {σ : Sg} {w : Int} (rw : -2147483648 ≤ w ∧ w ≤ 2147483647) : MM g mX9_isWord [vI w] σ (pB (pQ (0 ≤ w ∧ w ≤ 31) σ)) := by
  refine mm_of rfl (by decide) rfl rfl (Nat.le_of_ble_eq_true rfl) (fun x hO hR => ?_)
  refine z_iload_n hO 0 dX9_isWord_0 rfl ?_
  refine z_i2l hO dX9_isWord_1 (by omega) ?_
  refine z_lconst hO 0 dX9_isWord_2 (by decide) ?_
  refine z_ldc2 hO k_X9_246 dX9_isWord_3 ?_
  refine z_csQ hO (t_X9_in (by omega) (by omega) (by omega)) cs_X9_75 rfl rfl (by decide) (Nat.le_of_ble_eq_true rfl) dX9_isWord_6 (fun c6 => ?_) (fun c6 => ?_)
  ·
    exact z_retQT hO hR dX9_isWord_9 (by omega) rfl
  ·
    exact z_retQF hO hR dX9_isWord_9 (by omega) rfl

set_option maxHeartbeats 4000000 in
set_option maxRecDepth 100000 in
theorem t_X9_isSheet {g : G} {σ : Sg} {s : Int} (rs : -2147483648 ≤ s ∧ s ≤ 2147483647) : MM g mX9_isSheet [vI s] σ (pB (pQ (0 ≤ s ∧ s ≤ 3) σ)) := by
  refine mm_of rfl (by decide) rfl rfl (Nat.le_of_ble_eq_true rfl) (fun x hO hR => ?_)
  refine z_iload_n hO 0 dX9_isSheet_0 rfl ?_
  refine z_i2l hO dX9_isSheet_1 (by omega) ?_
  refine z_lconst hO 0 dX9_isSheet_2 (by decide) ?_
  refine z_ldc2 hO k_X9_280 dX9_isSheet_3 ?_
  refine z_csQ hO (t_X9_in (by omega) (by omega) (by omega)) cs_X9_75 rfl rfl (by decide) (Nat.le_of_ble_eq_true rfl) dX9_isSheet_6 (fun c6 => ?_) (fun c6 => ?_)
  ·
    exact z_retQT hO hR dX9_isSheet_9 (by omega) rfl
  ·
    exact z_retQF hO hR dX9_isSheet_9 (by omega) rfl

set_option maxHeartbeats 4000000 in
set_option maxRecDepth 100000 in
theorem t_X9_slot {g : G} {σ : Sg} {s k q : Int} (rs : -2147483648 ≤ s ∧ s ≤ 2147483647) (rk : -2147483648 ≤ k ∧ k ≤ 2147483647) (rq : -2147483648 ≤ q ∧ q ≤ 2147483647) (hn : 0 ≤ σ 114 0 ∧ σ 114 0 ≤ 8) (hV : WV (mv (σ 114))) : MM g mX9_slot [.ref (g.2.2.1 113), vI s, vI k, vI q] σ (pI (pE (if ¬ (0 ≤ s ∧ s < σ 114 0) ∨ k < -1 ∨ ¬ (0 ≤ q ∧ q ≤ 1) then -1 else if k = -1 then σ 114 (4 + 9 * s) else if k < σ 114 (4 + 9 * s) then σ 114 (4 + 9 * s + 1 + 4 * q + k) else -4) σ)) := by
  refine mm_of rfl (by decide) rfl rfl (Nat.le_of_ble_eq_true rfl) (fun x hO hR => ?_)
  have hW : 0 ≤ s ∧ s < σ 114 0 → _ := fun h => hV.2.2 s h.1 h.2
  simp only [mv_c] at hW
  refine z_aload_n hO 0 dX9_slot_0 rfl ?_
  refine z_iload_n hO 1 dX9_slot_1 rfl ?_
  refine z_cvQ hO (t_X9_isSlot (by omega) (by omega)) cv_X9_183 rfl rfl rfl rfl (by decide) (Nat.le_of_ble_eq_true rfl) dX9_slot_2 (fun c2 => ?_) (fun c2 => ?_)
  ·
    refine z_if_eq hO 23 dX9_slot_5 (by decide) (by decide) (fun c5 => absurd c5 (by omega)) (fun c5 => ?_)
    refine z_iload_n hO 2 dX9_slot_8 rfl ?_
    refine z_iconst hO dX9_slot_9 ?_
    refine z_icmp_lt hO 23 dX9_slot_10 (by decide) (by omega) (by decide) (fun c10 => ?_) (fun c10 => ?_)
    ·
      refine z_iconst hO dX9_slot_23 ?_
      exact z_retE hO hR dX9_slot_24 (by (repeat' split) <;> first | rfl | (exfalso; omega)) rfl
    ·
      refine z_iload_n hO 3 dX9_slot_13 rfl ?_
      refine z_i2l hO dX9_slot_14 (by omega) ?_
      refine z_lconst hO 0 dX9_slot_15 (by decide) ?_
      refine z_lconst hO 1 dX9_slot_16 (by decide) ?_
      refine z_csQ hO (t_X9_in (by omega) (by omega) (by omega)) cs_X9_75 rfl rfl (by decide) (Nat.le_of_ble_eq_true rfl) dX9_slot_17 (fun c17 => ?_) (fun c17 => ?_)
      ·
        refine z_if_ne hO 25 dX9_slot_20 (by decide) (by decide) (fun c20 => ?_) (fun c20 => absurd c20 (by omega))
        refine z_iload_n hO 2 dX9_slot_25 rfl ?_
        refine z_iconst hO dX9_slot_26 ?_
        refine z_icmp_ne hO 43 dX9_slot_27 (by decide) (by omega) (by decide) (fun c27 => ?_) (fun c27 => ?_)
        ·
          refine z_iload_n hO 2 dX9_slot_43 rfl ?_
          refine z_aload_n hO 0 dX9_slot_44 rfl ?_
          refine z_getR hO (114) fl_X9_7 rfl rfl dX9_slot_45 ?_
          refine z_aload_n hO 0 dX9_slot_48 rfl ?_
          refine z_iload_n hO 1 dX9_slot_49 rfl ?_
          refine z_cvE hO (t_X9_at) cv_X9_79 rfl rfl rfl rfl (by decide) (Nat.le_of_ble_eq_true rfl) dX9_slot_50 ?_
          refine z_iald hO rfl (by omega) (by decide) dX9_slot_53 (fun r53 => ?_)
          refine z_icmp_ge hO 78 dX9_slot_54 (by decide) (by omega) (by omega) (fun c54 => ?_) (fun c54 => ?_)
          ·
            refine z_bipush hO dX9_slot_78 (by decide) ?_
            exact z_retE hO hR dX9_slot_80 (by (repeat' split) <;> first | rfl | (exfalso; omega)) rfl
          ·
            refine z_aload_n hO 0 dX9_slot_57 rfl ?_
            refine z_getR hO (114) fl_X9_7 rfl rfl dX9_slot_58 ?_
            refine z_aload_n hO 0 dX9_slot_61 rfl ?_
            refine z_iload_n hO 1 dX9_slot_62 rfl ?_
            refine z_cvE hO (t_X9_at) cv_X9_79 rfl rfl rfl rfl (by decide) (Nat.le_of_ble_eq_true rfl) dX9_slot_63 ?_
            refine z_iconst hO dX9_slot_66 ?_
            refine z_iadd hO dX9_slot_67 ?_
            refine z_iconst hO dX9_slot_68 ?_
            refine z_iload_n hO 3 dX9_slot_69 rfl ?_
            refine z_imul hO dX9_slot_70 ?_
            refine z_iadd hO dX9_slot_71 ?_
            refine z_iload_n hO 2 dX9_slot_72 rfl ?_
            refine z_iadd hO dX9_slot_73 ?_
            refine z_iald hO rfl (by omega) (by decide) dX9_slot_74 (fun r74 => ?_)
            refine z_goto hO 80 dX9_slot_75 (by decide) ?_
            exact z_retE hO hR dX9_slot_80 (by (repeat' split) <;> first | rfl | (exfalso; omega)) rfl
        ·
          refine z_aload_n hO 0 dX9_slot_30 rfl ?_
          refine z_getR hO (114) fl_X9_7 rfl rfl dX9_slot_31 ?_
          refine z_aload_n hO 0 dX9_slot_34 rfl ?_
          refine z_iload_n hO 1 dX9_slot_35 rfl ?_
          refine z_cvE hO (t_X9_at) cv_X9_79 rfl rfl rfl rfl (by decide) (Nat.le_of_ble_eq_true rfl) dX9_slot_36 ?_
          refine z_iald hO rfl (by omega) (by decide) dX9_slot_39 (fun r39 => ?_)
          refine z_goto hO 80 dX9_slot_40 (by decide) ?_
          exact z_retE hO hR dX9_slot_80 (by (repeat' split) <;> first | rfl | (exfalso; omega)) rfl
      ·
        refine z_if_ne hO 25 dX9_slot_20 (by decide) (by decide) (fun c20 => absurd c20 (by omega)) (fun c20 => ?_)
        refine z_iconst hO dX9_slot_23 ?_
        exact z_retE hO hR dX9_slot_24 (by (repeat' split) <;> first | rfl | (exfalso; omega)) rfl
  ·
    refine z_if_eq hO 23 dX9_slot_5 (by decide) (by decide) (fun c5 => ?_) (fun c5 => absurd c5 (by omega))
    refine z_iconst hO dX9_slot_23 ?_
    exact z_retE hO hR dX9_slot_24 (by (repeat' split) <;> first | rfl | (exfalso; omega)) rfl

set_option maxHeartbeats 4000000 in
set_option maxRecDepth 100000 in
theorem t_X9_type {g : G} {σ : Sg} {l : Int} (rl : -2147483648 ≤ l ∧ l ≤ 2147483647) (ht : 0 ≤ σ 113 23 ∧ σ 113 23 ≤ 120) : MM g mX9_type [.ref (g.2.2.1 113), vI l] σ (pI (fun r σ' => (r, σ') = if ¬ (32 ≤ l ∧ l ≤ 126) then (-1, σ) else if σ 113 23 = 120 then (-3, σ) else (σ 113 23 + 1, up (up σ 124 (σ 113 23) l) 113 23 (σ 113 23 + 1)))) := by
  refine mm_of rfl (by decide) rfl rfl (Nat.le_of_ble_eq_true rfl) (fun x hO hR => ?_)
  refine z_iload_n hO 1 dX9_type_0 rfl ?_
  refine z_i2l hO dX9_type_1 (by omega) ?_
  refine z_ldc2 hO k_X9_195 dX9_type_2 ?_
  refine z_ldc2 hO k_X9_197 dX9_type_5 ?_
  refine z_csQ hO (t_X9_in (by omega) (by omega) (by omega)) cs_X9_75 rfl rfl (by decide) (Nat.le_of_ble_eq_true rfl) dX9_type_8 (fun c8 => ?_) (fun c8 => ?_)
  ·
    refine z_if_ne hO 16 dX9_type_11 (by decide) (by decide) (fun c11 => ?_) (fun c11 => absurd c11 (by omega))
    refine z_aload_n hO 0 dX9_type_16 rfl ?_
    refine z_getI hO 23 fl_X9_199 rfl rfl rfl dX9_type_17 (fun r17 => ?_)
    refine z_bipush hO dX9_type_20 (by decide) ?_
    refine z_icmp_ne hO 28 dX9_type_22 (by decide) (by omega) (by decide) (fun c22 => ?_) (fun c22 => ?_)
    ·
      refine z_aload_n hO 0 dX9_type_28 rfl ?_
      refine z_getR hO (124) fl_X9_41 rfl rfl dX9_type_29 ?_
      refine z_aload_n hO 0 dX9_type_32 rfl ?_
      refine z_getI hO 23 fl_X9_199 rfl rfl rfl dX9_type_33 (fun r33 => ?_)
      refine z_iload_n hO 1 dX9_type_36 rfl ?_
      refine z_iast hO rfl (by omega) (by decide) (by omega) dX9_type_37 ?_
      refine z_aload_n hO 0 dX9_type_38 rfl ?_
      refine z_dup hO dX9_type_39 rfl ?_
      refine z_getI hO 23 fl_X9_199 rfl rfl rfl dX9_type_40 (fun r40 => ?_)
      try simp only [fl_row_ne, fl_ne, up_row_ne, up_ne, up_eq, up_nk, up_up, up_self, ne_eq, Nat.reduceEqDiff, Int.reduceEq, reduceCtorEq, not_false_eq_true, not_true_eq_false] at r40 ⊢
      refine z_iconst hO dX9_type_43 ?_
      refine z_iadd hO dX9_type_44 ?_
      refine z_putI hO 23 fp_X9_199 rfl rfl rfl (by omega) rfl rfl dX9_type_45 ?_
      refine z_aload_n hO 0 dX9_type_48 rfl ?_
      refine z_getI hO 23 fl_X9_199 rfl rfl rfl dX9_type_49 (fun r49 => ?_)
      try simp only [fl_row_ne, fl_ne, up_row_ne, up_ne, up_eq, up_nk, up_up, up_self, ne_eq, Nat.reduceEqDiff, Int.reduceEq, reduceCtorEq, not_false_eq_true, not_true_eq_false] at r49 ⊢
      exact z_retI hO hR dX9_type_52 (by (repeat' split) <;> first | rfl | (exfalso; omega))
    ·
      refine z_bipush hO dX9_type_25 (by decide) ?_
      exact z_retI hO hR dX9_type_27 (by (repeat' split) <;> first | rfl | (exfalso; omega))
  ·
    refine z_if_ne hO 16 dX9_type_11 (by decide) (by decide) (fun c11 => absurd c11 (by omega)) (fun c11 => ?_)
    refine z_iconst hO dX9_type_14 ?_
    exact z_retI hO hR dX9_type_15 (by (repeat' split) <;> first | rfl | (exfalso; omega))

set_option maxHeartbeats 4000000 in
set_option maxRecDepth 100000 in
theorem t_X9_seed {g : G} {σ : Sg} {v : Int} (rv : -2147483648 ≤ v ∧ v ≤ 2147483647) : MM g mX9_seed [.ref (g.2.2.1 113), vI v] σ (pI (fun r σ' => (r, σ') = if v < 0 then (-1, σ) else (σ 114 3, up σ 114 3 v))) := by
  refine mm_of rfl (by decide) rfl rfl (Nat.le_of_ble_eq_true rfl) (fun x hO hR => ?_)
  refine z_iload_n hO 1 dX9_seed_0 rfl ?_
  refine z_if_ge hO 6 dX9_seed_1 (by decide) (by omega) (fun c1 => ?_) (fun c1 => ?_)
  ·
    refine z_aload_n hO 0 dX9_seed_6 rfl ?_
    refine z_getR hO (114) fl_X9_7 rfl rfl dX9_seed_7 ?_
    refine z_iconst hO dX9_seed_10 ?_
    refine z_iald hO rfl (by omega) (by decide) dX9_seed_11 (fun r11 => ?_)
    refine z_istore_n hO (L' := [(2, _), (0, _), (1, _)]) dX9_seed_12 (by decide) rfl ?_
    refine z_aload_n hO 1 dX9_seed_13 rfl ?_
    refine z_getR hO (114) fl_X9_7 rfl rfl dX9_seed_14 ?_
    refine z_iconst hO dX9_seed_17 ?_
    refine z_iload_n hO 2 dX9_seed_18 rfl ?_
    refine z_iast hO rfl (by omega) (by decide) (by omega) dX9_seed_19 ?_
    refine z_iload_n hO 0 dX9_seed_20 rfl ?_
    exact z_retI hO hR dX9_seed_21 (by (repeat' split) <;> first | rfl | (exfalso; omega))
  ·
    refine z_iconst hO dX9_seed_4 ?_
    exact z_retI hO hR dX9_seed_5 (by (repeat' split) <;> first | rfl | (exfalso; omega))

set_option maxHeartbeats 4000000 in
set_option maxRecDepth 100000 in
theorem t_X9_hears {g : G} {σ : Sg} {w q : Int} (hw : 0 ≤ w ∧ w ≤ 31) (hq : 0 ≤ q ∧ q ≤ 9) (hn : 0 ≤ σ 114 0 ∧ σ 114 0 ≤ 7) : MM g mX9_hears [.ref (g.2.2.1 113), vI w, vI q] σ (pV (fun σ' => σ' = up (up (up (up σ 114 0 (σ 114 0 + 1)) 114 (4 + 9 * σ 114 0) 1) 114 (4 + 9 * σ 114 0 + 1) w) 114 (4 + 9 * σ 114 0 + 5) q)) := by
  refine mm_of rfl (by decide) rfl rfl (Nat.le_of_ble_eq_true rfl) (fun x hO hR => ?_)
  refine z_aload_n hO 0 dX9_hears_0 rfl ?_
  refine z_getR hO (114) fl_X9_7 rfl rfl dX9_hears_1 ?_
  refine z_iconst hO dX9_hears_4 ?_
  refine z_iald hO rfl (by omega) (by decide) dX9_hears_5 (fun r5 => ?_)
  refine z_istore_n hO (L' := [(3, _), (0, _), (1, _), (2, _)]) dX9_hears_6 (by decide) rfl ?_
  refine z_aload_n hO 1 dX9_hears_7 rfl ?_
  refine z_getR hO (114) fl_X9_7 rfl rfl dX9_hears_8 ?_
  refine z_iconst hO dX9_hears_11 ?_
  refine z_dup2 hO dX9_hears_12 rfl rfl ?_
  refine z_iald hO rfl (by omega) (by decide) dX9_hears_13 (fun r13 => ?_)
  refine z_iconst hO dX9_hears_14 ?_
  refine z_iadd hO dX9_hears_15 ?_
  refine z_iast hO rfl (by omega) (by decide) (by omega) dX9_hears_16 ?_
  refine z_aload_n hO 1 dX9_hears_17 rfl ?_
  refine z_getR hO (114) fl_X9_7 rfl rfl dX9_hears_18 ?_
  refine z_aload_n hO 1 dX9_hears_21 rfl ?_
  refine z_iload_n hO 0 dX9_hears_22 rfl ?_
  refine z_cvE hO (t_X9_at) cv_X9_79 rfl rfl rfl rfl (by decide) (Nat.le_of_ble_eq_true rfl) dX9_hears_23 ?_
  try simp only [fl_row_ne, fl_ne, up_row_ne, up_ne, up_eq, up_nk, up_up, up_self, ne_eq, Nat.reduceEqDiff, Int.reduceEq, reduceCtorEq, not_false_eq_true, not_true_eq_false]
  refine z_iconst hO dX9_hears_26 ?_
  refine z_iast hO rfl (by omega) (by decide) (by omega) dX9_hears_27 ?_
  refine z_aload_n hO 1 dX9_hears_28 rfl ?_
  refine z_getR hO (114) fl_X9_7 rfl rfl dX9_hears_29 ?_
  refine z_aload_n hO 1 dX9_hears_32 rfl ?_
  refine z_iload_n hO 0 dX9_hears_33 rfl ?_
  refine z_cvE hO (t_X9_at) cv_X9_79 rfl rfl rfl rfl (by decide) (Nat.le_of_ble_eq_true rfl) dX9_hears_34 ?_
  try simp only [fl_row_ne, fl_ne, up_row_ne, up_ne, up_eq, up_nk, up_up, up_self, ne_eq, Nat.reduceEqDiff, Int.reduceEq, reduceCtorEq, not_false_eq_true, not_true_eq_false]
  refine z_iconst hO dX9_hears_37 ?_
  refine z_iadd hO dX9_hears_38 ?_
  refine z_iload_n hO 2 dX9_hears_39 rfl ?_
  refine z_iast hO rfl (by omega) (by decide) (by omega) dX9_hears_40 ?_
  refine z_aload_n hO 1 dX9_hears_41 rfl ?_
  refine z_getR hO (114) fl_X9_7 rfl rfl dX9_hears_42 ?_
  refine z_aload_n hO 1 dX9_hears_45 rfl ?_
  refine z_iload_n hO 0 dX9_hears_46 rfl ?_
  refine z_cvE hO (t_X9_at) cv_X9_79 rfl rfl rfl rfl (by decide) (Nat.le_of_ble_eq_true rfl) dX9_hears_47 ?_
  try simp only [fl_row_ne, fl_ne, up_row_ne, up_ne, up_eq, up_nk, up_up, up_self, ne_eq, Nat.reduceEqDiff, Int.reduceEq, reduceCtorEq, not_false_eq_true, not_true_eq_false]
  refine z_iconst hO dX9_hears_50 ?_
  refine z_iadd hO dX9_hears_51 ?_
  refine z_iload_n hO 3 dX9_hears_52 rfl ?_
  refine z_iast hO rfl (by omega) (by decide) (by omega) dX9_hears_53 ?_
  exact z_retV hO hR dX9_hears_54 (rfl)

set_option maxHeartbeats 4000000 in
set_option maxRecDepth 100000 in
theorem t_X9_comes {g : G} {σ : Sg} {s w q : Int} (hw : 0 ≤ w ∧ w ≤ 31) (hq : 0 ≤ q ∧ q ≤ 9) (hs : 0 ≤ s ∧ s < 8) (hc : 0 ≤ σ 114 (4 + 9 * s) ∧ σ 114 (4 + 9 * s) < 4) : MM g mX9_comes [.ref (g.2.2.1 113), vI s, vI w, vI q] σ (pV (fun σ' => σ' = up (up (up σ 114 (4 + 9 * s + 1 + σ 114 (4 + 9 * s)) w) 114 (4 + 9 * s + 5 + σ 114 (4 + 9 * s)) q) 114 (4 + 9 * s) (σ 114 (4 + 9 * s) + 1))) := by
  refine mm_of rfl (by decide) rfl rfl (Nat.le_of_ble_eq_true rfl) (fun x hO hR => ?_)
  refine z_aload_n hO 0 dX9_comes_0 rfl ?_
  refine z_getR hO (114) fl_X9_7 rfl rfl dX9_comes_1 ?_
  refine z_aload_n hO 0 dX9_comes_4 rfl ?_
  refine z_iload_n hO 1 dX9_comes_5 rfl ?_
  refine z_cvE hO (t_X9_at) cv_X9_79 rfl rfl rfl rfl (by decide) (Nat.le_of_ble_eq_true rfl) dX9_comes_6 ?_
  refine z_iald hO rfl (by omega) (by decide) dX9_comes_9 (fun r9 => ?_)
  refine z_istore hO (L' := [(4, _), (0, _), (1, _), (2, _), (3, _)]) dX9_comes_10 (by decide) rfl ?_
  refine z_aload_n hO 1 dX9_comes_12 rfl ?_
  refine z_getR hO (114) fl_X9_7 rfl rfl dX9_comes_13 ?_
  refine z_aload_n hO 1 dX9_comes_16 rfl ?_
  refine z_iload_n hO 2 dX9_comes_17 rfl ?_
  refine z_cvE hO (t_X9_at) cv_X9_79 rfl rfl rfl rfl (by decide) (Nat.le_of_ble_eq_true rfl) dX9_comes_18 ?_
  refine z_iconst hO dX9_comes_21 ?_
  refine z_iadd hO dX9_comes_22 ?_
  refine z_iload hO 0 dX9_comes_23 rfl ?_
  refine z_iadd hO dX9_comes_25 ?_
  refine z_iload_n hO 3 dX9_comes_26 rfl ?_
  refine z_iast hO rfl (by omega) (by decide) (by omega) dX9_comes_27 ?_
  refine z_aload_n hO 1 dX9_comes_28 rfl ?_
  refine z_getR hO (114) fl_X9_7 rfl rfl dX9_comes_29 ?_
  refine z_aload_n hO 1 dX9_comes_32 rfl ?_
  refine z_iload_n hO 2 dX9_comes_33 rfl ?_
  refine z_cvE hO (t_X9_at) cv_X9_79 rfl rfl rfl rfl (by decide) (Nat.le_of_ble_eq_true rfl) dX9_comes_34 ?_
  try simp (disch := omega) only [fl_row_ne, fl_ne, up_row_ne, up_ne, up_eq, up_nk, up_up, up_self, ne_eq, Nat.reduceEqDiff, Int.reduceEq, reduceCtorEq, not_false_eq_true, not_true_eq_false]
  refine z_iconst hO dX9_comes_37 ?_
  refine z_iadd hO dX9_comes_38 ?_
  refine z_iload hO 0 dX9_comes_39 rfl ?_
  refine z_iadd hO dX9_comes_41 ?_
  refine z_iload_n hO 4 dX9_comes_42 rfl ?_
  refine z_iast hO rfl (by omega) (by decide) (by omega) dX9_comes_43 ?_
  refine z_aload_n hO 1 dX9_comes_44 rfl ?_
  refine z_getR hO (114) fl_X9_7 rfl rfl dX9_comes_45 ?_
  refine z_aload_n hO 1 dX9_comes_48 rfl ?_
  refine z_iload_n hO 2 dX9_comes_49 rfl ?_
  refine z_cvE hO (t_X9_at) cv_X9_79 rfl rfl rfl rfl (by decide) (Nat.le_of_ble_eq_true rfl) dX9_comes_50 ?_
  try simp (disch := omega) only [fl_row_ne, fl_ne, up_row_ne, up_ne, up_eq, up_nk, up_up, up_self, ne_eq, Nat.reduceEqDiff, Int.reduceEq, reduceCtorEq, not_false_eq_true, not_true_eq_false]
  refine z_dup2 hO dX9_comes_53 rfl rfl ?_
  refine z_iald hO rfl (by omega) (by decide) dX9_comes_54 (fun r54 => ?_)
  try simp (disch := omega) only [fl_row_ne, fl_ne, up_row_ne, up_ne, up_eq, up_nk, up_up, up_self, ne_eq, Nat.reduceEqDiff, Int.reduceEq, reduceCtorEq, not_false_eq_true, not_true_eq_false] at r54 ⊢
  refine z_iconst hO dX9_comes_55 ?_
  refine z_iadd hO dX9_comes_56 ?_
  refine z_iast hO rfl (by omega) (by decide) (by omega) dX9_comes_57 ?_
  exact z_retV hO hR dX9_comes_58 (rfl)

def cutF (v lane : Int) : Int := if lane = 0 then (v + 128) % 256 - 128 else if lane = 1 then (v + 32768) % 65536 - 32768 else if lane = 2 then (v + 2147483648) % 4294967296 - 2147483648 else v
theorem i2b_ok (a : Int) : (Int32.ofInt a).toInt8.toInt32 = Int32.ofInt ((a + 128) % 256 - 128) := by
  rw [Int32.toInt8_ofInt, ← Int32.toInt_inj, Int8.toInt_toInt32, Int8.toInt_ofInt, Int32.toInt_ofInt]
  simp only [Int.bmod_def, Int8.size, Int16.size, Int32.size]
  omega
theorem i2s_ok (a : Int) : (Int32.ofInt a).toInt16.toInt32 = Int32.ofInt ((a + 32768) % 65536 - 32768) := by
  rw [Int32.toInt16_ofInt, ← Int32.toInt_inj, Int16.toInt_toInt32, Int16.toInt_ofInt, Int32.toInt_ofInt]
  simp only [Int.bmod_def, Int8.size, Int16.size, Int32.size]
  omega
theorem ofInt_32 (a : Int) : Int32.ofInt a = Int32.ofInt ((a + 2147483648) % 4294967296 - 2147483648) := by
  rw [← Int32.toInt_inj, Int32.toInt_ofInt, Int32.toInt_ofInt]
  simp only [Int.bmod_def, Int8.size, Int16.size, Int32.size]
  omega
theorem z_norm {g : G} {x : Cx} {nL pc : Nat} {L : List (Nat × Value)} {S : List Value} {σ : Sg} {a : Int} (k : Z g x nL pc L (vI ((a + 2147483648) % 4294967296 - 2147483648) :: S) σ) : Z g x nL pc L (vI a :: S) σ := by
  have e : vI a = vI ((a + 2147483648) % 4294967296 - 2147483648) := congrArg Value.int (ofInt_32 a)
  rw [e]; exact k

set_option maxHeartbeats 4000000 in
set_option maxRecDepth 100000 in
theorem t_X9_cut {g : G} {σ : Sg} {v lane : Int} (rv : -9223372036854775808 ≤ v ∧ v ≤ 9223372036854775807) (rl : -2147483648 ≤ lane ∧ lane ≤ 2147483647) : MM g mX9_cut [vL v, vI lane] σ (pL (pE (cutF v lane) σ)) := by
  refine mm_of rfl (by decide) rfl rfl (Nat.le_of_ble_eq_true rfl) (fun x hO hR => ?_)
  refine z_iload_n hO 1 dX9_cut_0 rfl ?_
  refine z_if_ne hO 11 dX9_cut_1 (by decide) (by omega) (fun c1 => ?_) (fun c1 => ?_)
  ·
    refine z_iload_n hO 1 dX9_cut_11 rfl ?_
    refine z_iconst hO dX9_cut_12 ?_
    refine z_icmp_ne hO 23 dX9_cut_13 (by decide) (by omega) (by decide) (fun c13 => ?_) (fun c13 => ?_)
    ·
      refine z_iload_n hO 1 dX9_cut_23 rfl ?_
      refine z_iconst hO dX9_cut_24 ?_
      refine z_icmp_ne hO 34 dX9_cut_25 (by decide) (by omega) (by decide) (fun c25 => ?_) (fun c25 => ?_)
      ·
        refine z_lload_n hO 0 dX9_cut_34 rfl ?_
        exact z_retEL hO hR dX9_cut_35 (by unfold cutF; (repeat' split) <;> first | rfl | (exfalso; omega)) rfl
      ·
        refine z_lload_n hO 0 dX9_cut_28 rfl ?_
        refine z_l2i hO dX9_cut_29 ?_
        refine z_norm ?_
        refine z_i2l hO dX9_cut_30 (by omega) ?_
        refine z_goto hO 35 dX9_cut_31 (by decide) ?_
        exact z_retEL hO hR dX9_cut_35 (by unfold cutF; (repeat' split) <;> first | rfl | (exfalso; omega)) rfl
    ·
      refine z_lload_n hO 0 dX9_cut_16 rfl ?_
      refine z_l2i hO dX9_cut_17 ?_
      refine z_i2s hO ((v + 32768) % 65536 - 32768) dX9_cut_18 (i2s_ok v) ?_
      refine z_i2l hO dX9_cut_19 (by omega) ?_
      refine z_goto hO 35 dX9_cut_20 (by decide) ?_
      exact z_retEL hO hR dX9_cut_35 (by unfold cutF; (repeat' split) <;> first | rfl | (exfalso; omega)) rfl
  ·
    refine z_lload_n hO 0 dX9_cut_4 rfl ?_
    refine z_l2i hO dX9_cut_5 ?_
    refine z_i2b hO ((v + 128) % 256 - 128) dX9_cut_6 (i2b_ok v) ?_
    refine z_i2l hO dX9_cut_7 (by omega) ?_
    refine z_goto hO 35 dX9_cut_8 (by decide) ?_
    exact z_retEL hO hR dX9_cut_35 (by unfold cutF; (repeat' split) <;> first | rfl | (exfalso; omega)) rfl

set_option maxHeartbeats 4000000 in
set_option maxRecDepth 100000 in
theorem t_X9_why {g : G} {σ : Sg} {s lane i n : Int} (hs : 0 ≤ s ∧ s ≤ 3) (rl : -2147483648 ≤ lane ∧ lane ≤ 2147483647) (ri : -2147483648 ≤ i ∧ i ≤ 2147483647) (rn : -2147483648 ≤ n ∧ n ≤ 2147483647) (hz : 0 ≤ σ 131 s ∧ σ 131 s ≤ 24) : MM g mX9_why [.ref (g.2.2.1 113), vI s, vI lane, vI i, vI n] σ (pI (pE (if σ 130 s < 0 then -11 else if σ 130 s ≠ lane then -12 else if i < 0 ∨ σ 131 s - i < n then -13 else 0) σ)) := by
  refine mm_of rfl (by decide) rfl rfl (Nat.le_of_ble_eq_true rfl) (fun x hO hR => ?_)
  refine z_aload_n hO 0 dX9_why_0 rfl ?_
  refine z_getR hO (130) fl_X9_63 rfl rfl dX9_why_1 ?_
  refine z_iload_n hO 1 dX9_why_4 rfl ?_
  refine z_iald hO rfl (by omega) (by decide) dX9_why_5 (fun r5 => ?_)
  refine z_if_ge hO 12 dX9_why_6 (by decide) (by omega) (fun c6 => ?_) (fun c6 => ?_)
  ·
    refine z_aload_n hO 0 dX9_why_12 rfl ?_
    refine z_getR hO (130) fl_X9_63 rfl rfl dX9_why_13 ?_
    refine z_iload_n hO 1 dX9_why_16 rfl ?_
    refine z_iald hO rfl (by omega) (by decide) dX9_why_17 (fun r17 => ?_)
    refine z_iload_n hO 2 dX9_why_18 rfl ?_
    refine z_icmp_eq hO 25 dX9_why_19 (by decide) (by omega) (by omega) (fun c19 => ?_) (fun c19 => ?_)
    ·
      refine z_iload_n hO 3 dX9_why_25 rfl ?_
      refine z_if_lt hO 42 dX9_why_26 (by decide) (by omega) (fun c26 => ?_) (fun c26 => ?_)
      ·
        refine z_bipush hO dX9_why_42 (by decide) ?_
        refine z_goto hO 48 dX9_why_44 (by decide) ?_
        exact z_retE hO hR dX9_why_48 (by (repeat' split) <;> first | rfl | (exfalso; omega)) rfl
      ·
        refine z_iload hO 4 dX9_why_29 rfl ?_
        refine z_aload_n hO 0 dX9_why_31 rfl ?_
        refine z_getR hO (131) fl_X9_66 rfl rfl dX9_why_32 ?_
        refine z_iload_n hO 1 dX9_why_35 rfl ?_
        refine z_iald hO rfl (by omega) (by decide) dX9_why_36 (fun r36 => ?_)
        refine z_iload_n hO 3 dX9_why_37 rfl ?_
        refine z_isub hO dX9_why_38 ?_
        refine z_icmp_le hO 47 dX9_why_39 (by decide) (by omega) (by omega) (fun c39 => ?_) (fun c39 => ?_)
        ·
          refine z_iconst hO dX9_why_47 ?_
          exact z_retE hO hR dX9_why_48 (by (repeat' split) <;> first | rfl | (exfalso; omega)) rfl
        ·
          refine z_bipush hO dX9_why_42 (by decide) ?_
          refine z_goto hO 48 dX9_why_44 (by decide) ?_
          exact z_retE hO hR dX9_why_48 (by (repeat' split) <;> first | rfl | (exfalso; omega)) rfl
    ·
      refine z_bipush hO dX9_why_22 (by decide) ?_
      exact z_retE hO hR dX9_why_24 (by (repeat' split) <;> first | rfl | (exfalso; omega)) rfl
  ·
    refine z_bipush hO dX9_why_9 (by decide) ?_
    exact z_retE hO hR dX9_why_11 (by (repeat' split) <;> first | rfl | (exfalso; omega)) rfl

set_option maxHeartbeats 4000000 in
set_option maxRecDepth 100000 in
theorem t_X9_drop {g : G} {σ : Sg} {s : Int} (rs : -2147483648 ≤ s ∧ s ≤ 2147483647) : MM g mX9_drop [.ref (g.2.2.1 113), vI s] σ (pI (fun r σ' => (r, σ') = if ¬ (0 ≤ s ∧ s ≤ 3) then (-1, σ) else if σ 130 s < 0 then (-11, σ) else (σ 131 s, up σ 130 s (-1)))) := by
  refine mm_of rfl (by decide) rfl rfl (Nat.le_of_ble_eq_true rfl) (fun x hO hR => ?_)
  refine z_iload_n hO 1 dX9_drop_0 rfl ?_
  refine z_csQ hO (t_X9_isSheet (by omega)) cs_X9_282 rfl rfl (by decide) (Nat.le_of_ble_eq_true rfl) dX9_drop_1 (fun c1 => ?_) (fun c1 => ?_)
  ·
    refine z_if_ne hO 9 dX9_drop_4 (by decide) (by decide) (fun c4 => ?_) (fun c4 => absurd c4 (by omega))
    refine z_aload_n hO 0 dX9_drop_9 rfl ?_
    refine z_getR hO (130) fl_X9_63 rfl rfl dX9_drop_10 ?_
    refine z_iload_n hO 1 dX9_drop_13 rfl ?_
    refine z_iald hO rfl (by omega) (by decide) dX9_drop_14 (fun r14 => ?_)
    refine z_if_ge hO 21 dX9_drop_15 (by decide) (by omega) (fun c15 => ?_) (fun c15 => ?_)
    ·
      refine z_aload_n hO 0 dX9_drop_21 rfl ?_
      refine z_getR hO (130) fl_X9_63 rfl rfl dX9_drop_22 ?_
      refine z_iload_n hO 1 dX9_drop_25 rfl ?_
      refine z_iconst hO dX9_drop_26 ?_
      refine z_iast hO rfl (by omega) (by decide) (by omega) dX9_drop_27 ?_
      refine z_aload_n hO 0 dX9_drop_28 rfl ?_
      refine z_getR hO (131) fl_X9_66 rfl rfl dX9_drop_29 ?_
      refine z_iload_n hO 1 dX9_drop_32 rfl ?_
      refine z_iald hO rfl (by omega) (by decide) dX9_drop_33 (fun r33 => ?_)
      try simp only [fl_row_ne, fl_ne, up_row_ne, up_ne, up_eq, up_nk, up_up, up_self, ne_eq, Nat.reduceEqDiff, Int.reduceEq, reduceCtorEq, not_false_eq_true, not_true_eq_false] at r33 ⊢
      exact z_retI hO hR dX9_drop_34 (by (repeat' split) <;> first | rfl | (exfalso; omega))
    ·
      refine z_bipush hO dX9_drop_18 (by decide) ?_
      exact z_retI hO hR dX9_drop_20 (by (repeat' split) <;> first | rfl | (exfalso; omega))
  ·
    refine z_if_ne hO 9 dX9_drop_4 (by decide) (by decide) (fun c4 => absurd c4 (by omega)) (fun c4 => ?_)
    refine z_iconst hO dX9_drop_7 ?_
    exact z_retI hO hR dX9_drop_8 (by (repeat' split) <;> first | rfl | (exfalso; omega))

theorem cutF_r {v lane : Int} (rv : -9223372036854775808 ≤ v ∧ v ≤ 9223372036854775807) : -9223372036854775808 ≤ cutF v lane ∧ cutF v lane ≤ 9223372036854775807 := by
  unfold cutF; (repeat' split) <;> omega

set_option maxHeartbeats 4000000 in
set_option maxRecDepth 100000 in
theorem t_X9_item {g : G} {σ : Sg} {s lane i v : Int} (rs : -2147483648 ≤ s ∧ s ≤ 2147483647) (rl : -2147483648 ≤ lane ∧ lane ≤ 2147483647) (ri : -2147483648 ≤ i ∧ i ≤ 2147483647) (rv : -9223372036854775808 ≤ v ∧ v ≤ 9223372036854775807) (hz : ∀ s, 0 ≤ s → s ≤ 3 → 0 ≤ σ 131 s ∧ σ 131 s ≤ 24) : MM g mX9_item [.ref (g.2.2.1 113), vI s, vI lane, vI i, vL v] σ (pI (fun r σ' => (r, σ') = if ¬ (0 ≤ s ∧ s ≤ 3) ∨ ¬ (0 ≤ lane ∧ lane ≤ 3) then (-1, σ) else if (if σ 130 s < 0 then (-11 : Int) else if σ 130 s ≠ lane then -12 else if i < 0 ∨ σ 131 s - i < 1 then -13 else 0) < 0 then ((if σ 130 s < 0 then (-11 : Int) else if σ 130 s ≠ lane then -12 else if i < 0 ∨ σ 131 s - i < 1 then -13 else 0), σ) else (1, up σ 132 (24 * s + i) (cutF v lane)))) := by
  refine mm_of rfl (by decide) rfl rfl (Nat.le_of_ble_eq_true rfl) (fun x hO hR => ?_)
  refine z_iload_n hO 1 dX9_item_0 rfl ?_
  refine z_csQ hO (t_X9_isSheet (by omega)) cs_X9_282 rfl rfl (by decide) (Nat.le_of_ble_eq_true rfl) dX9_item_1 (fun c1 => ?_) (fun c1 => ?_)
  ·
    refine z_if_eq hO 19 dX9_item_4 (by decide) (by decide) (fun c4 => absurd c4 (by omega)) (fun c4 => ?_)
    refine z_iload_n hO 2 dX9_item_7 rfl ?_
    refine z_i2l hO dX9_item_8 (by omega) ?_
    refine z_lconst hO 0 dX9_item_9 (by decide) ?_
    refine z_ldc2 hO k_X9_280 dX9_item_10 ?_
    refine z_csQ hO (t_X9_in (by omega) (by omega) (by omega)) cs_X9_75 rfl rfl (by decide) (Nat.le_of_ble_eq_true rfl) dX9_item_13 (fun c13 => ?_) (fun c13 => ?_)
    ·
      refine z_if_ne hO 21 dX9_item_16 (by decide) (by decide) (fun c16 => ?_) (fun c16 => absurd c16 (by omega))
      refine z_aload_n hO 0 dX9_item_21 rfl ?_
      refine z_iload_n hO 1 dX9_item_22 rfl ?_
      refine z_iload_n hO 2 dX9_item_23 rfl ?_
      refine z_iload_n hO 3 dX9_item_24 rfl ?_
      refine z_iconst hO dX9_item_25 ?_
      refine z_cvE hO (t_X9_why (by omega) (by omega) (by omega) (by omega) (hz s (by omega) (by omega))) cv_X9_285 rfl rfl rfl rfl (by decide) (Nat.le_of_ble_eq_true rfl) dX9_item_26 ?_
      have hzs := hz s (by omega) (by omega)
      obtain ⟨y, hy⟩ : ∃ y, y = (if σ 130 s < 0 then (-11 : Int) else if σ 130 s ≠ lane then -12 else if i < 0 ∨ σ 131 s - i < 1 then -13 else 0) := ⟨_, rfl⟩
      rw [← hy]
      have hyr : -13 ≤ y ∧ y ≤ 0 := by rw [hy]; (repeat' split) <;> omega
      have hy2 : 0 ≤ y → 0 ≤ i ∧ (1 : Int) ≤ σ 131 s - i ∧ σ 130 s = lane := by rw [hy]; intro q; (repeat' split at q) <;> omega
      refine z_istore hO (L' := [(6, _), (0, _), (1, _), (2, _), (3, _), (4, _)]) dX9_item_29 (by decide) rfl ?_
      refine z_iload hO 0 dX9_item_31 rfl ?_
      refine z_if_ge hO 39 dX9_item_33 (by decide) (by omega) (fun c33 => ?_) (fun c33 => ?_)
      ·
        refine z_aload_n hO 1 dX9_item_39 rfl ?_
        refine z_getR hO (132) fl_X9_69 rfl rfl dX9_item_40 ?_
        refine z_bipush hO dX9_item_43 (by decide) ?_
        refine z_iload_n hO 2 dX9_item_45 rfl ?_
        refine z_imul hO dX9_item_46 ?_
        refine z_iload_n hO 4 dX9_item_47 rfl ?_
        refine z_iadd hO dX9_item_48 ?_
        refine z_lload hO 5 dX9_item_49 rfl ?_
        refine z_iload_n hO 3 dX9_item_51 rfl ?_
        refine z_csEL hO (t_X9_cut (by omega) (by omega)) cs_X9_289 rfl rfl (by decide) (Nat.le_of_ble_eq_true rfl) dX9_item_52 ?_
        have hcr := cutF_r (lane := lane) rv
        refine z_last hO rfl (by omega) (by decide) (by omega) dX9_item_55 ?_
        refine z_iconst hO dX9_item_56 ?_
        exact z_retI hO hR dX9_item_57 (by first | (rw [if_pos (by omega)]; done) | (rw [if_neg (by omega), ← hy]; first | rw [if_pos (by omega)] | rw [if_neg (by omega)]))
      ·
        refine z_iload hO 0 dX9_item_36 rfl ?_
        exact z_retI hO hR dX9_item_38 (by first | (rw [if_pos (by omega)]; done) | (rw [if_neg (by omega), ← hy]; first | rw [if_pos (by omega)] | rw [if_neg (by omega)]))
    ·
      refine z_if_ne hO 21 dX9_item_16 (by decide) (by decide) (fun c16 => absurd c16 (by omega)) (fun c16 => ?_)
      refine z_iconst hO dX9_item_19 ?_
      exact z_retI hO hR dX9_item_20 (by first | (rw [if_pos (by omega)]; done) | (rw [if_neg (by omega), ← hy]; first | rw [if_pos (by omega)] | rw [if_neg (by omega)]))
  ·
    refine z_if_eq hO 19 dX9_item_4 (by decide) (by decide) (fun c4 => ?_) (fun c4 => absurd c4 (by omega))
    refine z_iconst hO dX9_item_19 ?_
    exact z_retI hO hR dX9_item_20 (by first | (rw [if_pos (by omega)]; done) | (rw [if_neg (by omega), ← hy]; first | rw [if_pos (by omega)] | rw [if_neg (by omega)]))
