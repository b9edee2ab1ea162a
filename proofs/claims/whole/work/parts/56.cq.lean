theorem GI_und {σ : Sg} (h : GI σ 1) : GI (undS σ) 1 := ⟨by rw [undS_1 (by decide)]; exact h.1, fun i i0 i1 => by rw [undS_1 (by decide)] at i1; rw [undS_1 (by decide)]; exact h.2 i i0 i1⟩

set_option maxHeartbeats 4000000 in
set_option maxRecDepth 100000 in
theorem t_X8_slot {g : G} {σ : Sg} {s k q : Int} (rs : -2147483648 ≤ s ∧ s ≤ 2147483647) (rk : -2147483648 ≤ k ∧ k ≤ 2147483647) (rq : -2147483648 ≤ q ∧ q ≤ 2147483647) (hG : GI σ 1) : MM g mX8_slot [.ref (g.2.2.1 0), vI s, vI k, vI q] σ (pI (pE (if ¬ (0 ≤ s ∧ s < σ 1 3) ∨ k < -1 ∨ ¬ (0 ≤ q ∧ q ≤ 1) then -1 else if k = -1 then σ 2 s else if k < σ 2 s then (if q = 0 then σ 3 (s * 4 + k) else σ 4 (s * 4 + k)) else -4) σ)) := by
  refine mm_of rfl (by decide) rfl rfl (Nat.le_of_ble_eq_true rfl) (fun x hO hR => ?_)
  have hn := hG.1
  have hc : 0 ≤ s ∧ s < σ 1 3 → 0 ≤ σ 2 s ∧ σ 2 s ≤ 4 := fun h => hG.2 s h.1 h.2
  refine z_aload_n hO 0 dX8_slot_0 rfl ?_
  refine z_getR hO (1) fl_X8_12 rfl rfl dX8_slot_1 ?_
  refine z_iload_n hO 1 dX8_slot_4 rfl ?_
  refine z_cvQ hO (t_X2_isSlot hd_1 (by omega)) cv_X8_76 rfl rfl rfl rfl (by decide) (Nat.le_of_ble_eq_true rfl) dX8_slot_5 (fun c5 => ?_) (fun c5 => ?_)
  ·
    refine z_if_eq hO 25 dX8_slot_8 (by decide) (by decide) (fun c8 => absurd c8 (by omega)) (fun c8 => ?_)
    refine z_iload_n hO 2 dX8_slot_11 rfl ?_
    refine z_iconst hO dX8_slot_12 ?_
    refine z_icmp_lt hO 25 dX8_slot_13 (by decide) (by omega) (by decide) (fun c13 => ?_) (fun c13 => ?_)
    ·
      refine z_iconst hO dX8_slot_25 ?_
      exact z_retE hO hR dX8_slot_26 (by (repeat' split) <;> first | rfl | (exfalso; omega)) rfl
    ·
      refine z_iload_n hO 3 dX8_slot_16 rfl ?_
      refine z_if_lt hO 25 dX8_slot_17 (by decide) (by omega) (fun c17 => ?_) (fun c17 => ?_)
      ·
        refine z_iconst hO dX8_slot_25 ?_
        exact z_retE hO hR dX8_slot_26 (by (repeat' split) <;> first | rfl | (exfalso; omega)) rfl
      ·
        refine z_iload_n hO 3 dX8_slot_20 rfl ?_
        refine z_iconst hO dX8_slot_21 ?_
        refine z_icmp_le hO 27 dX8_slot_22 (by decide) (by omega) (by decide) (fun c22 => ?_) (fun c22 => ?_)
        ·
          refine z_iload_n hO 2 dX8_slot_27 rfl ?_
          refine z_iconst hO dX8_slot_28 ?_
          refine z_icmp_ne hO 42 dX8_slot_29 (by decide) (by omega) (by decide) (fun c29 => ?_) (fun c29 => ?_)
          ·
            refine z_iload_n hO 2 dX8_slot_42 rfl ?_
            refine z_aload_n hO 0 dX8_slot_43 rfl ?_
            refine z_getR hO (1) fl_X8_12 rfl rfl dX8_slot_44 ?_
            refine z_getR hO (2) fl_X8_79 rfl rfl dX8_slot_47 ?_
            refine z_iload_n hO 1 dX8_slot_50 rfl ?_
            refine z_iald hO rfl (by omega) (by decide) dX8_slot_51 (fun r51 => ?_)
            refine z_icmp_lt hO 58 dX8_slot_52 (by decide) (by omega) (by omega) (fun c52 => ?_) (fun c52 => ?_)
            ·
              refine z_iload_n hO 1 dX8_slot_58 rfl ?_
              refine z_iconst hO dX8_slot_59 ?_
              refine z_imul hO dX8_slot_60 ?_
              refine z_iload_n hO 2 dX8_slot_61 rfl ?_
              refine z_iadd hO dX8_slot_62 ?_
              refine z_istore hO (L' := [(4, _), (0, _), (1, _), (2, _), (3, _)]) dX8_slot_63 (by decide) rfl ?_
              refine z_iload_n hO 4 dX8_slot_65 rfl ?_
              refine z_if_ne hO 82 dX8_slot_66 (by decide) (by omega) (fun c66 => ?_) (fun c66 => ?_)
              ·
                refine z_aload_n hO 1 dX8_slot_82 rfl ?_
                refine z_getR hO (1) fl_X8_12 rfl rfl dX8_slot_83 ?_
                refine z_getR hO (4) fl_X8_86 rfl rfl dX8_slot_86 ?_
                refine z_iload hO 0 dX8_slot_89 rfl ?_
                refine z_iald hO rfl (by omega) (by decide) dX8_slot_91 (fun r91 => ?_)
                exact z_retE hO hR dX8_slot_92 (by (repeat' split) <;> first | rfl | (exfalso; omega)) rfl
              ·
                refine z_aload_n hO 1 dX8_slot_69 rfl ?_
                refine z_getR hO (1) fl_X8_12 rfl rfl dX8_slot_70 ?_
                refine z_getR hO (3) fl_X8_83 rfl rfl dX8_slot_73 ?_
                refine z_iload hO 0 dX8_slot_76 rfl ?_
                refine z_iald hO rfl (by omega) (by decide) dX8_slot_78 (fun r78 => ?_)
                refine z_goto hO 92 dX8_slot_79 (by decide) ?_
                exact z_retE hO hR dX8_slot_92 (by (repeat' split) <;> first | rfl | (exfalso; omega)) rfl
            ·
              refine z_bipush hO dX8_slot_55 (by decide) ?_
              exact z_retE hO hR dX8_slot_57 (by (repeat' split) <;> first | rfl | (exfalso; omega)) rfl
          ·
            refine z_aload_n hO 0 dX8_slot_32 rfl ?_
            refine z_getR hO (1) fl_X8_12 rfl rfl dX8_slot_33 ?_
            refine z_getR hO (2) fl_X8_79 rfl rfl dX8_slot_36 ?_
            refine z_iload_n hO 1 dX8_slot_39 rfl ?_
            refine z_iald hO rfl (by omega) (by decide) dX8_slot_40 (fun r40 => ?_)
            exact z_retE hO hR dX8_slot_41 (by (repeat' split) <;> first | rfl | (exfalso; omega)) rfl
        ·
          refine z_iconst hO dX8_slot_25 ?_
          exact z_retE hO hR dX8_slot_26 (by (repeat' split) <;> first | rfl | (exfalso; omega)) rfl
  ·
    refine z_if_eq hO 25 dX8_slot_8 (by decide) (by decide) (fun c8 => ?_) (fun c8 => absurd c8 (by omega))
    refine z_iconst hO dX8_slot_25 ?_
    exact z_retE hO hR dX8_slot_26 (by (repeat' split) <;> first | rfl | (exfalso; omega)) rfl

set_option maxHeartbeats 4000000 in
set_option maxRecDepth 100000 in
theorem t_X8_hear {g : G} {σ : Sg} {w q : Int} (rw : -2147483648 ≤ w ∧ w ≤ 2147483647) (rq : -2147483648 ≤ q ∧ q ≤ 2147483647) (h1 : 0 ≤ σ 13 1 ∧ σ 13 1 ≤ 7) (h2 : 0 ≤ σ 13 2 ∧ σ 13 2 ≤ 8) (hG : GI σ 1) : MM g mX8_hear [.ref (g.2.2.1 0), vI w, vI q] σ (pI (fun r σ' => (r, σ') = if ¬ (0 ≤ w ∧ w ≤ 31) ∨ ¬ (0 ≤ q ∧ q ≤ 9) then (-1, σ) else if σ 1 3 = 8 then (-3, σ) else (σ 1 3 + 1, groS (undS σ) 1 w q))) := by
  refine mm_of rfl (by decide) rfl rfl (Nat.le_of_ble_eq_true rfl) (fun x hO hR => ?_)
  have hn := hG.1
  refine z_iload_n hO 1 dX8_hear_0 rfl ?_
  refine z_csQ hO (t_X8_isWord (by omega)) cs_X8_122 rfl rfl (by decide) (Nat.le_of_ble_eq_true rfl) dX8_hear_1 (fun c1 => ?_) (fun c1 => ?_)
  ·
    refine z_if_eq hO 14 dX8_hear_4 (by decide) (by decide) (fun c4 => absurd c4 (by omega)) (fun c4 => ?_)
    refine z_iload_n hO 2 dX8_hear_7 rfl ?_
    refine z_csQ hO (t_X8_isCost (by omega)) cs_X8_125 rfl rfl (by decide) (Nat.le_of_ble_eq_true rfl) dX8_hear_8 (fun c8 => ?_) (fun c8 => ?_)
    ·
      refine z_if_ne hO 16 dX8_hear_11 (by decide) (by decide) (fun c11 => ?_) (fun c11 => absurd c11 (by omega))
      refine z_aload_n hO 0 dX8_hear_16 rfl ?_
      refine z_getR hO (1) fl_X8_12 rfl rfl dX8_hear_17 ?_
      refine z_getI hO 3 fl_X8_89 rfl rfl rfl dX8_hear_20 (fun r20 => ?_)
      refine z_bipush hO dX8_hear_23 (by decide) ?_
      refine z_icmp_lt hO 31 dX8_hear_25 (by decide) (by omega) (by decide) (fun c25 => ?_) (fun c25 => ?_)
      ·
        refine z_aload_n hO 0 dX8_hear_31 rfl ?_
        refine z_cvV hO (t_X8_keepForUndo h1 h2) cv_X8_128 rfl rfl rfl rfl (by decide) (Nat.le_of_ble_eq_true rfl) dX8_hear_32 (fun s32 p32 => ?_)
        rw [show s32 = undS σ from p32]
        refine z_aload_n hO 0 dX8_hear_35 rfl ?_
        refine z_getR hO (1) fl_X8_12 rfl rfl dX8_hear_36 ?_
        refine z_iload_n hO 1 dX8_hear_39 rfl ?_
        refine z_iload_n hO 2 dX8_hear_40 rfl ?_
        refine z_cvB hO (t_X2_grow hd_1 (by omega) (by omega) (GI_und hG).1 (GI_und hG).2) cv_X8_131 rfl rfl rfl rfl (by decide) (Nat.le_of_ble_eq_true rfl) dX8_hear_41 (fun s41 p41 => ?_) (fun s41 p41 => ?_)
        ·
          simp only [undS_1 (show (1 : Nat) < 13 by decide)] at p41
          obtain ⟨k41, rfl⟩ := p41.1 (by trivial)
          have hgn : groS (undS σ) 1 w q 1 3 = σ 1 3 + 1 := by rw [groS_n, undS_1 (by decide)]
          refine z_pop hO dX8_hear_44 rfl ?_
          refine z_aload_n hO 0 dX8_hear_45 rfl ?_
          refine z_getR hO (1) fl_X8_12 rfl rfl dX8_hear_46 ?_
          refine z_getI hO 3 fl_X8_89 rfl rfl rfl dX8_hear_49 (fun r49 => ?_)
          try simp (disch := omega) only [fl_row_ne, fl_ne, up_row_ne, up_ne, up_eq, up_nk, up_up, up_self, ne_eq, Nat.reduceEqDiff, Int.reduceEq, reduceCtorEq, not_false_eq_true, not_true_eq_false, undS_1, hgn] at r49 ⊢
          exact z_retI hO hR dX8_hear_52 (by (repeat' split) <;> first | rfl | (exfalso; omega))
        ·
          simp only [undS_1 (show (1 : Nat) < 13 by decide)] at p41
          exfalso; have := (p41.2 (by trivial)).1; omega
      ·
        refine z_bipush hO dX8_hear_28 (by decide) ?_
        exact z_retI hO hR dX8_hear_30 (by (repeat' split) <;> first | rfl | (exfalso; omega))
    ·
      refine z_if_ne hO 16 dX8_hear_11 (by decide) (by decide) (fun c11 => absurd c11 (by omega)) (fun c11 => ?_)
      refine z_iconst hO dX8_hear_14 ?_
      exact z_retI hO hR dX8_hear_15 (by (repeat' split) <;> first | rfl | (exfalso; omega))
  ·
    refine z_if_eq hO 14 dX8_hear_4 (by decide) (by decide) (fun c4 => ?_) (fun c4 => absurd c4 (by omega))
    refine z_iconst hO dX8_hear_14 ?_
    exact z_retI hO hR dX8_hear_15 (by (repeat' split) <;> first | rfl | (exfalso; omega))

set_option maxHeartbeats 4000000 in
set_option maxRecDepth 100000 in
theorem t_X8_lose {g : G} {σ : Sg} {s : Int} (rs : -2147483648 ≤ s ∧ s ≤ 2147483647) (h1 : 0 ≤ σ 13 1 ∧ σ 13 1 ≤ 7) (h2 : 0 ≤ σ 13 2 ∧ σ 13 2 ≤ 8) (hG : GI σ 1) : MM g mX8_lose [.ref (g.2.2.1 0), vI s] σ (pI (fun r σ' => (r, σ') = if ¬ (0 ≤ s ∧ s < σ 1 3) then (-1, σ) else (σ 1 3 - 1, cutS (undS σ) 1 s))) := by
  refine mm_of rfl (by decide) rfl rfl (Nat.le_of_ble_eq_true rfl) (fun x hO hR => ?_)
  have hn := hG.1
  refine z_aload_n hO 0 dX8_lose_0 rfl ?_
  refine z_getR hO (1) fl_X8_12 rfl rfl dX8_lose_1 ?_
  refine z_iload_n hO 1 dX8_lose_4 rfl ?_
  refine z_cvQ hO (t_X2_isSlot hd_1 (by omega)) cv_X8_76 rfl rfl rfl rfl (by decide) (Nat.le_of_ble_eq_true rfl) dX8_lose_5 (fun c5 => ?_) (fun c5 => ?_)
  ·
    refine z_if_ne hO 13 dX8_lose_8 (by decide) (by decide) (fun c8 => ?_) (fun c8 => absurd c8 (by omega))
    refine z_aload_n hO 0 dX8_lose_13 rfl ?_
    refine z_cvV hO (t_X8_keepForUndo h1 h2) cv_X8_128 rfl rfl rfl rfl (by decide) (Nat.le_of_ble_eq_true rfl) dX8_lose_14 (fun s14 p14 => ?_)
    rw [show s14 = undS σ from p14]
    refine z_aload_n hO 0 dX8_lose_17 rfl ?_
    refine z_getR hO (1) fl_X8_12 rfl rfl dX8_lose_18 ?_
    refine z_iload_n hO 1 dX8_lose_21 rfl ?_
    refine z_cvV hO (t_X2_cut hd_1 (by omega) (by rw [undS_1 (by decide)]; omega)) cv_X8_143 rfl rfl rfl rfl (by decide) (Nat.le_of_ble_eq_true rfl) dX8_lose_22 (fun s22 p22 => ?_)
    have e22 : s22 = cutS (undS σ) 1 s := p22.1 (by rw [undS_1 (by decide)]; omega)
    rw [e22]
    have hcn : cutS (undS σ) 1 s 1 3 = σ 1 3 - 1 := by unfold cutS; rw [up_eq, undS_1 (by decide)]
    refine z_aload_n hO 0 dX8_lose_25 rfl ?_
    refine z_getR hO (1) fl_X8_12 rfl rfl dX8_lose_26 ?_
    refine z_getI hO 3 fl_X8_89 rfl rfl rfl dX8_lose_29 (fun r29 => ?_)
    try simp (disch := omega) only [fl_row_ne, fl_ne, up_row_ne, up_ne, up_eq, up_nk, up_up, up_self, ne_eq, Nat.reduceEqDiff, Int.reduceEq, reduceCtorEq, not_false_eq_true, not_true_eq_false, undS_1, hcn] at r29 ⊢
    exact z_retI hO hR dX8_lose_32 (by (repeat' split) <;> first | rfl | (exfalso; omega))
  ·
    refine z_if_ne hO 13 dX8_lose_8 (by decide) (by decide) (fun c8 => absurd c8 (by omega)) (fun c8 => ?_)
    refine z_iconst hO dX8_lose_11 ?_
    exact z_retI hO hR dX8_lose_12 (by (repeat' split) <;> first | rfl | (exfalso; omega))
