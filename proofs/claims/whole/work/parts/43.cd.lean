/-! ===== a Sheet ===== -/
def Sd (o : Nat) : Prop := sh o = (0, 4, [o + 1 + 2, 0, 0]) ∧ sh (o + 1) = (3, 24, [])
theorem sd_i (i : Nat) (h : i < 4) : Sd (105 + 2 * i) := by
  rcases (show i = 0 ∨ i = 1 ∨ i = 2 ∨ i = 3 by omega) with rfl | rfl | rfl | rfl <;> exact ⟨rfl, rfl⟩

set_option maxHeartbeats 4000000 in
set_option maxRecDepth 100000 in
theorem t_X5_lacks {g : G} {σ : Sg} {o : Nat} (ho : Sd o) {i n : Int} (ri : -2147483648 ≤ i ∧ i ≤ 2147483647) (rn : -2147483648 ≤ n ∧ n ≤ 2147483647) (hz : 0 ≤ σ o 2 ∧ σ o 2 ≤ 24) : MM g mX5_lacks [.ref (g.2.2.1 o), vI i, vI n] σ (pB (pQ (i < 0 ∨ n < 0 ∨ σ o 2 - n < i) σ)) := by
  refine mm_of rfl (by decide) rfl rfl (Nat.le_of_ble_eq_true rfl) (fun x hO hR => ?_)
  refine z_iload_n hO 1 dX5_lacks_0 rfl ?_
  refine z_if_lt hO 18 dX5_lacks_1 (by decide) (by omega) (fun c1 => ?_) (fun c1 => ?_)
  ·
    refine z_iconst hO dX5_lacks_18 ?_
    refine z_goto hO 23 dX5_lacks_19 (by decide) ?_
    exact z_retQT hO hR dX5_lacks_23 (by omega) rfl
  ·
    refine z_iload_n hO 2 dX5_lacks_4 rfl ?_
    refine z_if_lt hO 18 dX5_lacks_5 (by decide) (by omega) (fun c5 => ?_) (fun c5 => ?_)
    ·
      refine z_iconst hO dX5_lacks_18 ?_
      refine z_goto hO 23 dX5_lacks_19 (by decide) ?_
      exact z_retQT hO hR dX5_lacks_23 (by omega) rfl
    ·
      refine z_iload_n hO 1 dX5_lacks_8 rfl ?_
      refine z_aload_n hO 0 dX5_lacks_9 rfl ?_
      refine z_getI hO 2 fl_X5_19 ho.1 rfl rfl dX5_lacks_10 (fun r10 => ?_)
      refine z_iload_n hO 2 dX5_lacks_13 rfl ?_
      refine z_isub hO dX5_lacks_14 ?_
      refine z_icmp_le hO 22 dX5_lacks_15 (by decide) (by omega) (by omega) (fun c15 => ?_) (fun c15 => ?_)
      ·
        refine z_iconst hO dX5_lacks_22 ?_
        exact z_retQF hO hR dX5_lacks_23 (by omega) rfl
      ·
        refine z_iconst hO dX5_lacks_18 ?_
        refine z_goto hO 23 dX5_lacks_19 (by decide) ?_
        exact z_retQT hO hR dX5_lacks_23 (by omega) rfl

set_option maxHeartbeats 4000000 in
set_option maxRecDepth 100000 in
theorem t_X5_refusal {g : G} {σ : Sg} {o : Nat} (ho : Sd o) {lane i n : Int} (rl : -2147483648 ≤ lane ∧ lane ≤ 2147483647) (ri : -2147483648 ≤ i ∧ i ≤ 2147483647) (rn : -2147483648 ≤ n ∧ n ≤ 2147483647) (hz : 0 ≤ σ o 2 ∧ σ o 2 ≤ 24) : MM g mX5_refusal [.ref (g.2.2.1 o), vI lane, vI i, vI n] σ (pI (pE (if σ o 1 = -1 then -11 else if σ o 1 ≠ lane then -12 else if i < 0 ∨ n < 0 ∨ σ o 2 - n < i then -13 else 0) σ)) := by
  refine mm_of rfl (by decide) rfl rfl (Nat.le_of_ble_eq_true rfl) (fun x hO hR => ?_)
  refine z_aload_n hO 0 dX5_refusal_0 rfl ?_
  refine z_getI hO 1 fl_X5_15 ho.1 rfl rfl dX5_refusal_1 (fun r1 => ?_)
  refine z_iconst hO dX5_refusal_4 ?_
  refine z_icmp_ne hO 11 dX5_refusal_5 (by decide) (by omega) (by decide) (fun c5 => ?_) (fun c5 => ?_)
  ·
    refine z_aload_n hO 0 dX5_refusal_11 rfl ?_
    refine z_getI hO 1 fl_X5_15 ho.1 rfl rfl dX5_refusal_12 (fun r12 => ?_)
    refine z_iload_n hO 1 dX5_refusal_15 rfl ?_
    refine z_icmp_eq hO 22 dX5_refusal_16 (by decide) (by omega) (by omega) (fun c16 => ?_) (fun c16 => ?_)
    ·
      refine z_aload_n hO 0 dX5_refusal_22 rfl ?_
      refine z_iload_n hO 2 dX5_refusal_23 rfl ?_
      refine z_iload_n hO 3 dX5_refusal_24 rfl ?_
      refine z_cvQ hO (t_X5_lacks ho (by omega) (by omega) hz) cv_X5_22 ho.1 rfl rfl rfl (by decide) (Nat.le_of_ble_eq_true rfl) dX5_refusal_25 (fun c25 => ?_) (fun c25 => ?_)
      ·
        refine z_if_eq hO 36 dX5_refusal_28 (by decide) (by decide) (fun c28 => absurd c28 (by omega)) (fun c28 => ?_)
        refine z_bipush hO dX5_refusal_31 (by decide) ?_
        refine z_goto hO 37 dX5_refusal_33 (by decide) ?_
        exact z_retE hO hR dX5_refusal_37 (by (repeat' split) <;> first | rfl | (exfalso; omega)) rfl
      ·
        refine z_if_eq hO 36 dX5_refusal_28 (by decide) (by decide) (fun c28 => ?_) (fun c28 => absurd c28 (by omega))
        refine z_iconst hO dX5_refusal_36 ?_
        exact z_retE hO hR dX5_refusal_37 (by (repeat' split) <;> first | rfl | (exfalso; omega)) rfl
    ·
      refine z_bipush hO dX5_refusal_19 (by decide) ?_
      exact z_retE hO hR dX5_refusal_21 (by (repeat' split) <;> first | rfl | (exfalso; omega)) rfl
  ·
    refine z_bipush hO dX5_refusal_8 (by decide) ?_
    exact z_retE hO hR dX5_refusal_10 (by (repeat' split) <;> first | rfl | (exfalso; omega)) rfl

set_option maxHeartbeats 4000000 in
set_option maxRecDepth 100000 in
theorem t_X5_cutToLane {g : G} {σ : Sg} {o : Nat} (ho : Sd o) {v : Int} (rv : -9223372036854775808 ≤ v ∧ v ≤ 9223372036854775807) : MM g mX5_cutToLane [.ref (g.2.2.1 o), vL v] σ (pL (pE (cutF v (σ o 1)) σ)) := by
  refine mm_of rfl (by decide) rfl rfl (Nat.le_of_ble_eq_true rfl) (fun x hO hR => ?_)
  refine z_aload_n hO 0 dX5_cutToLane_0 rfl ?_
  refine z_getI hO 1 fl_X5_15 ho.1 rfl rfl dX5_cutToLane_1 (fun r1 => ?_)
  rcases (show σ o 1 = 0 ∨ σ o 1 = 1 ∨ σ o 1 = 2 ∨ (σ o 1 < 0 ∨ 2 < σ o 1) by omega) with h4 | h4 | h4 | h4
  ·
    refine z_tswIn hO 32 dX5_cutToLane_4 (by omega) (by omega) (by omega) (by rw [h4]; rfl) (by decide) ?_
    refine z_lload_n hO 1 dX5_cutToLane_32 rfl ?_
    refine z_l2i hO dX5_cutToLane_33 ?_
    refine z_i2b hO ((v + 128) % 256 - 128) dX5_cutToLane_34 (i2b_ok v) ?_
    refine z_i2l hO dX5_cutToLane_35 (by omega) ?_
    exact z_retEL hO hR dX5_cutToLane_36 (by unfold cutF; (repeat' split) <;> first | rfl | (exfalso; omega)) rfl
  ·
    refine z_tswIn hO 37 dX5_cutToLane_4 (by omega) (by omega) (by omega) (by rw [h4]; rfl) (by decide) ?_
    refine z_lload_n hO 1 dX5_cutToLane_37 rfl ?_
    refine z_l2i hO dX5_cutToLane_38 ?_
    refine z_i2s hO ((v + 32768) % 65536 - 32768) dX5_cutToLane_39 (i2s_ok v) ?_
    refine z_i2l hO dX5_cutToLane_40 (by omega) ?_
    exact z_retEL hO hR dX5_cutToLane_41 (by unfold cutF; (repeat' split) <;> first | rfl | (exfalso; omega)) rfl
  ·
    refine z_tswIn hO 42 dX5_cutToLane_4 (by omega) (by omega) (by omega) (by rw [h4]; rfl) (by decide) ?_
    refine z_lload_n hO 1 dX5_cutToLane_42 rfl ?_
    refine z_l2i hO dX5_cutToLane_43 ?_
    refine z_norm ?_
    refine z_i2l hO dX5_cutToLane_44 (by omega) ?_
    exact z_retEL hO hR dX5_cutToLane_45 (by unfold cutF; (repeat' split) <;> first | rfl | (exfalso; omega)) rfl
  ·
    refine z_tswOut hO 46 dX5_cutToLane_4 (by omega) h4 (by decide) ?_
    refine z_lload_n hO 1 dX5_cutToLane_46 rfl ?_
    exact z_retEL hO hR dX5_cutToLane_47 (by unfold cutF; (repeat' split) <;> first | rfl | (exfalso; omega)) rfl

set_option maxHeartbeats 4000000 in
set_option maxRecDepth 100000 in
theorem t_X5_put {g : G} {σ : Sg} {o : Nat} (ho : Sd o) {i v : Int} (ri : -2147483648 ≤ i ∧ i ≤ 2147483647) (rv : -9223372036854775808 ≤ v ∧ v ≤ 9223372036854775807) (hz : 0 ≤ σ o 2 ∧ σ o 2 ≤ 24) : MM g mX5_put [.ref (g.2.2.1 o), vI i, vL v] σ (pV (fun σ' => σ' = if 0 ≤ i ∧ i < σ o 2 then up σ (o + 1) i (cutF v (σ o 1)) else σ)) := by
  refine mm_of rfl (by decide) rfl rfl (Nat.le_of_ble_eq_true rfl) (fun x hO hR => ?_)
  refine z_aload_n hO 0 dX5_put_0 rfl ?_
  refine z_iload_n hO 1 dX5_put_1 rfl ?_
  refine z_iconst hO dX5_put_2 ?_
  refine z_cvQ hO (t_X5_lacks ho (by omega) (by omega) hz) cv_X5_22 ho.1 rfl rfl rfl (by decide) (Nat.le_of_ble_eq_true rfl) dX5_put_3 (fun c3 => ?_) (fun c3 => ?_)
  ·
    refine z_if_ne hO 20 dX5_put_6 (by decide) (by decide) (fun c6 => ?_) (fun c6 => absurd c6 (by omega))
    exact z_retV hO hR dX5_put_20 (by first | (rw [if_pos (by omega)]; done) | (rw [if_neg (by omega)]; done))
  ·
    refine z_if_ne hO 20 dX5_put_6 (by decide) (by decide) (fun c6 => absurd c6 (by omega)) (fun c6 => ?_)
    refine z_aload_n hO 0 dX5_put_9 rfl ?_
    refine z_getR hO (o + 1) fl_X5_9 ho.1 rfl dX5_put_10 ?_
    refine z_iload_n hO 1 dX5_put_13 rfl ?_
    refine z_aload_n hO 0 dX5_put_14 rfl ?_
    refine z_lload_n hO 2 dX5_put_15 rfl ?_
    refine z_cvEL hO (t_X5_cutToLane ho (by omega)) cv_X5_26 ho.1 rfl rfl rfl (by decide) (Nat.le_of_ble_eq_true rfl) dX5_put_16 ?_
    have hcr := cutF_r (v := v) (lane := σ o 1) rv
    refine z_last hO ho.2 (by omega) (by decide) (by omega) dX5_put_19 ?_
    exact z_retV hO hR dX5_put_20 (by first | (rw [if_pos (by omega)]; done) | (rw [if_neg (by omega)]; done))
