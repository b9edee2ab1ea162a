/-! ===== Walk: cells 89 tried, 90 place, 91 thousands, 92 small, 93 ended, 94 costs, 95 weights, 96 number ===== -/

set_option maxHeartbeats 4000000 in
set_option maxRecDepth 100000 in
theorem t_X7_pick {g : G} {σ : Sg} {s : Int} (hs : 0 ≤ s ∧ s ≤ 8) (h0 : 0 ≤ σ 89 s) : MM g mX7_pick [.ref (g.2.2.1 88), vI s] σ (pI (pE (σ 89 s - 1) σ)) := by
  refine mm_of rfl (by decide) rfl rfl (Nat.le_of_ble_eq_true rfl) (fun x hO hR => ?_)
  refine z_aload_n hO 0 dX7_pick_0 rfl ?_
  refine z_getR hO (89) fl_X7_9 rfl rfl dX7_pick_1 ?_
  refine z_iload_n hO 1 dX7_pick_4 rfl ?_
  refine z_iald hO rfl (by omega) (by decide) dX7_pick_5 (fun r5 => ?_)
  refine z_iconst hO dX7_pick_6 ?_
  refine z_isub hO dX7_pick_7 ?_
  exact z_retE hO hR dX7_pick_8 (by omega) rfl

set_option maxHeartbeats 4000000 in
set_option maxRecDepth 100000 in
theorem t_X7_isWhole {g : G} {σ : Sg} {t : Int} (ht : 0 ≤ t ∧ t ≤ 8) : MM g mX7_isWhole [.ref (g.2.2.1 88), vI t] σ (pB (pQ (σ 90 t ≠ 0 ∧ σ 90 t ≠ 5) σ)) := by
  refine mm_of rfl (by decide) rfl rfl (Nat.le_of_ble_eq_true rfl) (fun x hO hR => ?_)
  refine z_aload_n hO 0 dX7_isWhole_0 rfl ?_
  refine z_getR hO (90) fl_X7_15 rfl rfl dX7_isWhole_1 ?_
  refine z_iload_n hO 1 dX7_isWhole_4 rfl ?_
  refine z_iald hO rfl (by omega) (by decide) dX7_isWhole_5 (fun r5 => ?_)
  refine z_if_eq hO 23 dX7_isWhole_6 (by decide) (by omega) (fun c6 => ?_) (fun c6 => ?_)
  ·
    refine z_iconst hO dX7_isWhole_23 ?_
    exact z_retQF hO hR dX7_isWhole_24 (by omega) rfl
  ·
    refine z_aload_n hO 0 dX7_isWhole_9 rfl ?_
    refine z_getR hO (90) fl_X7_15 rfl rfl dX7_isWhole_10 ?_
    refine z_iload_n hO 1 dX7_isWhole_13 rfl ?_
    refine z_iald hO rfl (by omega) (by decide) dX7_isWhole_14 (fun r14 => ?_)
    refine z_iconst hO dX7_isWhole_15 ?_
    refine z_icmp_eq hO 23 dX7_isWhole_16 (by decide) (by omega) (by decide) (fun c16 => ?_) (fun c16 => ?_)
    ·
      refine z_iconst hO dX7_isWhole_23 ?_
      exact z_retQF hO hR dX7_isWhole_24 (by omega) rfl
    ·
      refine z_iconst hO dX7_isWhole_19 ?_
      refine z_goto hO 24 dX7_isWhole_20 (by decide) ?_
      exact z_retQT hO hR dX7_isWhole_24 (by omega) rfl

def begS (σ : Sg) : Sg := up (up (up (up (up (up (up (up σ 88 8 0) 89 0 0) 90 0 0) 91 0 0) 92 0 0) 93 0 0) 94 0 0) 95 0 1

set_option maxHeartbeats 4000000 in
set_option maxRecDepth 100000 in
theorem t_X7_begin {g : G} {σ : Sg}  : MM g mX7_begin [.ref (g.2.2.1 88)] σ (pV (fun σ' => σ' = begS σ)) := by
  refine mm_of rfl (by decide) rfl rfl (Nat.le_of_ble_eq_true rfl) (fun x hO hR => ?_)
  refine z_aload_n hO 0 dX7_begin_0 rfl ?_
  refine z_iconst hO dX7_begin_1 ?_
  refine z_putI hO 8 fp_X7_41 rfl rfl rfl (by omega) rfl rfl dX7_begin_2 ?_
  refine z_aload_n hO 0 dX7_begin_5 rfl ?_
  refine z_getR hO (89) fl_X7_9 rfl rfl dX7_begin_6 ?_
  refine z_iconst hO dX7_begin_9 ?_
  refine z_iconst hO dX7_begin_10 ?_
  refine z_iast hO rfl (by omega) (by decide) (by omega) dX7_begin_11 ?_
  refine z_aload_n hO 0 dX7_begin_12 rfl ?_
  refine z_getR hO (90) fl_X7_15 rfl rfl dX7_begin_13 ?_
  refine z_iconst hO dX7_begin_16 ?_
  refine z_iconst hO dX7_begin_17 ?_
  refine z_iast hO rfl (by omega) (by decide) (by omega) dX7_begin_18 ?_
  refine z_aload_n hO 0 dX7_begin_19 rfl ?_
  refine z_getR hO (91) fl_X7_18 rfl rfl dX7_begin_20 ?_
  refine z_iconst hO dX7_begin_23 ?_
  refine z_iconst hO dX7_begin_24 ?_
  refine z_iast hO rfl (by omega) (by decide) (by omega) dX7_begin_25 ?_
  refine z_aload_n hO 0 dX7_begin_26 rfl ?_
  refine z_getR hO (92) fl_X7_21 rfl rfl dX7_begin_27 ?_
  refine z_iconst hO dX7_begin_30 ?_
  refine z_iconst hO dX7_begin_31 ?_
  refine z_iast hO rfl (by omega) (by decide) (by omega) dX7_begin_32 ?_
  refine z_aload_n hO 0 dX7_begin_33 rfl ?_
  refine z_getR hO (93) fl_X7_24 rfl rfl dX7_begin_34 ?_
  refine z_iconst hO dX7_begin_37 ?_
  refine z_iconst hO dX7_begin_38 ?_
  refine z_iast hO rfl (by omega) (by decide) (by omega) dX7_begin_39 ?_
  refine z_aload_n hO 0 dX7_begin_40 rfl ?_
  refine z_getR hO (94) fl_X7_27 rfl rfl dX7_begin_41 ?_
  refine z_iconst hO dX7_begin_44 ?_
  refine z_iconst hO dX7_begin_45 ?_
  refine z_iast hO rfl (by omega) (by decide) (by omega) dX7_begin_46 ?_
  refine z_aload_n hO 0 dX7_begin_47 rfl ?_
  refine z_getR hO (95) fl_X7_30 rfl rfl dX7_begin_48 ?_
  refine z_iconst hO dX7_begin_51 ?_
  refine z_lconst hO 1 dX7_begin_52 (by decide) ?_
  refine z_last hO rfl (by omega) (by decide) (by omega) dX7_begin_53 ?_
  exact z_retV hO hR dX7_begin_54 (rfl)

set_option maxHeartbeats 4000000 in
set_option maxRecDepth 100000 in
theorem t_X7_passStop {g : G} {σ : Sg} {t : Int} (ht : 0 ≤ t ∧ t ≤ 8) (he : 0 ≤ σ 93 t) (h1 : 0 ≤ σ 91 t ∧ σ 91 t ≤ 999000) (h2 : 0 ≤ σ 92 t ∧ σ 92 t ≤ 999) : MM g mX7_passStop [.ref (g.2.2.1 88), vI t] σ (pB (fun b σ' => (b = true → (σ 93 t < 4) ∧ σ' = up (up (up (up (up σ 96 (σ 93 t) (σ 91 t + σ 92 t)) 93 t (σ 93 t + 1)) 90 t 0) 91 t 0) 92 t 0) ∧ (b = false → ¬ (σ 93 t < 4) ∧ σ' = σ))) := by
  refine mm_of rfl (by decide) rfl rfl (Nat.le_of_ble_eq_true rfl) (fun x hO hR => ?_)
  refine z_aload_n hO 0 dX7_passStop_0 rfl ?_
  refine z_getR hO (93) fl_X7_24 rfl rfl dX7_passStop_1 ?_
  refine z_iload_n hO 1 dX7_passStop_4 rfl ?_
  refine z_iald hO rfl (by omega) (by decide) dX7_passStop_5 (fun r5 => ?_)
  refine z_iconst hO dX7_passStop_6 ?_
  refine z_icmp_lt hO 12 dX7_passStop_7 (by decide) (by omega) (by decide) (fun c7 => ?_) (fun c7 => ?_)
  ·
    refine z_aload_n hO 0 dX7_passStop_12 rfl ?_
    refine z_getR hO (96) fl_X7_34 rfl rfl dX7_passStop_13 ?_
    refine z_aload_n hO 0 dX7_passStop_16 rfl ?_
    refine z_getR hO (93) fl_X7_24 rfl rfl dX7_passStop_17 ?_
    refine z_iload_n hO 1 dX7_passStop_20 rfl ?_
    refine z_iald hO rfl (by omega) (by decide) dX7_passStop_21 (fun r21 => ?_)
    refine z_aload_n hO 0 dX7_passStop_22 rfl ?_
    refine z_getR hO (91) fl_X7_18 rfl rfl dX7_passStop_23 ?_
    refine z_iload_n hO 1 dX7_passStop_26 rfl ?_
    refine z_iald hO rfl (by omega) (by decide) dX7_passStop_27 (fun r27 => ?_)
    refine z_aload_n hO 0 dX7_passStop_28 rfl ?_
    refine z_getR hO (92) fl_X7_21 rfl rfl dX7_passStop_29 ?_
    refine z_iload_n hO 1 dX7_passStop_32 rfl ?_
    refine z_iald hO rfl (by omega) (by decide) dX7_passStop_33 (fun r33 => ?_)
    refine z_iadd hO dX7_passStop_34 ?_
    refine z_iast hO rfl (by omega) (by decide) (by omega) dX7_passStop_35 ?_
    refine z_aload_n hO 0 dX7_passStop_36 rfl ?_
    refine z_getR hO (93) fl_X7_24 rfl rfl dX7_passStop_37 ?_
    refine z_iload_n hO 1 dX7_passStop_40 rfl ?_
    refine z_dup2 hO dX7_passStop_41 rfl rfl ?_
    refine z_iald hO rfl (by omega) (by decide) dX7_passStop_42 (fun r42 => ?_)
    try simp only [fl_row_ne, fl_ne, up_row_ne, up_ne, up_eq, up_nk, up_up, up_self, ne_eq, Nat.reduceEqDiff, Int.reduceEq, reduceCtorEq, not_false_eq_true, not_true_eq_false] at r42 ⊢
    refine z_iconst hO dX7_passStop_43 ?_
    refine z_iadd hO dX7_passStop_44 ?_
    refine z_iast hO rfl (by omega) (by decide) (by omega) dX7_passStop_45 ?_
    refine z_aload_n hO 0 dX7_passStop_46 rfl ?_
    refine z_getR hO (90) fl_X7_15 rfl rfl dX7_passStop_47 ?_
    refine z_iload_n hO 1 dX7_passStop_50 rfl ?_
    refine z_iconst hO dX7_passStop_51 ?_
    refine z_iast hO rfl (by omega) (by decide) (by omega) dX7_passStop_52 ?_
    refine z_aload_n hO 0 dX7_passStop_53 rfl ?_
    refine z_getR hO (91) fl_X7_18 rfl rfl dX7_passStop_54 ?_
    refine z_iload_n hO 1 dX7_passStop_57 rfl ?_
    refine z_iconst hO dX7_passStop_58 ?_
    refine z_iast hO rfl (by omega) (by decide) (by omega) dX7_passStop_59 ?_
    refine z_aload_n hO 0 dX7_passStop_60 rfl ?_
    refine z_getR hO (92) fl_X7_21 rfl rfl dX7_passStop_61 ?_
    refine z_iload_n hO 1 dX7_passStop_64 rfl ?_
    refine z_iconst hO dX7_passStop_65 ?_
    refine z_iast hO rfl (by omega) (by decide) (by omega) dX7_passStop_66 ?_
    refine z_iconst hO dX7_passStop_67 ?_
    exact z_retT hO hR dX7_passStop_68 ⟨fun _ => ⟨by omega, rfl⟩, fun z => absurd z (by decide)⟩
  ·
    refine z_iconst hO dX7_passStop_10 ?_
    exact z_retF hO hR dX7_passStop_11 ⟨fun z => absurd z (by decide), fun _ => ⟨by omega, rfl⟩⟩

set_option maxHeartbeats 4000000 in
set_option maxRecDepth 100000 in
theorem t_X7_passAnd {g : G} {σ : Sg} {t : Int} (ht : 0 ≤ t ∧ t ≤ 8) : MM g mX7_passAnd [.ref (g.2.2.1 88), vI t] σ (pB (fun b σ' => (b = true → (σ 90 t = 4 ∨ σ 90 t = 6) ∧ σ' = up σ 90 t 5) ∧ (b = false → ¬ (σ 90 t = 4 ∨ σ 90 t = 6) ∧ σ' = σ))) := by
  refine mm_of rfl (by decide) rfl rfl (Nat.le_of_ble_eq_true rfl) (fun x hO hR => ?_)
  refine z_aload_n hO 0 dX7_passAnd_0 rfl ?_
  refine z_getR hO (90) fl_X7_15 rfl rfl dX7_passAnd_1 ?_
  refine z_iload_n hO 1 dX7_passAnd_4 rfl ?_
  refine z_iald hO rfl (by omega) (by decide) dX7_passAnd_5 (fun r5 => ?_)
  refine z_iconst hO dX7_passAnd_6 ?_
  refine z_icmp_eq hO 23 dX7_passAnd_7 (by decide) (by omega) (by decide) (fun c7 => ?_) (fun c7 => ?_)
  ·
    refine z_aload_n hO 0 dX7_passAnd_23 rfl ?_
    refine z_getR hO (90) fl_X7_15 rfl rfl dX7_passAnd_24 ?_
    refine z_iload_n hO 1 dX7_passAnd_27 rfl ?_
    refine z_iconst hO dX7_passAnd_28 ?_
    refine z_iast hO rfl (by omega) (by decide) (by omega) dX7_passAnd_29 ?_
    refine z_iconst hO dX7_passAnd_30 ?_
    exact z_retT hO hR dX7_passAnd_31 ⟨fun _ => ⟨by omega, rfl⟩, fun z => absurd z (by decide)⟩
  ·
    refine z_aload_n hO 0 dX7_passAnd_10 rfl ?_
    refine z_getR hO (90) fl_X7_15 rfl rfl dX7_passAnd_11 ?_
    refine z_iload_n hO 1 dX7_passAnd_14 rfl ?_
    refine z_iald hO rfl (by omega) (by decide) dX7_passAnd_15 (fun r15 => ?_)
    refine z_bipush hO dX7_passAnd_16 (by decide) ?_
    refine z_icmp_eq hO 23 dX7_passAnd_18 (by decide) (by omega) (by decide) (fun c18 => ?_) (fun c18 => ?_)
    ·
      refine z_aload_n hO 0 dX7_passAnd_23 rfl ?_
      refine z_getR hO (90) fl_X7_15 rfl rfl dX7_passAnd_24 ?_
      refine z_iload_n hO 1 dX7_passAnd_27 rfl ?_
      refine z_iconst hO dX7_passAnd_28 ?_
      refine z_iast hO rfl (by omega) (by decide) (by omega) dX7_passAnd_29 ?_
      refine z_iconst hO dX7_passAnd_30 ?_
      exact z_retT hO hR dX7_passAnd_31 ⟨fun _ => ⟨by omega, rfl⟩, fun z => absurd z (by decide)⟩
    ·
      refine z_iconst hO dX7_passAnd_21 ?_
      exact z_retF hO hR dX7_passAnd_22 ⟨fun z => absurd z (by decide), fun _ => ⟨by omega, rfl⟩⟩

set_option maxHeartbeats 4000000 in
set_option maxRecDepth 100000 in
theorem t_X7_passHundred {g : G} {σ : Sg} {t : Int} (ht : 0 ≤ t ∧ t ≤ 8) (h2 : 0 ≤ σ 92 t ∧ σ 92 t ≤ 999) : MM g mX7_passHundred [.ref (g.2.2.1 88), vI t] σ (pB (fun b σ' => (b = true → (σ 90 t = 1) ∧ σ' = up (up σ 92 t (σ 92 t * 100)) 90 t 4) ∧ (b = false → ¬ (σ 90 t = 1) ∧ σ' = σ))) := by
  refine mm_of rfl (by decide) rfl rfl (Nat.le_of_ble_eq_true rfl) (fun x hO hR => ?_)
  refine z_aload_n hO 0 dX7_passHundred_0 rfl ?_
  refine z_getR hO (90) fl_X7_15 rfl rfl dX7_passHundred_1 ?_
  refine z_iload_n hO 1 dX7_passHundred_4 rfl ?_
  refine z_iald hO rfl (by omega) (by decide) dX7_passHundred_5 (fun r5 => ?_)
  refine z_iconst hO dX7_passHundred_6 ?_
  refine z_icmp_eq hO 12 dX7_passHundred_7 (by decide) (by omega) (by decide) (fun c7 => ?_) (fun c7 => ?_)
  ·
    refine z_aload_n hO 0 dX7_passHundred_12 rfl ?_
    refine z_getR hO (92) fl_X7_21 rfl rfl dX7_passHundred_13 ?_
    refine z_iload_n hO 1 dX7_passHundred_16 rfl ?_
    refine z_dup2 hO dX7_passHundred_17 rfl rfl ?_
    refine z_iald hO rfl (by omega) (by decide) dX7_passHundred_18 (fun r18 => ?_)
    refine z_bipush hO dX7_passHundred_19 (by decide) ?_
    refine z_imul hO dX7_passHundred_21 ?_
    refine z_iast hO rfl (by omega) (by decide) (by omega) dX7_passHundred_22 ?_
    refine z_aload_n hO 0 dX7_passHundred_23 rfl ?_
    refine z_getR hO (90) fl_X7_15 rfl rfl dX7_passHundred_24 ?_
    refine z_iload_n hO 1 dX7_passHundred_27 rfl ?_
    refine z_iconst hO dX7_passHundred_28 ?_
    refine z_iast hO rfl (by omega) (by decide) (by omega) dX7_passHundred_29 ?_
    refine z_iconst hO dX7_passHundred_30 ?_
    exact z_retT hO hR dX7_passHundred_31 ⟨fun _ => ⟨by omega, rfl⟩, fun z => absurd z (by decide)⟩
  ·
    refine z_iconst hO dX7_passHundred_10 ?_
    exact z_retF hO hR dX7_passHundred_11 ⟨fun z => absurd z (by decide), fun _ => ⟨by omega, rfl⟩⟩

set_option maxHeartbeats 4000000 in
set_option maxRecDepth 100000 in
theorem t_X7_passThousand {g : G} {σ : Sg} {t : Int} (ht : 0 ≤ t ∧ t ≤ 8) (h2 : 0 ≤ σ 92 t ∧ σ 92 t ≤ 999) : MM g mX7_passThousand [.ref (g.2.2.1 88), vI t] σ (pB (fun b σ' => (b = true → (σ 91 t = 0) ∧ σ' = up (up (up σ 91 t (σ 92 t * 1000)) 92 t 0) 90 t 6) ∧ (b = false → ¬ (σ 91 t = 0) ∧ σ' = σ))) := by
  refine mm_of rfl (by decide) rfl rfl (Nat.le_of_ble_eq_true rfl) (fun x hO hR => ?_)
  refine z_aload_n hO 0 dX7_passThousand_0 rfl ?_
  refine z_getR hO (91) fl_X7_18 rfl rfl dX7_passThousand_1 ?_
  refine z_iload_n hO 1 dX7_passThousand_4 rfl ?_
  refine z_iald hO rfl (by omega) (by decide) dX7_passThousand_5 (fun r5 => ?_)
  refine z_if_eq hO 11 dX7_passThousand_6 (by decide) (by omega) (fun c6 => ?_) (fun c6 => ?_)
  ·
    refine z_aload_n hO 0 dX7_passThousand_11 rfl ?_
    refine z_getR hO (91) fl_X7_18 rfl rfl dX7_passThousand_12 ?_
    refine z_iload_n hO 1 dX7_passThousand_15 rfl ?_
    refine z_aload_n hO 0 dX7_passThousand_16 rfl ?_
    refine z_getR hO (92) fl_X7_21 rfl rfl dX7_passThousand_17 ?_
    refine z_iload_n hO 1 dX7_passThousand_20 rfl ?_
    refine z_iald hO rfl (by omega) (by decide) dX7_passThousand_21 (fun r21 => ?_)
    refine z_sipush hO dX7_passThousand_22 (by decide) ?_
    refine z_imul hO dX7_passThousand_25 ?_
    refine z_iast hO rfl (by omega) (by decide) (by omega) dX7_passThousand_26 ?_
    refine z_aload_n hO 0 dX7_passThousand_27 rfl ?_
    refine z_getR hO (92) fl_X7_21 rfl rfl dX7_passThousand_28 ?_
    refine z_iload_n hO 1 dX7_passThousand_31 rfl ?_
    refine z_iconst hO dX7_passThousand_32 ?_
    refine z_iast hO rfl (by omega) (by decide) (by omega) dX7_passThousand_33 ?_
    refine z_aload_n hO 0 dX7_passThousand_34 rfl ?_
    refine z_getR hO (90) fl_X7_15 rfl rfl dX7_passThousand_35 ?_
    refine z_iload_n hO 1 dX7_passThousand_38 rfl ?_
    refine z_bipush hO dX7_passThousand_39 (by decide) ?_
    refine z_iast hO rfl (by omega) (by decide) (by omega) dX7_passThousand_41 ?_
    refine z_iconst hO dX7_passThousand_42 ?_
    exact z_retT hO hR dX7_passThousand_43 ⟨fun _ => ⟨by omega, rfl⟩, fun z => absurd z (by decide)⟩
  ·
    refine z_iconst hO dX7_passThousand_9 ?_
    exact z_retF hO hR dX7_passThousand_10 ⟨fun z => absurd z (by decide), fun _ => ⟨by omega, rfl⟩⟩
