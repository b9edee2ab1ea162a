def finS (σ : Sg) (d : Int) : Sg := up (up (up (up σ 96 (σ 93 d) (σ 91 d + σ 92 d)) 88 10 (σ 93 d + 1)) 88 11 (σ 94 d)) 88 12 (σ 95 d)

set_option maxHeartbeats 4000000 in
set_option maxRecDepth 100000 in
theorem t_X7_finish {g : G} {σ : Sg} {d : Int} (hd : 0 ≤ d ∧ d ≤ 8) (he : 0 ≤ σ 93 d) (h1 : 0 ≤ σ 91 d ∧ σ 91 d ≤ 999000) (h2 : 0 ≤ σ 92 d ∧ σ 92 d ≤ 999) : MM g mX7_finish [.ref (g.2.2.1 88), vI d] σ (pB (fun b σ' => (b = true → ((σ 90 d ≠ 0 ∧ σ 90 d ≠ 5) ∧ σ 93 d < 4) ∧ σ' = finS σ d) ∧ (b = false → ¬ ((σ 90 d ≠ 0 ∧ σ 90 d ≠ 5) ∧ σ 93 d < 4) ∧ σ' = σ))) := by
  refine mm_of rfl (by decide) rfl rfl (Nat.le_of_ble_eq_true rfl) (fun x hO hR => ?_)
  refine z_aload_n hO 0 dX7_finish_0 rfl ?_
  refine z_iload_n hO 1 dX7_finish_1 rfl ?_
  refine z_cvQ hO (t_X7_isWhole (by omega)) cv_X7_65 rfl rfl rfl rfl (by decide) (Nat.le_of_ble_eq_true rfl) dX7_finish_2 (fun c2 => ?_) (fun c2 => ?_)
  ·
    refine z_if_eq hO 18 dX7_finish_5 (by decide) (by decide) (fun c5 => absurd c5 (by omega)) (fun c5 => ?_)
    refine z_aload_n hO 0 dX7_finish_8 rfl ?_
    refine z_getR hO (93) fl_X7_24 rfl rfl dX7_finish_9 ?_
    refine z_iload_n hO 1 dX7_finish_12 rfl ?_
    refine z_iald hO rfl (by omega) (by decide) dX7_finish_13 (fun r13 => ?_)
    refine z_iconst hO dX7_finish_14 ?_
    refine z_icmp_lt hO 20 dX7_finish_15 (by decide) (by omega) (by decide) (fun c15 => ?_) (fun c15 => ?_)
    ·
      refine z_aload_n hO 0 dX7_finish_20 rfl ?_
      refine z_getR hO (96) fl_X7_34 rfl rfl dX7_finish_21 ?_
      refine z_aload_n hO 0 dX7_finish_24 rfl ?_
      refine z_getR hO (93) fl_X7_24 rfl rfl dX7_finish_25 ?_
      refine z_iload_n hO 1 dX7_finish_28 rfl ?_
      refine z_iald hO rfl (by omega) (by decide) dX7_finish_29 (fun r29 => ?_)
      refine z_aload_n hO 0 dX7_finish_30 rfl ?_
      refine z_getR hO (91) fl_X7_18 rfl rfl dX7_finish_31 ?_
      refine z_iload_n hO 1 dX7_finish_34 rfl ?_
      refine z_iald hO rfl (by omega) (by decide) dX7_finish_35 (fun r35 => ?_)
      refine z_aload_n hO 0 dX7_finish_36 rfl ?_
      refine z_getR hO (92) fl_X7_21 rfl rfl dX7_finish_37 ?_
      refine z_iload_n hO 1 dX7_finish_40 rfl ?_
      refine z_iald hO rfl (by omega) (by decide) dX7_finish_41 (fun r41 => ?_)
      refine z_iadd hO dX7_finish_42 ?_
      refine z_iast hO rfl (by omega) (by decide) (by omega) dX7_finish_43 ?_
      refine z_aload_n hO 0 dX7_finish_44 rfl ?_
      refine z_aload_n hO 0 dX7_finish_45 rfl ?_
      refine z_getR hO (93) fl_X7_24 rfl rfl dX7_finish_46 ?_
      refine z_iload_n hO 1 dX7_finish_49 rfl ?_
      refine z_iald hO rfl (by omega) (by decide) dX7_finish_50 (fun r50 => ?_)
      try simp only [fl_row_ne, fl_ne, up_row_ne, up_ne, up_eq, up_nk, up_up, up_self, ne_eq, Nat.reduceEqDiff, Int.reduceEq, reduceCtorEq, not_false_eq_true, not_true_eq_false] at r50 ⊢
      refine z_iconst hO dX7_finish_51 ?_
      refine z_iadd hO dX7_finish_52 ?_
      refine z_putI hO 10 fp_X7_68 rfl rfl rfl (by omega) rfl rfl dX7_finish_53 ?_
      refine z_aload_n hO 0 dX7_finish_56 rfl ?_
      refine z_aload_n hO 0 dX7_finish_57 rfl ?_
      refine z_getR hO (94) fl_X7_27 rfl rfl dX7_finish_58 ?_
      refine z_iload_n hO 1 dX7_finish_61 rfl ?_
      refine z_iald hO rfl (by omega) (by decide) dX7_finish_62 (fun r62 => ?_)
      try simp only [fl_row_ne, fl_ne, up_row_ne, up_ne, up_eq, up_nk, up_up, up_self, ne_eq, Nat.reduceEqDiff, Int.reduceEq, reduceCtorEq, not_false_eq_true, not_true_eq_false] at r62 ⊢
      refine z_putI hO 11 fp_X7_71 rfl rfl rfl (by omega) rfl rfl dX7_finish_63 ?_
      refine z_aload_n hO 0 dX7_finish_66 rfl ?_
      refine z_aload_n hO 0 dX7_finish_67 rfl ?_
      refine z_getR hO (95) fl_X7_30 rfl rfl dX7_finish_68 ?_
      refine z_iload_n hO 1 dX7_finish_71 rfl ?_
      refine z_lald hO rfl (by omega) (by decide) dX7_finish_72 (fun r72 => ?_)
      try simp only [fl_row_ne, fl_ne, up_row_ne, up_ne, up_eq, up_nk, up_up, up_self, ne_eq, Nat.reduceEqDiff, Int.reduceEq, reduceCtorEq, not_false_eq_true, not_true_eq_false] at r72 ⊢
      refine z_putL hO 12 fp_X7_74 rfl rfl rfl (by omega) dX7_finish_73 ?_
      refine z_iconst hO dX7_finish_76 ?_
      exact z_retT hO hR dX7_finish_77 ⟨fun _ => ⟨by omega, rfl⟩, fun z => absurd z (by decide)⟩
    ·
      refine z_iconst hO dX7_finish_18 ?_
      exact z_retF hO hR dX7_finish_19 ⟨fun z => absurd z (by decide), fun _ => ⟨by omega, rfl⟩⟩
  ·
    refine z_if_eq hO 18 dX7_finish_5 (by decide) (by decide) (fun c5 => ?_) (fun c5 => absurd c5 (by omega))
    refine z_iconst hO dX7_finish_18 ?_
    exact z_retF hO hR dX7_finish_19 ⟨fun z => absurd z (by decide), fun _ => ⟨by omega, rfl⟩⟩
