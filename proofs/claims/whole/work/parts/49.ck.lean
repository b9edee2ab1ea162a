def lowOk (p w : Int) : Prop := p = 0 ∨ p = 6 ∨ p = 4 ∨ p = 5 ∨ (p = 3 ∧ w ≤ 9)
def lowS (σ : Sg) (t w : Int) : Sg := if w ≤ 19 then (if (σ 90 t = 0 ∨ σ 90 t = 6) ∧ w ≤ 9 then up (up σ 92 t (σ 92 t + w)) 90 t 1 else up (up σ 92 t (σ 92 t + w)) 90 t 2) else up (up σ 92 t (σ 92 t + (w - 18) * 10)) 90 t 3

set_option maxHeartbeats 4000000 in
set_option maxRecDepth 100000 in
theorem t_X7_passLow {g : G} {σ : Sg} {t w : Int} (ht : 0 ≤ t ∧ t ≤ 8) (hw : 1 ≤ w ∧ w ≤ 27) (h2 : 0 ≤ σ 92 t ∧ σ 92 t ≤ 999) : MM g mX7_passLow [.ref (g.2.2.1 88), vI t, vI w] σ (pB (fun b σ' => (b = true → lowOk (σ 90 t) w ∧ σ' = lowS σ t w) ∧ (b = false → ¬ lowOk (σ 90 t) w ∧ σ' = σ))) := by
  refine mm_of rfl (by decide) rfl rfl (Nat.le_of_ble_eq_true rfl) (fun x hO hR => ?_)
  refine z_aload_n hO 0 dX7_passLow_0 rfl ?_
  refine z_getR hO (90) fl_X7_15 rfl rfl dX7_passLow_1 ?_
  refine z_iload_n hO 1 dX7_passLow_4 rfl ?_
  refine z_iald hO rfl (by omega) (by decide) dX7_passLow_5 (fun r5 => ?_)
  refine z_istore_n hO (L' := [(3, _), (0, _), (1, _), (2, _)]) dX7_passLow_6 (by decide) rfl ?_
  refine z_iload_n hO 0 dX7_passLow_7 rfl ?_
  refine z_if_eq hO 17 dX7_passLow_8 (by decide) (by omega) (fun c8 => ?_) (fun c8 => ?_)
  ·
    refine z_iconst hO dX7_passLow_17 ?_
    refine z_goto hO 22 dX7_passLow_18 (by decide) ?_
    refine z_istore hO (L' := [(4, _), (3, _), (0, _), (1, _), (2, _)]) dX7_passLow_22 (by decide) rfl ?_
    refine z_iload hO 0 dX7_passLow_24 rfl ?_
    refine z_if_ne hO 39 dX7_passLow_26 (by decide) (by decide) (fun c26 => ?_) (fun c26 => absurd c26 (by omega))
    refine z_iconst hO dX7_passLow_39 ?_
    refine z_goto hO 44 dX7_passLow_40 (by decide) ?_
    refine z_istore hO (L' := [(5, _), (4, _), (3, _), (0, _), (1, _), (2, _)]) dX7_passLow_44 (by decide) rfl ?_
    refine z_iload hO 0 dX7_passLow_46 rfl ?_
    refine z_if_ne hO 64 dX7_passLow_48 (by decide) (by decide) (fun c48 => ?_) (fun c48 => absurd c48 (by omega))
    refine z_iload_n hO 5 dX7_passLow_64 rfl ?_
    refine z_bipush hO dX7_passLow_65 (by decide) ?_
    refine z_icmp_gt hO 105 dX7_passLow_67 (by decide) (by omega) (by decide) (fun c67 => ?_) (fun c67 => ?_)
    ·
      refine z_aload_n hO 3 dX7_passLow_105 rfl ?_
      refine z_getR hO (92) fl_X7_21 rfl rfl dX7_passLow_106 ?_
      refine z_iload_n hO 4 dX7_passLow_109 rfl ?_
      refine z_dup2 hO dX7_passLow_110 rfl rfl ?_
      refine z_iald hO rfl (by omega) (by decide) dX7_passLow_111 (fun r111 => ?_)
      refine z_iload_n hO 5 dX7_passLow_112 rfl ?_
      refine z_bipush hO dX7_passLow_113 (by decide) ?_
      refine z_isub hO dX7_passLow_115 ?_
      refine z_bipush hO dX7_passLow_116 (by decide) ?_
      refine z_imul hO dX7_passLow_118 ?_
      refine z_iadd hO dX7_passLow_119 ?_
      refine z_iast hO rfl (by omega) (by decide) (by omega) dX7_passLow_120 ?_
      refine z_aload_n hO 3 dX7_passLow_121 rfl ?_
      refine z_getR hO (90) fl_X7_15 rfl rfl dX7_passLow_122 ?_
      refine z_iload_n hO 4 dX7_passLow_125 rfl ?_
      refine z_iconst hO dX7_passLow_126 ?_
      refine z_iast hO rfl (by omega) (by decide) (by omega) dX7_passLow_127 ?_
      refine z_iconst hO dX7_passLow_128 ?_
      exact z_retT hO hR dX7_passLow_129 ⟨fun _ => ⟨by unfold lowOk; omega, by unfold lowS; (repeat' split) <;> first | rfl | (exfalso; omega)⟩, fun z => absurd z (by decide)⟩
    ·
      refine z_aload_n hO 3 dX7_passLow_70 rfl ?_
      refine z_getR hO (92) fl_X7_21 rfl rfl dX7_passLow_71 ?_
      refine z_iload_n hO 4 dX7_passLow_74 rfl ?_
      refine z_dup2 hO dX7_passLow_75 rfl rfl ?_
      refine z_iald hO rfl (by omega) (by decide) dX7_passLow_76 (fun r76 => ?_)
      refine z_iload_n hO 5 dX7_passLow_77 rfl ?_
      refine z_iadd hO dX7_passLow_78 ?_
      refine z_iast hO rfl (by omega) (by decide) (by omega) dX7_passLow_79 ?_
      refine z_aload_n hO 3 dX7_passLow_80 rfl ?_
      refine z_getR hO (90) fl_X7_15 rfl rfl dX7_passLow_81 ?_
      refine z_iload_n hO 4 dX7_passLow_84 rfl ?_
      refine z_iload hO 1 dX7_passLow_85 rfl ?_
      refine z_if_eq hO 100 dX7_passLow_87 (by decide) (by decide) (fun c87 => absurd c87 (by omega)) (fun c87 => ?_)
      refine z_iload_n hO 5 dX7_passLow_90 rfl ?_
      refine z_bipush hO dX7_passLow_91 (by decide) ?_
      refine z_icmp_gt hO 100 dX7_passLow_93 (by decide) (by omega) (by decide) (fun c93 => ?_) (fun c93 => ?_)
      ·
        refine z_iconst hO dX7_passLow_100 ?_
        refine z_iast hO rfl (by omega) (by decide) (by omega) dX7_passLow_101 ?_
        refine z_goto hO 128 dX7_passLow_102 (by decide) ?_
        refine z_iconst hO dX7_passLow_128 ?_
        exact z_retT hO hR dX7_passLow_129 ⟨fun _ => ⟨by unfold lowOk; omega, by unfold lowS; (repeat' split) <;> first | rfl | (exfalso; omega)⟩, fun z => absurd z (by decide)⟩
      ·
        refine z_iconst hO dX7_passLow_96 ?_
        refine z_goto hO 101 dX7_passLow_97 (by decide) ?_
        refine z_iast hO rfl (by omega) (by decide) (by omega) dX7_passLow_101 ?_
        refine z_goto hO 128 dX7_passLow_102 (by decide) ?_
        refine z_iconst hO dX7_passLow_128 ?_
        exact z_retT hO hR dX7_passLow_129 ⟨fun _ => ⟨by unfold lowOk; omega, by unfold lowS; (repeat' split) <;> first | rfl | (exfalso; omega)⟩, fun z => absurd z (by decide)⟩
  ·
    refine z_iload_n hO 0 dX7_passLow_11 rfl ?_
    refine z_bipush hO dX7_passLow_12 (by decide) ?_
    refine z_icmp_ne hO 21 dX7_passLow_14 (by decide) (by omega) (by decide) (fun c14 => ?_) (fun c14 => ?_)
    ·
      refine z_iconst hO dX7_passLow_21 ?_
      refine z_istore hO (L' := [(4, _), (3, _), (0, _), (1, _), (2, _)]) dX7_passLow_22 (by decide) rfl ?_
      refine z_iload hO 0 dX7_passLow_24 rfl ?_
      refine z_if_ne hO 39 dX7_passLow_26 (by decide) (by decide) (fun c26 => absurd c26 (by omega)) (fun c26 => ?_)
      refine z_iload_n hO 1 dX7_passLow_29 rfl ?_
      refine z_iconst hO dX7_passLow_30 ?_
      refine z_icmp_eq hO 39 dX7_passLow_31 (by decide) (by omega) (by decide) (fun c31 => ?_) (fun c31 => ?_)
      ·
        refine z_iconst hO dX7_passLow_39 ?_
        refine z_goto hO 44 dX7_passLow_40 (by decide) ?_
        refine z_istore hO (L' := [(5, _), (4, _), (3, _), (0, _), (1, _), (2, _)]) dX7_passLow_44 (by decide) rfl ?_
        refine z_iload hO 0 dX7_passLow_46 rfl ?_
        refine z_if_ne hO 64 dX7_passLow_48 (by decide) (by decide) (fun c48 => ?_) (fun c48 => absurd c48 (by omega))
        refine z_iload_n hO 5 dX7_passLow_64 rfl ?_
        refine z_bipush hO dX7_passLow_65 (by decide) ?_
        refine z_icmp_gt hO 105 dX7_passLow_67 (by decide) (by omega) (by decide) (fun c67 => ?_) (fun c67 => ?_)
        ·
          refine z_aload_n hO 3 dX7_passLow_105 rfl ?_
          refine z_getR hO (92) fl_X7_21 rfl rfl dX7_passLow_106 ?_
          refine z_iload_n hO 4 dX7_passLow_109 rfl ?_
          refine z_dup2 hO dX7_passLow_110 rfl rfl ?_
          refine z_iald hO rfl (by omega) (by decide) dX7_passLow_111 (fun r111 => ?_)
          refine z_iload_n hO 5 dX7_passLow_112 rfl ?_
          refine z_bipush hO dX7_passLow_113 (by decide) ?_
          refine z_isub hO dX7_passLow_115 ?_
          refine z_bipush hO dX7_passLow_116 (by decide) ?_
          refine z_imul hO dX7_passLow_118 ?_
          refine z_iadd hO dX7_passLow_119 ?_
          refine z_iast hO rfl (by omega) (by decide) (by omega) dX7_passLow_120 ?_
          refine z_aload_n hO 3 dX7_passLow_121 rfl ?_
          refine z_getR hO (90) fl_X7_15 rfl rfl dX7_passLow_122 ?_
          refine z_iload_n hO 4 dX7_passLow_125 rfl ?_
          refine z_iconst hO dX7_passLow_126 ?_
          refine z_iast hO rfl (by omega) (by decide) (by omega) dX7_passLow_127 ?_
          refine z_iconst hO dX7_passLow_128 ?_
          exact z_retT hO hR dX7_passLow_129 ⟨fun _ => ⟨by unfold lowOk; omega, by unfold lowS; (repeat' split) <;> first | rfl | (exfalso; omega)⟩, fun z => absurd z (by decide)⟩
        ·
          refine z_aload_n hO 3 dX7_passLow_70 rfl ?_
          refine z_getR hO (92) fl_X7_21 rfl rfl dX7_passLow_71 ?_
          refine z_iload_n hO 4 dX7_passLow_74 rfl ?_
          refine z_dup2 hO dX7_passLow_75 rfl rfl ?_
          refine z_iald hO rfl (by omega) (by decide) dX7_passLow_76 (fun r76 => ?_)
          refine z_iload_n hO 5 dX7_passLow_77 rfl ?_
          refine z_iadd hO dX7_passLow_78 ?_
          refine z_iast hO rfl (by omega) (by decide) (by omega) dX7_passLow_79 ?_
          refine z_aload_n hO 3 dX7_passLow_80 rfl ?_
          refine z_getR hO (90) fl_X7_15 rfl rfl dX7_passLow_81 ?_
          refine z_iload_n hO 4 dX7_passLow_84 rfl ?_
          refine z_iload hO 1 dX7_passLow_85 rfl ?_
          refine z_if_eq hO 100 dX7_passLow_87 (by decide) (by decide) (fun c87 => ?_) (fun c87 => absurd c87 (by omega))
          refine z_iconst hO dX7_passLow_100 ?_
          refine z_iast hO rfl (by omega) (by decide) (by omega) dX7_passLow_101 ?_
          refine z_goto hO 128 dX7_passLow_102 (by decide) ?_
          refine z_iconst hO dX7_passLow_128 ?_
          exact z_retT hO hR dX7_passLow_129 ⟨fun _ => ⟨by unfold lowOk; omega, by unfold lowS; (repeat' split) <;> first | rfl | (exfalso; omega)⟩, fun z => absurd z (by decide)⟩
      ·
        refine z_iload_n hO 1 dX7_passLow_34 rfl ?_
        refine z_iconst hO dX7_passLow_35 ?_
        refine z_icmp_ne hO 43 dX7_passLow_36 (by decide) (by omega) (by decide) (fun c36 => ?_) (fun c36 => ?_)
        ·
          refine z_iconst hO dX7_passLow_43 ?_
          refine z_istore hO (L' := [(5, _), (4, _), (3, _), (0, _), (1, _), (2, _)]) dX7_passLow_44 (by decide) rfl ?_
          refine z_iload hO 0 dX7_passLow_46 rfl ?_
          refine z_if_ne hO 64 dX7_passLow_48 (by decide) (by decide) (fun c48 => absurd c48 (by omega)) (fun c48 => ?_)
          refine z_iload_n hO 2 dX7_passLow_51 rfl ?_
          refine z_iconst hO dX7_passLow_52 ?_
          refine z_icmp_ne hO 62 dX7_passLow_53 (by decide) (by omega) (by decide) (fun c53 => ?_) (fun c53 => ?_)
          ·
            refine z_iconst hO dX7_passLow_62 ?_
            exact z_retF hO hR dX7_passLow_63 ⟨fun z => absurd z (by decide), fun _ => ⟨by unfold lowOk; omega, rfl⟩⟩
          ·
            refine z_iload_n hO 5 dX7_passLow_56 rfl ?_
            refine z_bipush hO dX7_passLow_57 (by decide) ?_
            refine z_icmp_le hO 64 dX7_passLow_59 (by decide) (by omega) (by decide) (fun c59 => ?_) (fun c59 => ?_)
            ·
              refine z_iload_n hO 5 dX7_passLow_64 rfl ?_
              refine z_bipush hO dX7_passLow_65 (by decide) ?_
              refine z_icmp_gt hO 105 dX7_passLow_67 (by decide) (by omega) (by decide) (fun c67 => ?_) (fun c67 => ?_)
              ·
                refine z_aload_n hO 3 dX7_passLow_105 rfl ?_
                refine z_getR hO (92) fl_X7_21 rfl rfl dX7_passLow_106 ?_
                refine z_iload_n hO 4 dX7_passLow_109 rfl ?_
                refine z_dup2 hO dX7_passLow_110 rfl rfl ?_
                refine z_iald hO rfl (by omega) (by decide) dX7_passLow_111 (fun r111 => ?_)
                refine z_iload_n hO 5 dX7_passLow_112 rfl ?_
                refine z_bipush hO dX7_passLow_113 (by decide) ?_
                refine z_isub hO dX7_passLow_115 ?_
                refine z_bipush hO dX7_passLow_116 (by decide) ?_
                refine z_imul hO dX7_passLow_118 ?_
                refine z_iadd hO dX7_passLow_119 ?_
                refine z_iast hO rfl (by omega) (by decide) (by omega) dX7_passLow_120 ?_
                refine z_aload_n hO 3 dX7_passLow_121 rfl ?_
                refine z_getR hO (90) fl_X7_15 rfl rfl dX7_passLow_122 ?_
                refine z_iload_n hO 4 dX7_passLow_125 rfl ?_
                refine z_iconst hO dX7_passLow_126 ?_
                refine z_iast hO rfl (by omega) (by decide) (by omega) dX7_passLow_127 ?_
                refine z_iconst hO dX7_passLow_128 ?_
                exact z_retT hO hR dX7_passLow_129 ⟨fun _ => ⟨by unfold lowOk; omega, by unfold lowS; (repeat' split) <;> first | rfl | (exfalso; omega)⟩, fun z => absurd z (by decide)⟩
              ·
                refine z_aload_n hO 3 dX7_passLow_70 rfl ?_
                refine z_getR hO (92) fl_X7_21 rfl rfl dX7_passLow_71 ?_
                refine z_iload_n hO 4 dX7_passLow_74 rfl ?_
                refine z_dup2 hO dX7_passLow_75 rfl rfl ?_
                refine z_iald hO rfl (by omega) (by decide) dX7_passLow_76 (fun r76 => ?_)
                refine z_iload_n hO 5 dX7_passLow_77 rfl ?_
                refine z_iadd hO dX7_passLow_78 ?_
                refine z_iast hO rfl (by omega) (by decide) (by omega) dX7_passLow_79 ?_
                refine z_aload_n hO 3 dX7_passLow_80 rfl ?_
                refine z_getR hO (90) fl_X7_15 rfl rfl dX7_passLow_81 ?_
                refine z_iload_n hO 4 dX7_passLow_84 rfl ?_
                refine z_iload hO 1 dX7_passLow_85 rfl ?_
                refine z_if_eq hO 100 dX7_passLow_87 (by decide) (by decide) (fun c87 => ?_) (fun c87 => absurd c87 (by omega))
                refine z_iconst hO dX7_passLow_100 ?_
                refine z_iast hO rfl (by omega) (by decide) (by omega) dX7_passLow_101 ?_
                refine z_goto hO 128 dX7_passLow_102 (by decide) ?_
                refine z_iconst hO dX7_passLow_128 ?_
                exact z_retT hO hR dX7_passLow_129 ⟨fun _ => ⟨by unfold lowOk; omega, by unfold lowS; (repeat' split) <;> first | rfl | (exfalso; omega)⟩, fun z => absurd z (by decide)⟩
            ·
              refine z_iconst hO dX7_passLow_62 ?_
              exact z_retF hO hR dX7_passLow_63 ⟨fun z => absurd z (by decide), fun _ => ⟨by unfold lowOk; omega, rfl⟩⟩
        ·
          refine z_iconst hO dX7_passLow_39 ?_
          refine z_goto hO 44 dX7_passLow_40 (by decide) ?_
          refine z_istore hO (L' := [(5, _), (4, _), (3, _), (0, _), (1, _), (2, _)]) dX7_passLow_44 (by decide) rfl ?_
          refine z_iload hO 0 dX7_passLow_46 rfl ?_
          refine z_if_ne hO 64 dX7_passLow_48 (by decide) (by decide) (fun c48 => ?_) (fun c48 => absurd c48 (by omega))
          refine z_iload_n hO 5 dX7_passLow_64 rfl ?_
          refine z_bipush hO dX7_passLow_65 (by decide) ?_
          refine z_icmp_gt hO 105 dX7_passLow_67 (by decide) (by omega) (by decide) (fun c67 => ?_) (fun c67 => ?_)
          ·
            refine z_aload_n hO 3 dX7_passLow_105 rfl ?_
            refine z_getR hO (92) fl_X7_21 rfl rfl dX7_passLow_106 ?_
            refine z_iload_n hO 4 dX7_passLow_109 rfl ?_
            refine z_dup2 hO dX7_passLow_110 rfl rfl ?_
            refine z_iald hO rfl (by omega) (by decide) dX7_passLow_111 (fun r111 => ?_)
            refine z_iload_n hO 5 dX7_passLow_112 rfl ?_
            refine z_bipush hO dX7_passLow_113 (by decide) ?_
            refine z_isub hO dX7_passLow_115 ?_
            refine z_bipush hO dX7_passLow_116 (by decide) ?_
            refine z_imul hO dX7_passLow_118 ?_
            refine z_iadd hO dX7_passLow_119 ?_
            refine z_iast hO rfl (by omega) (by decide) (by omega) dX7_passLow_120 ?_
            refine z_aload_n hO 3 dX7_passLow_121 rfl ?_
            refine z_getR hO (90) fl_X7_15 rfl rfl dX7_passLow_122 ?_
            refine z_iload_n hO 4 dX7_passLow_125 rfl ?_
            refine z_iconst hO dX7_passLow_126 ?_
            refine z_iast hO rfl (by omega) (by decide) (by omega) dX7_passLow_127 ?_
            refine z_iconst hO dX7_passLow_128 ?_
            exact z_retT hO hR dX7_passLow_129 ⟨fun _ => ⟨by unfold lowOk; omega, by unfold lowS; (repeat' split) <;> first | rfl | (exfalso; omega)⟩, fun z => absurd z (by decide)⟩
          ·
            refine z_aload_n hO 3 dX7_passLow_70 rfl ?_
            refine z_getR hO (92) fl_X7_21 rfl rfl dX7_passLow_71 ?_
            refine z_iload_n hO 4 dX7_passLow_74 rfl ?_
            refine z_dup2 hO dX7_passLow_75 rfl rfl ?_
            refine z_iald hO rfl (by omega) (by decide) dX7_passLow_76 (fun r76 => ?_)
            refine z_iload_n hO 5 dX7_passLow_77 rfl ?_
            refine z_iadd hO dX7_passLow_78 ?_
            refine z_iast hO rfl (by omega) (by decide) (by omega) dX7_passLow_79 ?_
            refine z_aload_n hO 3 dX7_passLow_80 rfl ?_
            refine z_getR hO (90) fl_X7_15 rfl rfl dX7_passLow_81 ?_
            refine z_iload_n hO 4 dX7_passLow_84 rfl ?_
            refine z_iload hO 1 dX7_passLow_85 rfl ?_
            refine z_if_eq hO 100 dX7_passLow_87 (by decide) (by decide) (fun c87 => ?_) (fun c87 => absurd c87 (by omega))
            refine z_iconst hO dX7_passLow_100 ?_
            refine z_iast hO rfl (by omega) (by decide) (by omega) dX7_passLow_101 ?_
            refine z_goto hO 128 dX7_passLow_102 (by decide) ?_
            refine z_iconst hO dX7_passLow_128 ?_
            exact z_retT hO hR dX7_passLow_129 ⟨fun _ => ⟨by unfold lowOk; omega, by unfold lowS; (repeat' split) <;> first | rfl | (exfalso; omega)⟩, fun z => absurd z (by decide)⟩
    ·
      refine z_iconst hO dX7_passLow_17 ?_
      refine z_goto hO 22 dX7_passLow_18 (by decide) ?_
      refine z_istore hO (L' := [(4, _), (3, _), (0, _), (1, _), (2, _)]) dX7_passLow_22 (by decide) rfl ?_
      refine z_iload hO 0 dX7_passLow_24 rfl ?_
      refine z_if_ne hO 39 dX7_passLow_26 (by decide) (by decide) (fun c26 => ?_) (fun c26 => absurd c26 (by omega))
      refine z_iconst hO dX7_passLow_39 ?_
      refine z_goto hO 44 dX7_passLow_40 (by decide) ?_
      refine z_istore hO (L' := [(5, _), (4, _), (3, _), (0, _), (1, _), (2, _)]) dX7_passLow_44 (by decide) rfl ?_
      refine z_iload hO 0 dX7_passLow_46 rfl ?_
      refine z_if_ne hO 64 dX7_passLow_48 (by decide) (by decide) (fun c48 => ?_) (fun c48 => absurd c48 (by omega))
      refine z_iload_n hO 5 dX7_passLow_64 rfl ?_
      refine z_bipush hO dX7_passLow_65 (by decide) ?_
      refine z_icmp_gt hO 105 dX7_passLow_67 (by decide) (by omega) (by decide) (fun c67 => ?_) (fun c67 => ?_)
      ·
        refine z_aload_n hO 3 dX7_passLow_105 rfl ?_
        refine z_getR hO (92) fl_X7_21 rfl rfl dX7_passLow_106 ?_
        refine z_iload_n hO 4 dX7_passLow_109 rfl ?_
        refine z_dup2 hO dX7_passLow_110 rfl rfl ?_
        refine z_iald hO rfl (by omega) (by decide) dX7_passLow_111 (fun r111 => ?_)
        refine z_iload_n hO 5 dX7_passLow_112 rfl ?_
        refine z_bipush hO dX7_passLow_113 (by decide) ?_
        refine z_isub hO dX7_passLow_115 ?_
        refine z_bipush hO dX7_passLow_116 (by decide) ?_
        refine z_imul hO dX7_passLow_118 ?_
        refine z_iadd hO dX7_passLow_119 ?_
        refine z_iast hO rfl (by omega) (by decide) (by omega) dX7_passLow_120 ?_
        refine z_aload_n hO 3 dX7_passLow_121 rfl ?_
        refine z_getR hO (90) fl_X7_15 rfl rfl dX7_passLow_122 ?_
        refine z_iload_n hO 4 dX7_passLow_125 rfl ?_
        refine z_iconst hO dX7_passLow_126 ?_
        refine z_iast hO rfl (by omega) (by decide) (by omega) dX7_passLow_127 ?_
        refine z_iconst hO dX7_passLow_128 ?_
        exact z_retT hO hR dX7_passLow_129 ⟨fun _ => ⟨by unfold lowOk; omega, by unfold lowS; (repeat' split) <;> first | rfl | (exfalso; omega)⟩, fun z => absurd z (by decide)⟩
      ·
        refine z_aload_n hO 3 dX7_passLow_70 rfl ?_
        refine z_getR hO (92) fl_X7_21 rfl rfl dX7_passLow_71 ?_
        refine z_iload_n hO 4 dX7_passLow_74 rfl ?_
        refine z_dup2 hO dX7_passLow_75 rfl rfl ?_
        refine z_iald hO rfl (by omega) (by decide) dX7_passLow_76 (fun r76 => ?_)
        refine z_iload_n hO 5 dX7_passLow_77 rfl ?_
        refine z_iadd hO dX7_passLow_78 ?_
        refine z_iast hO rfl (by omega) (by decide) (by omega) dX7_passLow_79 ?_
        refine z_aload_n hO 3 dX7_passLow_80 rfl ?_
        refine z_getR hO (90) fl_X7_15 rfl rfl dX7_passLow_81 ?_
        refine z_iload_n hO 4 dX7_passLow_84 rfl ?_
        refine z_iload hO 1 dX7_passLow_85 rfl ?_
        refine z_if_eq hO 100 dX7_passLow_87 (by decide) (by decide) (fun c87 => absurd c87 (by omega)) (fun c87 => ?_)
        refine z_iload_n hO 5 dX7_passLow_90 rfl ?_
        refine z_bipush hO dX7_passLow_91 (by decide) ?_
        refine z_icmp_gt hO 100 dX7_passLow_93 (by decide) (by omega) (by decide) (fun c93 => ?_) (fun c93 => ?_)
        ·
          refine z_iconst hO dX7_passLow_100 ?_
          refine z_iast hO rfl (by omega) (by decide) (by omega) dX7_passLow_101 ?_
          refine z_goto hO 128 dX7_passLow_102 (by decide) ?_
          refine z_iconst hO dX7_passLow_128 ?_
          exact z_retT hO hR dX7_passLow_129 ⟨fun _ => ⟨by unfold lowOk; omega, by unfold lowS; (repeat' split) <;> first | rfl | (exfalso; omega)⟩, fun z => absurd z (by decide)⟩
        ·
          refine z_iconst hO dX7_passLow_96 ?_
          refine z_goto hO 101 dX7_passLow_97 (by decide) ?_
          refine z_iast hO rfl (by omega) (by decide) (by omega) dX7_passLow_101 ?_
          refine z_goto hO 128 dX7_passLow_102 (by decide) ?_
          refine z_iconst hO dX7_passLow_128 ?_
          exact z_retT hO hR dX7_passLow_129 ⟨fun _ => ⟨by unfold lowOk; omega, by unfold lowS; (repeat' split) <;> first | rfl | (exfalso; omega)⟩, fun z => absurd z (by decide)⟩
