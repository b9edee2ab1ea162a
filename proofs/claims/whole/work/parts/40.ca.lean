set_option maxHeartbeats 4000000 in
set_option maxRecDepth 100000 in
theorem lp_others {g : G} {x : Cx} {σ : Sg} {m : Int} (hO : Ok g x RX0 cX0_others 4 1) (hR : Rt g x (some .int) (pI (pE (sumN (σ 96) (m - 1).toNat) σ))) (hN : NR (σ 96) m) (hm : m ≤ 4) : ∀ (k i : Nat) (v : Int), (i : Int) ≤ m - 1 → m - i < k → v = sumN (σ 96) i → Z g x 4 4 [(0, .ref (g.2.2.1 96)), (1, vI m), (2, vI v), (3, vI i)] [] σ := by
  intro k
  induction k with
  | zero => intro i v h0 hk; exact absurd hk (by omega)
  | succ k ih =>
    intro i v h0 hk hv
    refine z_iload_n hO 3 dX0_others_4 rfl ?_
    refine z_iload_n hO 1 dX0_others_5 rfl ?_
    refine z_iconst hO dX0_others_6 ?_
    refine z_isub hO dX0_others_7 ?_
    refine z_icmp_ge hO 23 dX0_others_8 (by decide) (by omega) (by omega) (fun c8 => ?_) (fun c8 => ?_)
    ·
      have hi3 : i = (m - 1).toNat := by omega
      subst hi3
      refine z_iload_n hO 2 dX0_others_23 rfl ?_
      exact z_retE hO hR dX0_others_24 (hv) rfl
    ·
      have hN0 := hN.2.2 i (by omega) (by omega)
      refine z_iload_n hO 2 dX0_others_11 rfl ?_
      refine z_aload_n hO 0 dX0_others_12 rfl ?_
      refine z_iload_n hO 3 dX0_others_13 rfl ?_
      refine z_iald hO rfl (by omega) (by decide) dX0_others_14 (fun r14 => ?_)
      refine z_iadd hO dX0_others_15 ?_
      refine z_istore_n hO (L' := [(2, _), (0, _), (1, _), (3, _)]) dX0_others_16 (by decide) rfl ?_
      refine z_iinc hO (L' := [(3, _), (2, _), (0, _), (1, _)]) 3 dX0_others_17 rfl (by decide) rfl ?_
      refine z_goto hO 4 dX0_others_20 (by decide) ?_
      exact z_pick [2, 3, 1, 0] rfl (ih (i + 1) _ (by omega) (by omega) (by rw [sumN_s, hv]))

set_option maxHeartbeats 4000000 in
set_option maxRecDepth 100000 in
theorem t_X0_others {g : G} {σ : Sg} {m : Int} (hN : NR (σ 96) m) (hm : m ≤ 4) : MM g mX0_others [.ref (g.2.2.1 96), vI m] σ (pI (pE (sumN (σ 96) (m - 1).toNat) σ)) := by
  refine mm_of rfl (by decide) rfl rfl (Nat.le_of_ble_eq_true rfl) (fun x hO hR => ?_)
  refine z_iconst hO dX0_others_0 ?_
  refine z_istore_n hO (L' := [(2, _), (0, _), (1, _)]) dX0_others_1 (by decide) rfl ?_
  refine z_iconst hO dX0_others_2 ?_
  refine z_istore_n hO (L' := [(3, _), (2, _), (0, _), (1, _)]) dX0_others_3 (by decide) rfl ?_
  exact z_pick [2, 3, 1, 0] rfl (lp_others hO hR hN hm 6 0 0 (by have := hN.1; omega) (by omega) rfl)

set_option maxHeartbeats 4000000 in
set_option maxRecDepth 100000 in
theorem lp_rises {g : G} {x : Cx} {σ : Sg} {m : Int} (hO : Ok g x RX0 cX0_rises 3 1) (hR : Rt g x (some .boolean) (pB (pQ (rsn (σ 96) m) σ))) (hN : NR (σ 96) m) (hm : m ≤ 4) : ∀ (k i : Nat), 1 ≤ (i : Int) → (i : Int) ≤ m → m - i < k → rsn (σ 96) i → Z g x 3 2 [(0, .ref (g.2.2.1 96)), (1, vI m), (2, vI i)] [] σ := by
  intro k
  induction k with
  | zero => intro i h0 h1 hk; exact absurd hk (by omega)
  | succ k ih =>
    intro i h0 h1 hk hr
    refine z_iload_n hO 2 dX0_rises_2 rfl ?_
    refine z_iload_n hO 1 dX0_rises_3 rfl ?_
    refine z_icmp_ge hO 26 dX0_rises_4 (by decide) (by omega) (by omega) (fun c4 => ?_) (fun c4 => ?_)
    ·
      refine z_iconst hO dX0_rises_26 ?_
      exact z_retQT hO hR dX0_rises_27 (by have hi3 : (i : Int) = m := (by omega); rw [← hi3]; exact hr) rfl
    ·
      refine z_aload_n hO 0 dX0_rises_7 rfl ?_
      refine z_iload_n hO 2 dX0_rises_8 rfl ?_
      refine z_iald hO rfl (by omega) (by decide) dX0_rises_9 (fun r9 => ?_)
      refine z_aload_n hO 0 dX0_rises_10 rfl ?_
      refine z_iload_n hO 2 dX0_rises_11 rfl ?_
      refine z_iconst hO dX0_rises_12 ?_
      refine z_isub hO dX0_rises_13 ?_
      refine z_iald hO rfl (by omega) (by decide) dX0_rises_14 (fun r14 => ?_)
      refine z_icmp_gt hO 20 dX0_rises_15 (by decide) (by omega) (by omega) (fun c15 => ?_) (fun c15 => ?_)
      ·
        refine z_iinc hO (L' := [(2, _), (0, _), (1, _)]) 2 dX0_rises_20 rfl (by decide) rfl ?_
        refine z_goto hO 2 dX0_rises_23 (by decide) ?_
        exact z_pick [1, 2, 0] rfl (ih (i + 1) (by omega) (by omega) (by omega) (by intro j j0 j1; by_cases e : j = i - 1; (subst e; rw [show (i : Int) - 1 + 1 = i by omega]; omega); exact hr j j0 (by omega)))
      ·
        refine z_iconst hO dX0_rises_18 ?_
        exact z_retQF hO hR dX0_rises_19 (fun z => absurd (z (i - 1) (by omega) (by omega)) (by rw [show (i : Int) - 1 + 1 = i by omega]; omega)) rfl

set_option maxHeartbeats 4000000 in
set_option maxRecDepth 100000 in
theorem t_X0_rises {g : G} {σ : Sg} {m : Int} (hN : NR (σ 96) m) (hm : m ≤ 4) : MM g mX0_rises [.ref (g.2.2.1 96), vI m] σ (pB (pQ (rsn (σ 96) m) σ)) := by
  refine mm_of rfl (by decide) rfl rfl (Nat.le_of_ble_eq_true rfl) (fun x hO hR => ?_)
  refine z_iconst hO dX0_rises_0 ?_
  refine z_istore_n hO (L' := [(2, _), (0, _), (1, _)]) dX0_rises_1 (by decide) rfl ?_
  exact z_pick [1, 2, 0] rfl (lp_rises hO hR hN hm 6 1 (by decide) (by have := hN.1; omega) (by omega) (rsn_1 _ (by decide)))

set_option maxHeartbeats 4000000 in
set_option maxRecDepth 100000 in
theorem lp_isSteady {g : G} {x : Cx} {σ : Sg} {m : Int} (hO : Ok g x RX0 cX0_isSteady 3 1) (hR : Rt g x (some .boolean) (pB (pQ (sty (σ 96) m) σ))) (hN : NR (σ 96) m) (hm : m ≤ 4) : ∀ (k i : Nat), 2 ≤ (i : Int) → (i : Int) ≤ 5 ∧ 5 - (i : Int) < k → sty (σ 96) i → Z g x 3 2 [(0, .ref (g.2.2.1 96)), (1, vI m), (2, vI i)] [] σ := by
  have hm1 := hN.1
  intro k
  induction k with
  | zero => intro i h0 hk; exact absurd hk (by omega)
  | succ k ih =>
    intro i h0 hk hr
    refine z_iload_n hO 2 dX0_isSteady_2 rfl ?_
    refine z_iload_n hO 1 dX0_isSteady_3 rfl ?_
    refine z_icmp_ge hO 34 dX0_isSteady_4 (by decide) (by omega) (by omega) (fun c4 => ?_) (fun c4 => ?_)
    ·
      refine z_iconst hO dX0_isSteady_34 ?_
      exact z_retQT hO hR dX0_isSteady_35 (fun j j0 j1 => hr j j0 (by omega)) rfl
    ·
      have hN0 := hN.2.2 i (by omega) (by omega)
      have hN1 := hN.2.2 (i - 1) (by omega) (by omega)
      have hN2 := hN.2.2 0 (by omega) (by omega)
      have hN3 := hN.2.2 1 (by omega) (by omega)
      refine z_aload_n hO 0 dX0_isSteady_7 rfl ?_
      refine z_iload_n hO 2 dX0_isSteady_8 rfl ?_
      refine z_iald hO rfl (by omega) (by decide) dX0_isSteady_9 (fun r9 => ?_)
      refine z_aload_n hO 0 dX0_isSteady_10 rfl ?_
      refine z_iload_n hO 2 dX0_isSteady_11 rfl ?_
      refine z_iconst hO dX0_isSteady_12 ?_
      refine z_isub hO dX0_isSteady_13 ?_
      refine z_iald hO rfl (by omega) (by decide) dX0_isSteady_14 (fun r14 => ?_)
      refine z_isub hO dX0_isSteady_15 ?_
      refine z_aload_n hO 0 dX0_isSteady_16 rfl ?_
      refine z_iconst hO dX0_isSteady_17 ?_
      refine z_iald hO rfl (by omega) (by decide) dX0_isSteady_18 (fun r18 => ?_)
      refine z_aload_n hO 0 dX0_isSteady_19 rfl ?_
      refine z_iconst hO dX0_isSteady_20 ?_
      refine z_iald hO rfl (by omega) (by decide) dX0_isSteady_21 (fun r21 => ?_)
      refine z_isub hO dX0_isSteady_22 ?_
      refine z_icmp_eq hO 28 dX0_isSteady_23 (by decide) (by omega) (by omega) (fun c23 => ?_) (fun c23 => ?_)
      ·
        refine z_iinc hO (L' := [(2, _), (0, _), (1, _)]) 2 dX0_isSteady_28 rfl (by decide) rfl ?_
        refine z_goto hO 2 dX0_isSteady_31 (by decide) ?_
        exact z_pick [1, 2, 0] rfl (ih (i + 1) (by omega) (by omega) (by intro j j0 j1; by_cases e : j = i - 1; (subst e; rw [show (i : Int) - 1 + 1 = i by omega]; omega); exact hr j j0 (by omega)))
      ·
        refine z_iconst hO dX0_isSteady_26 ?_
        exact z_retQF hO hR dX0_isSteady_27 (fun z => absurd (z (i - 1) (by omega) (by omega)) (by rw [show (i : Int) - 1 + 1 = i by omega]; omega)) rfl

set_option maxHeartbeats 4000000 in
set_option maxRecDepth 100000 in
theorem t_X0_isSteady {g : G} {σ : Sg} {m : Int} (hN : NR (σ 96) m) (hm : m ≤ 4) : MM g mX0_isSteady [.ref (g.2.2.1 96), vI m] σ (pB (pQ (sty (σ 96) m) σ)) := by
  refine mm_of rfl (by decide) rfl rfl (Nat.le_of_ble_eq_true rfl) (fun x hO hR => ?_)
  refine z_iconst hO dX0_isSteady_0 ?_
  refine z_istore_n hO (L' := [(2, _), (0, _), (1, _)]) dX0_isSteady_1 (by decide) rfl ?_
  exact z_pick [1, 2, 0] rfl (lp_isSteady hO hR hN hm 6 2 (by decide) (by decide) (fun j j0 j1 => by rw [show j = 0 by omega]; rfl))

set_option maxHeartbeats 4000000 in
set_option maxRecDepth 100000 in
theorem t_X0_isKept {g : G} {σ : Sg} {K m : Int} (rK : -2147483648 ≤ K ∧ K ≤ 2147483647) (rm : -2147483648 ≤ m ∧ m ≤ 2147483647) (hN : 1 ≤ m → m ≤ 4 → NR (σ 96) m) : MM g mX0_isKept [vI K, .ref (g.2.2.1 96), vI m] σ (pB (pQ (1 ≤ m ∧ m ≤ 4 ∧ hld K (σ 96) m) σ)) := by
  refine mm_of rfl (by decide) rfl rfl (Nat.le_of_ble_eq_true rfl) (fun x hO hR => ?_)
  refine z_iload_n hO 2 dX0_isKept_0 rfl ?_
  refine z_iconst hO dX0_isKept_1 ?_
  refine z_icmp_lt hO 11 dX0_isKept_2 (by decide) (by omega) (by decide) (fun c2 => ?_) (fun c2 => ?_)
  ·
    refine z_iconst hO dX0_isKept_11 ?_
    exact z_retQF hO hR dX0_isKept_12 (fun z => by omega) rfl
  ·
    refine z_iload_n hO 2 dX0_isKept_5 rfl ?_
    refine z_aload_n hO 1 dX0_isKept_6 rfl ?_
    refine z_alen1 hO rfl dX0_isKept_7 ?_
    refine z_icmp_le hO 13 dX0_isKept_8 (by decide) (by omega) (by decide) (fun c8 => ?_) (fun c8 => ?_)
    ·
      refine z_iload_n hO 0 dX0_isKept_13 rfl ?_
      rcases (show K = 1 ∨ K = 2 ∨ K = 3 ∨ K = 4 ∨ (K < 1 ∨ 4 < K) by omega) with h14 | h14 | h14 | h14 | h14
      ·
        refine z_tswIn hO 44 dX0_isKept_14 (by omega) (by omega) (by omega) (by rw [h14]; rfl) (by decide) ?_
        have hh : hld K (σ 96) m ↔ (1 < m ∧ sumN (σ 96) (m - 1).toNat = σ 96 (m - 1)) := by unfold hld; rw [if_pos h14]
        have hN1 := hN (by omega) (by omega)
        have hsr := sumN_r hN1 (m - 1).toNat (by omega)
        have hNl := hN1.2.2 (m - 1) (by omega) (by omega)
        refine z_iload_n hO 2 dX0_isKept_44 rfl ?_
        refine z_iconst hO dX0_isKept_45 ?_
        refine z_icmp_lt hO 66 dX0_isKept_46 (by decide) (by omega) (by decide) (fun c46 => ?_) (fun c46 => ?_)
        ·
          refine z_iconst hO dX0_isKept_66 ?_
          exact z_retQF hO hR dX0_isKept_67 (by rw [hh]; omega) rfl
        ·
          refine z_aload_n hO 1 dX0_isKept_49 rfl ?_
          refine z_iload_n hO 2 dX0_isKept_50 rfl ?_
          refine z_iconst hO dX0_isKept_51 ?_
          refine z_isub hO dX0_isKept_52 ?_
          refine z_iald hO rfl (by omega) (by decide) dX0_isKept_53 (fun r53 => ?_)
          refine z_aload_n hO 1 dX0_isKept_54 rfl ?_
          refine z_iload_n hO 2 dX0_isKept_55 rfl ?_
          refine z_csE hO (t_X0_others (hN (by omega) (by omega)) (by omega)) cs_X0_7 rfl rfl (by decide) (Nat.le_of_ble_eq_true rfl) dX0_isKept_56 ?_
          refine z_icmp_ne hO 66 dX0_isKept_59 (by decide) (by omega) (by omega) (fun c59 => ?_) (fun c59 => ?_)
          ·
            refine z_iconst hO dX0_isKept_66 ?_
            exact z_retQF hO hR dX0_isKept_67 (by rw [hh]; omega) rfl
          ·
            refine z_iconst hO dX0_isKept_62 ?_
            refine z_goto hO 67 dX0_isKept_63 (by decide) ?_
            exact z_retQT hO hR dX0_isKept_67 (by rw [hh]; omega) rfl
      ·
        refine z_tswIn hO 68 dX0_isKept_14 (by omega) (by omega) (by omega) (by rw [h14]; rfl) (by decide) ?_
        have hh : hld K (σ 96) m ↔ rsn (σ 96) m := by unfold hld; rw [if_neg (by omega), if_pos h14]
        have hN1 := hN (by omega) (by omega)
        have hsr := sumN_r hN1 (m - 1).toNat (by omega)
        have hNl := hN1.2.2 (m - 1) (by omega) (by omega)
        refine z_aload_n hO 1 dX0_isKept_68 rfl ?_
        refine z_iload_n hO 2 dX0_isKept_69 rfl ?_
        refine z_csQ hO (t_X0_rises (hN (by omega) (by omega)) (by omega)) cs_X0_13 rfl rfl (by decide) (Nat.le_of_ble_eq_true rfl) dX0_isKept_70 (fun c70 => ?_) (fun c70 => ?_)
        ·
          exact z_retQT hO hR dX0_isKept_73 (by rw [hh]; first | exact ⟨by omega, by omega, c70⟩ | exact fun z => c70 z.2.2) rfl
        ·
          exact z_retQF hO hR dX0_isKept_73 (by rw [hh]; first | exact ⟨by omega, by omega, c70⟩ | exact fun z => c70 z.2.2) rfl
      ·
        refine z_tswIn hO 74 dX0_isKept_14 (by omega) (by omega) (by omega) (by rw [h14]; rfl) (by decide) ?_
        have hh : hld K (σ 96) m ↔ (1 < m ∧ sumN (σ 96) (m - 1).toNat % 100 = σ 96 (m - 1) % 100) := by unfold hld; rw [if_neg (by omega), if_neg (by omega), if_pos h14]
        have hN1 := hN (by omega) (by omega)
        have hsr := sumN_r hN1 (m - 1).toNat (by omega)
        have hNl := hN1.2.2 (m - 1) (by omega) (by omega)
        refine z_iload_n hO 2 dX0_isKept_74 rfl ?_
        refine z_iconst hO dX0_isKept_75 ?_
        refine z_icmp_lt hO 102 dX0_isKept_76 (by decide) (by omega) (by decide) (fun c76 => ?_) (fun c76 => ?_)
        ·
          refine z_iconst hO dX0_isKept_102 ?_
          exact z_retQF hO hR dX0_isKept_103 (by rw [hh]; omega) rfl
        ·
          refine z_aload_n hO 1 dX0_isKept_79 rfl ?_
          refine z_iload_n hO 2 dX0_isKept_80 rfl ?_
          refine z_iconst hO dX0_isKept_81 ?_
          refine z_isub hO dX0_isKept_82 ?_
          refine z_iald hO rfl (by omega) (by decide) dX0_isKept_83 (fun r83 => ?_)
          refine z_bipush hO dX0_isKept_84 (by decide) ?_
          refine z_irem hO dX0_isKept_86 (by omega) (by omega) ?_
          refine z_aload_n hO 1 dX0_isKept_87 rfl ?_
          refine z_iload_n hO 2 dX0_isKept_88 rfl ?_
          refine z_csE hO (t_X0_others (hN (by omega) (by omega)) (by omega)) cs_X0_7 rfl rfl (by decide) (Nat.le_of_ble_eq_true rfl) dX0_isKept_89 ?_
          refine z_bipush hO dX0_isKept_92 (by decide) ?_
          refine z_irem hO dX0_isKept_94 (by omega) (by omega) ?_
          refine z_icmp_ne hO 102 dX0_isKept_95 (by decide) (by omega) (by omega) (fun c95 => ?_) (fun c95 => ?_)
          ·
            refine z_iconst hO dX0_isKept_102 ?_
            exact z_retQF hO hR dX0_isKept_103 (by rw [hh]; omega) rfl
          ·
            refine z_iconst hO dX0_isKept_98 ?_
            refine z_goto hO 103 dX0_isKept_99 (by decide) ?_
            exact z_retQT hO hR dX0_isKept_103 (by rw [hh]; omega) rfl
      ·
        refine z_tswIn hO 104 dX0_isKept_14 (by omega) (by omega) (by omega) (by rw [h14]; rfl) (by decide) ?_
        have hh : hld K (σ 96) m ↔ (rsn (σ 96) m ∧ sty (σ 96) m) := by unfold hld; rw [if_neg (by omega), if_neg (by omega), if_neg (by omega), if_pos h14]
        have hN1 := hN (by omega) (by omega)
        have hsr := sumN_r hN1 (m - 1).toNat (by omega)
        have hNl := hN1.2.2 (m - 1) (by omega) (by omega)
        refine z_aload_n hO 1 dX0_isKept_104 rfl ?_
        refine z_iload_n hO 2 dX0_isKept_105 rfl ?_
        refine z_csQ hO (t_X0_rises (hN (by omega) (by omega)) (by omega)) cs_X0_13 rfl rfl (by decide) (Nat.le_of_ble_eq_true rfl) dX0_isKept_106 (fun c106 => ?_) (fun c106 => ?_)
        ·
          refine z_if_eq hO 124 dX0_isKept_109 (by decide) (by decide) (fun c109 => absurd c109 (by omega)) (fun c109 => ?_)
          refine z_aload_n hO 1 dX0_isKept_112 rfl ?_
          refine z_iload_n hO 2 dX0_isKept_113 rfl ?_
          refine z_csQ hO (t_X0_isSteady (hN (by omega) (by omega)) (by omega)) cs_X0_17 rfl rfl (by decide) (Nat.le_of_ble_eq_true rfl) dX0_isKept_114 (fun c114 => ?_) (fun c114 => ?_)
          ·
            refine z_if_eq hO 124 dX0_isKept_117 (by decide) (by decide) (fun c117 => absurd c117 (by omega)) (fun c117 => ?_)
            refine z_iconst hO dX0_isKept_120 ?_
            refine z_goto hO 125 dX0_isKept_121 (by decide) ?_
            exact z_retQT hO hR dX0_isKept_125 (by rw [hh]; first | exact ⟨by omega, by omega, c106, c114⟩ | exact fun z => c114 z.2.2.2 | exact fun z => c106 z.2.2.1) rfl
          ·
            refine z_if_eq hO 124 dX0_isKept_117 (by decide) (by decide) (fun c117 => ?_) (fun c117 => absurd c117 (by omega))
            refine z_iconst hO dX0_isKept_124 ?_
            exact z_retQF hO hR dX0_isKept_125 (by rw [hh]; first | exact ⟨by omega, by omega, c106, c114⟩ | exact fun z => c114 z.2.2.2 | exact fun z => c106 z.2.2.1) rfl
        ·
          refine z_if_eq hO 124 dX0_isKept_109 (by decide) (by decide) (fun c109 => ?_) (fun c109 => absurd c109 (by omega))
          refine z_iconst hO dX0_isKept_124 ?_
          exact z_retQF hO hR dX0_isKept_125 (by rw [hh]; first | exact ⟨by omega, by omega, c106, c114⟩ | exact fun z => c114 z.2.2.2 | exact fun z => c106 z.2.2.1) rfl
      ·
        refine z_tswOut hO 126 dX0_isKept_14 (by omega) h14 (by decide) ?_
        have hh : hld K (σ 96) m ↔ True := by unfold hld; rw [if_neg (by omega), if_neg (by omega), if_neg (by omega), if_neg (by omega)]
        have hN1 := hN (by omega) (by omega)
        have hsr := sumN_r hN1 (m - 1).toNat (by omega)
        have hNl := hN1.2.2 (m - 1) (by omega) (by omega)
        refine z_iconst hO dX0_isKept_126 ?_
        exact z_retQT hO hR dX0_isKept_127 (by rw [hh]; exact ⟨by omega, by omega, trivial⟩) rfl
    ·
      refine z_iconst hO dX0_isKept_11 ?_
      exact z_retQF hO hR dX0_isKept_12 (fun z => by omega) rfl
