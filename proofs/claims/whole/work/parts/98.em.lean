def f103 : Nat → Int → Bool := fun c _ => c == 103
theorem f103_Wx : ∀ c k, fWx c k = false → f103 c k = false := by
  intro c k h; unfold fWx at h; have := of_decide_eq_false h; unfold f103; simp; omega
theorem pow60 {s m : Nat} (hs : s < 2 ^ m) (h60 : m ≤ 60) : s < 1152921504606846976 := Nat.lt_of_lt_of_le hs (by rw [show (1152921504606846976 : Nat) = 2 ^ 60 from rfl]; exact Nat.pow_le_pow_right (by decide) h60)

set_option maxHeartbeats 4000000 in
set_option maxRecDepth 100000 in
theorem lp_q1 {g : G} {x : Cx} {σ : Sg} {m t s : Nat} {a : Int} (hO : Ok g x RX1 cX1_questionsIfTrue 8 3) (hV : WV (cv σ 1)) (hA : ccA (cv σ 1) (σ 1 4) (σ 1 5) (rdN (cv σ 1)).toNat σ) (hm : (m : Int) = nCt (cv σ 1) (σ 1 4) (σ 1 5) (rdN (cv σ 1)).toNat) (h60 : m ≤ 60) (hs : s < 2 ^ m) (hE : ∀ τ : Sg, (∀ j : Nat, j < 32 → τ 103 j = ((bc 8 (s &&& (tkg (cv σ 1) (σ 1 4) (σ 1 5) (rdN (cv σ 1)).toNat ((j : Nat) / 4 : Nat) ((j : Nat) % 4 : Nat))) : Nat) : Int)) → Fm f103 σ τ → Z g x 8 78 [(0, .ref (g.2.2.1 97)), (1, vI t), (2, vL ((setF (fun j => dec (nm (cv σ 1) ((cqF (cv σ 1) (σ 1 4) (σ 1 5)) t) = nm (cv σ 1) ((cqF (cv σ 1) (σ 1 4) (σ 1 5)) j))) m) : Int)), (4, vL (s : Int)), (6, vI a)] [] τ) : ∀ (f k : Nat) (τ : Sg), k ≤ 32 → 32 - k < f → (∀ j : Nat, j < k → τ 103 j = ((bc 8 (s &&& (tkg (cv σ 1) (σ 1 4) (σ 1 5) (rdN (cv σ 1)).toNat ((j : Nat) / 4 : Nat) ((j : Nat) % 4 : Nat))) : Nat) : Int)) → Fm f103 σ τ → Z g x 8 45 [(0, .ref (g.2.2.1 97)), (1, vI t), (2, vL ((setF (fun j => dec (nm (cv σ 1) ((cqF (cv σ 1) (σ 1 4) (σ 1 5)) t) = nm (cv σ 1) ((cqF (cv σ 1) (σ 1 4) (σ 1 5)) j))) m) : Int)), (4, vL (s : Int)), (6, vI a), (7, vI k)] [] τ := by
  intro f
  induction f with
  | zero => intro k τ h0 hk; exact absurd hk (by omega)
  | succ f ih =>
    intro k τ hk hf hc hFm
    have e102 : τ 102 = σ 102 := hFm.row 102 (fun _ => rfl)
    refine z_iload hO 5 dX1_questionsIfTrue_45 rfl ?_
    refine z_bipush hO dX1_questionsIfTrue_47 (by decide) ?_
    refine z_icmp_ge hO 78 dX1_questionsIfTrue_49 (by decide) (by omega) (by decide) (fun c49 => ?_) (fun c49 => ?_)
    ·
      have hc32 : k = 32 := by omega
      subst hc32
      exact z_pick [0, 1, 2, 3, 4] rfl (hE τ hc hFm)
    ·
      have hx : σ 102 k = (tkg (cv σ 1) (σ 1 4) (σ 1 5) (rdN (cv σ 1)).toNat ((k : Nat) / 4 : Nat) ((k : Nat) % 4 : Nat)) := by have h := (hA.2.1 ((k / 4 : Nat) : Int) ((k % 4 : Nat) : Int) (by omega) (by omega) (by omega) (by omega)).2; rw [show ((k / 4 : Nat) : Int) * 4 + ((k % 4 : Nat) : Int) = k by omega] at h; exact h
      have hle : s &&& (tkg (cv σ 1) (σ 1 4) (σ 1 5) (rdN (cv σ 1)).toNat ((k : Nat) / 4 : Nat) ((k : Nat) % 4 : Nat)) < 1152921504606846976 := Nat.lt_of_le_of_lt Nat.and_le_left (pow60 hs h60)
      have hta := bc_ta hV hm h60 hs ((k / 4 : Nat) : Int) ((k % 4 : Nat) : Int) (by omega)
      have htr := taT_r (cv σ 1) (cqF (cv σ 1) (σ 1 4) (σ 1 5)) s ((k / 4 : Nat) : Int) ((k % 4 : Nat) : Int) m
      have hbr : ((bc 8 (s &&& (tkg (cv σ 1) (σ 1 4) (σ 1 5) (rdN (cv σ 1)).toNat ((k : Nat) / 4 : Nat) ((k : Nat) % 4 : Nat))) : Nat) : Int) ≤ 60 := by rw [hta]; split <;> omega
      refine z_aload_n hO 0 dX1_questionsIfTrue_52 rfl ?_
      refine z_getR hO (103) fl_X1_28 rfl rfl dX1_questionsIfTrue_53 ?_
      refine z_iload hO 5 dX1_questionsIfTrue_56 rfl ?_
      refine z_lload hO 3 dX1_questionsIfTrue_58 rfl ?_
      refine z_aload_n hO 0 dX1_questionsIfTrue_60 rfl ?_
      refine z_getR hO (102) fl_X1_24 rfl rfl dX1_questionsIfTrue_61 ?_
      refine z_iload hO 5 dX1_questionsIfTrue_64 rfl ?_
      refine z_lald hO rfl (by omega) (by decide) dX1_questionsIfTrue_66 (fun r66 => ?_)
      try simp (disch := omega) only [fl_row_ne, fl_ne, up_row_ne, up_ne, up_eq, up_nk, up_up, up_self, ne_eq, Nat.reduceEqDiff, Int.reduceEq, reduceCtorEq, not_false_eq_true, not_true_eq_false, e102] at r66 ⊢
      rw [hx] at r66 ⊢
      refine z_land hO (((s &&& (tkg (cv σ 1) (σ 1 4) (σ 1 5) (rdN (cv σ 1)).toNat ((k : Nat) / 4 : Nat) ((k : Nat) % 4 : Nat)) : Nat) : Int)) dX1_questionsIfTrue_67 (bl_and _ _) ?_
      refine z_csE hO (t_J13_bitCount_95d88 (n := s &&& (tkg (cv σ 1) (σ 1 4) (σ 1 5) (rdN (cv σ 1)).toNat ((k : Nat) / 4 : Nat) ((k : Nat) % 4 : Nat))) hle) cs_X1_70 rfl rfl (by decide) (Nat.le_of_ble_eq_true rfl) dX1_questionsIfTrue_68 ?_
      try simp (disch := omega) only [fl_row_ne, fl_ne, up_row_ne, up_ne, up_eq, up_nk, up_up, up_self, ne_eq, Nat.reduceEqDiff, Int.reduceEq, reduceCtorEq, not_false_eq_true, not_true_eq_false, e102]
      refine z_iast hO rfl (by omega) (by decide) (by omega) dX1_questionsIfTrue_71 ?_
      refine z_iinc hO (L' := [(7, _), (0, _), (1, _), (2, _), (4, _), (6, _)]) 5 dX1_questionsIfTrue_72 rfl (by decide) rfl ?_
      refine z_goto hO 45 dX1_questionsIfTrue_75 (by decide) ?_
      refine z_pick [1, 2, 3, 4, 5, 0] rfl (ih (k + 1) _ (by omega) (by omega) (fun j hj => ?_) (hFm.up rfl))
      by_cases q : j = k
      · rw [q, up_eq]
      · rw [up_nk (by omega)]; exact hc j (by omega)

set_option maxHeartbeats 4000000 in
set_option maxRecDepth 100000 in
theorem lp_q2 {g : G} {x : Cx} {σ : Sg} {m t : Nat} (hO : Ok g x RX1 cX1_questionsIfTrue 8 3) (hR : Rt g x (some .int) (pI (fun r σ' => r = Pq (cv σ 1) (cqF (cv σ 1) (σ 1 4) (σ 1 5)) m (2 ^ m - 1) t ∧ Fm f103 σ σ'))) (hV : WV (cv σ 1)) (hA : ccA (cv σ 1) (σ 1 4) (σ 1 5) (rdN (cv σ 1)).toNat σ) (hm : (m : Int) = nCt (cv σ 1) (σ 1 4) (σ 1 5) (rdN (cv σ 1)).toNat) (h60 : m ≤ 60) (hD : DV (cv σ 1)) (ht : t < m) : ∀ (f : Nat) (a : Int) (s : Nat) (τ : Sg), 0 ≤ a → 9 - a < f → s < 2 ^ m → s.testBit t = true → a + Pq (cv σ 1) (cqF (cv σ 1) (σ 1 4) (σ 1 5)) m s t = Pq (cv σ 1) (cqF (cv σ 1) (σ 1 4) (σ 1 5)) m (2 ^ m - 1) t → a + (alN (cv σ 1) (cqF (cv σ 1) (σ 1 4) (σ 1 5)) s m (cv σ 1).1.toNat : Int) ≤ 8 → Fm f103 σ τ → Z g x 8 19 [(0, .ref (g.2.2.1 97)), (1, vI t), (2, vL ((setF (fun j => dec (nm (cv σ 1) ((cqF (cv σ 1) (σ 1 4) (σ 1 5)) t) = nm (cv σ 1) ((cqF (cv σ 1) (σ 1 4) (σ 1 5)) j))) m) : Int)), (4, vL (s : Int)), (6, vI a)] [] τ := by
  have n8 := hV.2.1
  have n0 := hV.1
  intro f
  induction f with
  | zero => intro a s τ h0 hk hs hts hp hal; exact absurd hk (by omega)
  | succ f ih =>
    intro a s τ h0 hf hs hts hp hal hFm
    refine z_iload hO 4 dX1_questionsIfTrue_19 rfl ?_
    refine z_bipush hO dX1_questionsIfTrue_21 (by decide) ?_
    refine z_icmp_ge hO 119 dX1_questionsIfTrue_23 (by decide) (by omega) (by decide) (fun c23 => ?_) (fun c23 => ?_)
    ·
      have ha8 : a = 8 := by omega
      have hlf := leaf_0 hV (c := (cqF (cv σ 1) (σ 1 4) (σ 1 5))) (s := s) (m := m) (by omega)
      have hp0 := Pq_l (t := t) hlf
      refine z_bipush hO dX1_questionsIfTrue_119 (by decide) ?_
      exact z_retI hO hR dX1_questionsIfTrue_121 (⟨by omega, hFm⟩)
    ·
      have hsl := pow60 hs h60
      have hnl := andn_lt (a := (setF (fun j => dec (nm (cv σ 1) ((cqF (cv σ 1) (σ 1 4) (σ 1 5)) t) = nm (cv σ 1) ((cqF (cv σ 1) (σ 1 4) (σ 1 5)) j))) m)) hs
      have hnl2 := pow60 hnl h60
      refine z_lload hO 3 dX1_questionsIfTrue_26 rfl ?_
      refine z_lload_n hO 2 dX1_questionsIfTrue_28 rfl ?_
      refine z_ldc2 hO k_X1_68 dX1_questionsIfTrue_29 ?_
      refine z_lxor hO ((Int64.ofInt ((setF (fun j => dec (nm (cv σ 1) ((cqF (cv σ 1) (σ 1 4) (σ 1 5)) t) = nm (cv σ 1) ((cqF (cv σ 1) (σ 1 4) (σ 1 5)) j))) m) : Int) ^^^ Int64.ofInt (-1)).toInt) dX1_questionsIfTrue_32 ((Int64.ofInt_toInt _).symm) ?_
      refine z_land hO (((s ^^^ (s &&& (setF (fun j => dec (nm (cv σ 1) ((cqF (cv σ 1) (σ 1 4) (σ 1 5)) t) = nm (cv σ 1) ((cqF (cv σ 1) (σ 1 4) (σ 1 5)) j))) m)) : Nat) : Int)) dX1_questionsIfTrue_33 (by rw [Int64.ofInt_toInt]; exact bl_andn s (setF (fun j => dec (nm (cv σ 1) ((cqF (cv σ 1) (σ 1 4) (σ 1 5)) t) = nm (cv σ 1) ((cqF (cv σ 1) (σ 1 4) (σ 1 5)) j))) m)) ?_
      refine z_lconst hO 0 dX1_questionsIfTrue_34 (by decide) ?_
      refine z_lcmp hO dX1_questionsIfTrue_35 (by omega) (by omega) (fun c35 => ?_) (fun c35 => ?_) (fun c35 => ?_)
      ·
        refine z_if_ne hO 42 dX1_questionsIfTrue_36 (by decide) (by decide) (fun c36 => ?_) (fun c36 => absurd c36 (by omega))
        refine z_iconst hO dX1_questionsIfTrue_42 ?_
        refine z_istore hO (L' := [(7, _), (0, _), (1, _), (2, _), (4, _), (6, _)]) dX1_questionsIfTrue_43 (by decide) rfl ?_
        have hnsm : ¬ smP (cv σ 1) (cqF (cv σ 1) (σ 1 4) (σ 1 5)) s m := fun z => by
          have hz : s ^^^ (s &&& (setF (fun j => dec (nm (cv σ 1) ((cqF (cv σ 1) (σ 1 4) (σ 1 5)) t) = nm (cv σ 1) ((cqF (cv σ 1) (σ 1 4) (σ 1 5)) j))) m)) = 0 := andn_0.mpr (fun u hu => by
            have hum : u < m := by apply Classical.byContradiction; intro y; have := Nat.testBit_lt_two_pow (Nat.lt_of_lt_of_le hs (Nat.pow_le_pow_right (by decide) (show m ≤ u by omega))); rw [this] at hu; cases hu
            rw [setF_bit, decide_eq_true hum, Bool.true_and]; exact dec_iff.mpr (z t u ht hum hts hu))
          omega
        refine z_pick [1, 2, 3, 4, 5, 0] rfl (lp_q1 (σ := σ) hO hV hA hm h60 hs ?_ 33 0 τ (by omega) (by omega) (fun j hj => absurd hj (by omega)) hFm)
        intro υ hu1 hF2
        have e12 : υ 1 = σ 1 := hF2.row 1 (fun _ => rfl)
        have eV2 : cv υ 1 = cv σ 1 := cv_eq e12 (hF2.row 2 (fun _ => rfl)) (hF2.row 3 (fun _ => rfl)) (hF2.row 4 (fun _ => rfl))
        have hA2 : ccA (cv υ 1) (υ 1 4) (υ 1 5) (rdN (cv υ 1)).toNat υ := by rw [eV2, e12]; exact ccA_keep hA (hF2 97 1 rfl) (fun c c0 c1 => hF2.row c (fun k => by unfold f103; simp; omega))
        have hRw : ∀ i k : Int, 0 ≤ i → i < 8 → 0 ≤ k → k < 4 → υ 103 (i * 4 + k) = if i < (cv σ 1).1 then taT (cv σ 1) (cqF (cv σ 1) (σ 1 4) (σ 1 5)) s i k m else 0 := fun i k i0 i1 k0 k1 => by
          have h := hu1 (i * 4 + k).toNat (by omega)
          rw [show (((i * 4 + k).toNat : Nat) : Int) = i * 4 + k by omega, show (((i * 4 + k).toNat / 4 : Nat) : Int) = i by omega, show (((i * 4 + k).toNat % 4 : Nat) : Int) = k by omega, bc_ta hV hm h60 hs i k i0] at h
          exact h
        have hB : ∀ i k : Int, 0 ≤ i → i < 8 → 0 ≤ k → k < 4 → 0 ≤ υ 103 (i * 4 + k) ∧ υ 103 (i * 4 + k) ≤ 70000 := fun i k i0 i1 k0 k1 => by
          rw [hRw i k i0 i1 k0 k1]
          have := taT_r (cv σ 1) (cqF (cv σ 1) (σ 1 4) (σ 1 5)) s i k m
          split <;> omega
        have hsl5 : (pbF (υ 103) ((bc 8 s : Nat) : Int) 8).1 = slF (cv σ 1) (cqF (cv σ 1) (σ 1 4) (σ 1 5)) s m := by rw [bc_nS hs h60]; exact slF_cls hV hD hRw
        have hslr : -4 ≤ slF (cv σ 1) (cqF (cv σ 1) (σ 1 4) (σ 1 5)) s m ∧ slF (cv σ 1) (cqF (cv σ 1) (σ 1 4) (σ 1 5)) s m < 8 := by rcases slF_r hV (c := (cqF (cv σ 1) (σ 1 4) (σ 1 5))) (s := s) (m := m) with z | z <;> omega
        refine z_aload_n hO 0 dX1_questionsIfTrue_78 rfl ?_
        refine z_aload_n hO 0 dX1_questionsIfTrue_79 rfl ?_
        refine z_getR hO (103) fl_X1_28 rfl rfl dX1_questionsIfTrue_80 ?_
        refine z_lload hO 3 dX1_questionsIfTrue_83 rfl ?_
        refine z_csE hO (t_J13_bitCount_95d88 (n := s) hsl) cs_X1_70 rfl rfl (by decide) (Nat.le_of_ble_eq_true rfl) dX1_questionsIfTrue_85 ?_
        try simp (disch := omega) only [fl_row_ne, fl_ne, up_row_ne, up_ne, up_eq, up_nk, up_up, up_self, ne_eq, Nat.reduceEqDiff, Int.reduceEq, reduceCtorEq, not_false_eq_true, not_true_eq_false]
        refine z_cvE hO (t_X1_partedBest (o := 103) rfl hB (by rw [bc_nS hs h60]; have := nS_r s m; omega)) cv_X1_76 rfl rfl rfl rfl (by decide) (Nat.le_of_ble_eq_true rfl) dX1_questionsIfTrue_88 ?_
        try simp (disch := omega) only [fl_row_ne, fl_ne, up_row_ne, up_ne, up_eq, up_nk, up_up, up_self, ne_eq, Nat.reduceEqDiff, Int.reduceEq, reduceCtorEq, not_false_eq_true, not_true_eq_false]
        rw [hsl5]
        refine z_istore hO (L' := [(7, _), (0, _), (1, _), (2, _), (4, _), (6, _)]) dX1_questionsIfTrue_91 (by decide) rfl ?_
        refine z_iload hO 0 dX1_questionsIfTrue_93 rfl ?_
        refine z_if_ge hO 101 dX1_questionsIfTrue_95 (by decide) (by have := hslr; omega) (fun c95 => ?_) (fun c95 => ?_)
        ·
          have hnlf : leaf (cv σ 1) (cqF (cv σ 1) (σ 1 4) (σ 1 5)) s m ≠ true := fun z => by rcases dec_iff.mp z with y | y; (exact hnsm y); omega
          have hpn := Pq_n hV (t := t) hnlf
          have hdn := leaf_n hV hnlf (pk (cv σ 1) ((cqF (cv σ 1) (σ 1 4) (σ 1 5)) t) (slF (cv σ 1) (cqF (cv σ 1) (σ 1 4) (σ 1 5)) s m))
          refine z_lload hO 4 dX1_questionsIfTrue_101 rfl ?_
          refine z_aload_n hO 1 dX1_questionsIfTrue_103 rfl ?_
          refine z_iload_n hO 2 dX1_questionsIfTrue_104 rfl ?_
          refine z_iload hO 0 dX1_questionsIfTrue_105 rfl ?_
          refine z_cvEL hO (t_X1_takingLike (σ := υ) (m := m) (t := t) (by rw [eV2]; exact hV) hA2 (by rw [eV2, e12]; exact hm) h60 ht (by omega) (by rw [eV2]; exact hdn.2.2.1)) cv_X1_80 rfl rfl rfl rfl (by decide) (Nat.le_of_ble_eq_true rfl) dX1_questionsIfTrue_107 ?_
          try simp (disch := omega) only [fl_row_ne, fl_ne, up_row_ne, up_ne, up_eq, up_nk, up_up, up_self, ne_eq, Nat.reduceEqDiff, Int.reduceEq, reduceCtorEq, not_false_eq_true, not_true_eq_false]
          rw [eV2, e12]
          have hpa := prt_and hV hm h60 hs (i := slF (cv σ 1) (cqF (cv σ 1) (σ 1 4) (σ 1 5)) s m) (k := pk (cv σ 1) ((cqF (cv σ 1) (σ 1 4) (σ 1 5)) t) (slF (cv σ 1) (cqF (cv σ 1) (σ 1 4) (σ 1 5)) s m)) hdn.2.1 hdn.2.2.1
          refine z_land hO (((prt (cv σ 1) (cqF (cv σ 1) (σ 1 4) (σ 1 5)) s m (slF (cv σ 1) (cqF (cv σ 1) (σ 1 4) (σ 1 5)) s m) (pk (cv σ 1) ((cqF (cv σ 1) (σ 1 4) (σ 1 5)) t) (slF (cv σ 1) (cqF (cv σ 1) (σ 1 4) (σ 1 5)) s m)) : Nat) : Int)) dX1_questionsIfTrue_110 (by rw [bl_and, hpa]) ?_
          refine z_lstore hO (L' := [(4, _), (7, _), (0, _), (1, _), (2, _), (6, _)]) dX1_questionsIfTrue_111 (by decide) rfl ?_
          refine z_iinc hO (L' := [(6, _), (4, _), (7, _), (0, _), (1, _), (2, _)]) 5 dX1_questionsIfTrue_113 rfl (by decide) rfl ?_
          refine z_goto hO 19 dX1_questionsIfTrue_116 (by decide) ?_
          exact z_pick [3, 4, 5, 1, 0] rfl (ih _ _ υ (by omega) (by omega) (prt_lt _ _ _ _ _ _) (prt_bit.mpr ⟨ht, hts, rfl⟩) (by omega) (by omega) hF2)
        ·
          have hlf : leaf (cv σ 1) (cqF (cv σ 1) (σ 1 4) (σ 1 5)) s m = true := dec_iff.mpr (Or.inr (by omega))
          have hp0 := Pq_l (t := t) hlf
          refine z_iload hO 5 dX1_questionsIfTrue_98 rfl ?_
          exact z_retI hO hR dX1_questionsIfTrue_100 (⟨by omega, hF2⟩)
      ·
        refine z_if_ne hO 42 dX1_questionsIfTrue_36 (by decide) (by decide) (fun c36 => absurd c36 (by omega)) (fun c36 => ?_)
        refine z_iload hO 4 dX1_questionsIfTrue_39 rfl ?_
        exact z_retI hO hR dX1_questionsIfTrue_41 (by
          have hz : s ^^^ (s &&& (setF (fun j => dec (nm (cv σ 1) ((cqF (cv σ 1) (σ 1 4) (σ 1 5)) t) = nm (cv σ 1) ((cqF (cv σ 1) (σ 1 4) (σ 1 5)) j))) m)) = 0 := by omega
          have hal := andn_0.mp hz
          have hlf : leaf (cv σ 1) (cqF (cv σ 1) (σ 1 4) (σ 1 5)) s m = true := dec_iff.mpr (Or.inl (fun u v u1 v1 u2 v2 => by
            have x := hal u u2; have y := hal v v2
            rw [setF_bit] at x y
            have x := dec_iff.mp (Bool.and_eq_true_iff.mp x).2
            have y := dec_iff.mp (Bool.and_eq_true_iff.mp y).2
            rw [← x, ← y]))
          have hp0 := Pq_l (t := t) hlf
          exact ⟨by omega, hFm⟩)
      ·
        exfalso; omega

set_option maxHeartbeats 4000000 in
set_option maxRecDepth 100000 in
theorem t_X1_questionsIfTrue {g : G} {σ : Sg} {m t : Nat} (hV : WV (cv σ 1)) (hA : ccA (cv σ 1) (σ 1 4) (σ 1 5) (rdN (cv σ 1)).toNat σ) (hm : (m : Int) = nCt (cv σ 1) (σ 1 4) (σ 1 5) (rdN (cv σ 1)).toNat) (h60 : m ≤ 60) (hD : DV (cv σ 1)) (ht : t < m) : MM g mX1_questionsIfTrue [.ref (g.2.2.1 97), vI t] σ (pI (fun r σ' => r = Pq (cv σ 1) (cqF (cv σ 1) (σ 1 4) (σ 1 5)) m (2 ^ m - 1) t ∧ Fm f103 σ σ')) := by
  refine mm_of rfl (by decide) rfl rfl (Nat.le_of_ble_eq_true rfl) (fun x hO hR => ?_)
  refine z_aload_n hO 0 dX1_questionsIfTrue_0 rfl ?_
  refine z_iload_n hO 1 dX1_questionsIfTrue_1 rfl ?_
  refine z_cvEL hO (t_X1_alikeTo hV hA hm h60 ht) cv_X1_64 rfl rfl rfl rfl (by decide) (Nat.le_of_ble_eq_true rfl) dX1_questionsIfTrue_2 ?_
  refine z_lstore_n hO (L' := [(2, _), (0, _), (1, _)]) dX1_questionsIfTrue_5 (by decide) rfl ?_
  refine z_lconst hO 1 dX1_questionsIfTrue_6 (by decide) ?_
  refine z_aload_n hO 1 dX1_questionsIfTrue_7 rfl ?_
  refine z_getI hO 1 fl_X1_35 rfl rfl rfl dX1_questionsIfTrue_8 (fun r8 => ?_)
  refine z_lshl hO (((2 ^ m : Nat) : Int)) dX1_questionsIfTrue_11 (by have h := bl_shl1 m (by omega); rw [show σ 97 1 = (m : Int) from hA.1.trans hm.symm]; exact h) ?_
  refine z_lconst hO 1 dX1_questionsIfTrue_12 (by decide) ?_
  refine z_lsub hO dX1_questionsIfTrue_13 ?_
  refine z_topL (show ((2 ^ m : Nat) : Int) - 1 = ((2 ^ m - 1 : Nat) : Int) by have := Nat.two_pow_pos m; omega) ?_
  refine z_lstore hO (L' := [(4, _), (2, _), (0, _), (1, _)]) dX1_questionsIfTrue_14 (by decide) rfl ?_
  refine z_iconst hO dX1_questionsIfTrue_16 ?_
  refine z_istore hO (L' := [(6, _), (4, _), (2, _), (0, _), (1, _)]) dX1_questionsIfTrue_17 (by decide) rfl ?_
  exact z_pick [3, 4, 2, 1, 0] rfl (lp_q2 (σ := σ) hO hR hV hA hm h60 hD ht 10 0 (2 ^ m - 1) σ (by omega) (by omega) (by have := Nat.two_pow_pos m; omega) (full_bit.mpr ht) (by omega) (by have := alN_r (cv σ 1) (cqF (cv σ 1) (σ 1 4) (σ 1 5)) (2 ^ m - 1) m (cv σ 1).1.toNat; have := hV.2.1; omega) Fm.rf)
