def fSv : Nat → Int → Bool := fun c _ => decide (83 ≤ c ∧ c ≤ 103)
theorem fFC_Sv : ∀ c k, fSv c k = false → fFC c k = false := by
  intro c k h; unfold fSv at h; have := of_decide_eq_false h; unfold fFC; simp; omega
theorem fFB_Sv : ∀ c k, fSv c k = false → fFB c k = false := fun c k h => fFB_FC c k (fFC_Sv c k h)
theorem fWk_Sv : ∀ c k, fSv c k = false → fWk c k = false := fun c k h => fWk_FC c k (fFC_Sv c k h)

set_option maxHeartbeats 4000000 in
set_option maxRecDepth 100000 in
theorem t_X6_saidOnes {g : G} {σ : Sg} (hV : WV (cv σ 1)) (hI : SI σ) : MM g mX6_saidOnes [.ref (g.2.2.1 83)] σ (pI (fun r σ' => r = nSaid (cv σ 1) (rdN (cv σ 1)).toNat ∧ SI σ' ∧ Fm fSv σ σ')) := by
  refine mm_of rfl (by decide) rfl rfl (Nat.le_of_ble_eq_true rfl) (fun x hO hR => ?_)
  refine z_aload_n hO 0 dX6_saidOnes_0 rfl ?_
  refine z_cvV hO (t_X6_findBest hV hI.1) cv_X6_54 rfl rfl rfl rfl (by decide) (Nat.le_of_ble_eq_true rfl) dX6_saidOnes_1 (fun s1 p1 => ?_)
  obtain ⟨a1, a2, a3⟩ := p1
  have hSI := SI_FB hI ⟨a1, a2, a3⟩
  have eV := Fm_cv a3 fFB_4
  have e1 : s1 1 = σ 1 := a3.row 1 (fun k => fFB_4 1 k (by decide))
  have b1 := a1.1
  have b2 := a1.2.1
  refine z_aload_n hO 0 dX6_saidOnes_4 rfl ?_
  refine z_getI hO 4 fl_X6_57 rfl rfl rfl dX6_saidOnes_5 (fun r5 => ?_)
  exact z_retI hO hR dX6_saidOnes_8 (⟨b1, hSI, a3.mono fFB_Sv⟩)

set_option maxHeartbeats 4000000 in
set_option maxRecDepth 100000 in
theorem t_X6_soundOnes {g : G} {σ : Sg} (hV : WV (cv σ 1)) (hI : SI σ) : MM g mX6_soundOnes [.ref (g.2.2.1 83)] σ (pI (fun r σ' => r = nSnd (cv σ 1) (σ 1 4) (rdN (cv σ 1)).toNat ∧ SI σ' ∧ Fm fSv σ σ')) := by
  refine mm_of rfl (by decide) rfl rfl (Nat.le_of_ble_eq_true rfl) (fun x hO hR => ?_)
  refine z_aload_n hO 0 dX6_soundOnes_0 rfl ?_
  refine z_cvV hO (t_X6_findBest hV hI.1) cv_X6_54 rfl rfl rfl rfl (by decide) (Nat.le_of_ble_eq_true rfl) dX6_soundOnes_1 (fun s1 p1 => ?_)
  obtain ⟨a1, a2, a3⟩ := p1
  have hSI := SI_FB hI ⟨a1, a2, a3⟩
  have eV := Fm_cv a3 fFB_4
  have e1 : s1 1 = σ 1 := a3.row 1 (fun k => fFB_4 1 k (by decide))
  have b1 := a1.1
  have b2 := a1.2.1
  refine z_aload_n hO 0 dX6_soundOnes_4 rfl ?_
  refine z_getI hO 5 fl_X6_61 rfl rfl rfl dX6_soundOnes_5 (fun r5 => ?_)
  exact z_retI hO hR dX6_soundOnes_8 (⟨b2, hSI, a3.mono fFB_Sv⟩)

set_option maxHeartbeats 4000000 in
set_option maxRecDepth 100000 in
theorem t_X6_bestTells {g : G} {σ : Sg} {k : Int} (hk : -2 ≤ k ∧ k ≤ 2147483647) (hV : WV (cv σ 1)) (hI : SI σ) : MM g mX6_bestTells [.ref (g.2.2.1 83), vI k] σ (pI (fun r σ' => r = bestF (cv σ 1) (σ 1 4) k ∧ SI σ' ∧ Fm fSv σ σ')) := by
  refine mm_of rfl (by decide) rfl rfl (Nat.le_of_ble_eq_true rfl) (fun x hO hR => ?_)
  refine z_aload_n hO 0 dX6_bestTells_0 rfl ?_
  refine z_cvV hO (t_X6_findBest hV hI.1) cv_X6_54 rfl rfl rfl rfl (by decide) (Nat.le_of_ble_eq_true rfl) dX6_bestTells_1 (fun s1 p1 => ?_)
  obtain ⟨a1, a2, a3⟩ := p1
  have hSI := SI_FB hI ⟨a1, a2, a3⟩
  have eV := Fm_cv a3 fFB_4
  have e1 : s1 1 = σ 1 := a3.row 1 (fun k => fFB_4 1 k (by decide))
  have b1 := a1.1
  have b2 := a1.2.1
  refine z_aload_n hO 0 dX6_bestTells_4 rfl ?_
  refine z_getI hO 5 fl_X6_61 rfl rfl rfl dX6_bestTells_5 (fun r5 => ?_)
  refine z_if_ne hO 14 dX6_bestTells_8 (by decide) (by omega) (fun c8 => ?_) (fun c8 => ?_)
  ·
    have hbr := bR_ne hV (K := σ 1 4) (by omega)
    obtain ⟨c1, c2, c3, c4⟩ := a1.2.2 hbr
    have hbl := said_r hV (snd_said (best_r hV hbr).2.2.2)
    have c1 : s1 83 6 = bC (cv σ 1) (σ 1 4) := c1
    have c2 : s1 83 7 = (nm (cv σ 1) (bR (cv σ 1) (σ 1 4))).length := c2
    have c3 : rowIs (s1 84) (nm (cv σ 1) (bR (cv σ 1) (σ 1 4))) := c3
    refine z_iload_n hO 1 dX6_bestTells_14 rfl ?_
    refine z_iconst hO dX6_bestTells_15 ?_
    refine z_icmp_ne hO 24 dX6_bestTells_16 (by decide) (by omega) (by decide) (fun c16 => ?_) (fun c16 => ?_)
    ·
      refine z_iload_n hO 1 dX6_bestTells_24 rfl ?_
      refine z_bipush hO dX6_bestTells_25 (by decide) ?_
      refine z_icmp_ne hO 35 dX6_bestTells_27 (by decide) (by omega) (by decide) (fun c27 => ?_) (fun c27 => ?_)
      ·
        refine z_iload_n hO 1 dX6_bestTells_35 rfl ?_
        refine z_if_lt hO 56 dX6_bestTells_36 (by decide) (by omega) (fun c36 => ?_) (fun c36 => ?_)
        ·
          refine z_bipush hO dX6_bestTells_56 (by decide) ?_
          exact z_retI hO hR dX6_bestTells_58 (⟨by unfold bestF; rw [if_neg (by omega)]; rw [if_neg hbr, if_neg (by omega), if_neg (by omega)]; first | (rw [if_pos (by omega)]; exact row_lrow c3 (by omega) (by omega)) | rw [if_neg (by omega)], hSI, a3.mono fFB_Sv⟩)
        ·
          refine z_iload_n hO 1 dX6_bestTells_39 rfl ?_
          refine z_aload_n hO 0 dX6_bestTells_40 rfl ?_
          refine z_getI hO 7 fl_X6_67 rfl rfl rfl dX6_bestTells_41 (fun r41 => ?_)
          refine z_icmp_ge hO 56 dX6_bestTells_44 (by decide) (by omega) (by omega) (fun c44 => ?_) (fun c44 => ?_)
          ·
            refine z_bipush hO dX6_bestTells_56 (by decide) ?_
            exact z_retI hO hR dX6_bestTells_58 (⟨by unfold bestF; rw [if_neg (by omega)]; rw [if_neg hbr, if_neg (by omega), if_neg (by omega)]; first | (rw [if_pos (by omega)]; exact row_lrow c3 (by omega) (by omega)) | rw [if_neg (by omega)], hSI, a3.mono fFB_Sv⟩)
          ·
            refine z_aload_n hO 0 dX6_bestTells_47 rfl ?_
            refine z_getR hO (84) fl_X6_18 rfl rfl dX6_bestTells_48 ?_
            refine z_iload_n hO 1 dX6_bestTells_51 rfl ?_
            refine z_iald hO rfl (by omega) (by decide) dX6_bestTells_52 (fun r52 => ?_)
            refine z_goto hO 58 dX6_bestTells_53 (by decide) ?_
            exact z_retI hO hR dX6_bestTells_58 (⟨by unfold bestF; rw [if_neg (by omega)]; rw [if_neg hbr, if_neg (by omega), if_neg (by omega)]; first | (rw [if_pos (by omega)]; exact row_lrow c3 (by omega) (by omega)) | rw [if_neg (by omega)], hSI, a3.mono fFB_Sv⟩)
      ·
        refine z_aload_n hO 0 dX6_bestTells_30 rfl ?_
        refine z_getI hO 7 fl_X6_67 rfl rfl rfl dX6_bestTells_31 (fun r31 => ?_)
        exact z_retI hO hR dX6_bestTells_34 (⟨by unfold bestF; rw [if_neg (by omega)]; rw [if_neg hbr, if_neg (by omega), if_pos (by omega)]; exact c2, hSI, a3.mono fFB_Sv⟩)
    ·
      refine z_aload_n hO 0 dX6_bestTells_19 rfl ?_
      refine z_getI hO 6 fl_X6_64 rfl rfl rfl dX6_bestTells_20 (fun r20 => ?_)
      exact z_retI hO hR dX6_bestTells_23 (⟨by unfold bestF; rw [if_neg (by omega)]; rw [if_neg hbr, if_pos (by omega)]; exact c1, hSI, a3.mono fFB_Sv⟩)
  ·
    have hbz : bR (cv σ 1) (σ 1 4) = -4 := (bst_0 hV _ _).mpr (by omega)
    refine z_bipush hO dX6_bestTells_11 (by decide) ?_
    exact z_retI hO hR dX6_bestTells_13 (⟨by unfold bestF; rw [if_neg (by omega)]; rw [if_pos hbz], hSI, a3.mono fFB_Sv⟩)

set_option maxHeartbeats 4000000 in
set_option maxRecDepth 100000 in
theorem t_X6_bestWord {g : G} {σ : Sg} {s : Int} (hs : 0 ≤ s ∧ s < σ 1 3) (hV : WV (cv σ 1)) (hI : SI σ) : MM g mX6_bestWord [.ref (g.2.2.1 83), vI s] σ (pI (fun r σ' => r = takenF (cv σ 1) (σ 1 4) s ∧ SI σ' ∧ Fm fSv σ σ')) := by
  refine mm_of rfl (by decide) rfl rfl (Nat.le_of_ble_eq_true rfl) (fun x hO hR => ?_)
  refine z_aload_n hO 0 dX6_bestWord_0 rfl ?_
  refine z_cvV hO (t_X6_findBest hV hI.1) cv_X6_54 rfl rfl rfl rfl (by decide) (Nat.le_of_ble_eq_true rfl) dX6_bestWord_1 (fun s1 p1 => ?_)
  obtain ⟨a1, a2, a3⟩ := p1
  have hSI := SI_FB hI ⟨a1, a2, a3⟩
  have eV := Fm_cv a3 fFB_4
  have e1 : s1 1 = σ 1 := a3.row 1 (fun k => fFB_4 1 k (by decide))
  have b1 := a1.1
  have b2 := a1.2.1
  have hn8 := hV.2.1
  have hn0 := hV.1
  have hn : (cv σ 1).1 = σ 1 3 := rfl
  have e3 : s1 3 = σ 3 := a3.row 3 (fun k => fFB_4 3 k (by decide))
  refine z_aload_n hO 0 dX6_bestWord_4 rfl ?_
  refine z_getI hO 5 fl_X6_61 rfl rfl rfl dX6_bestWord_5 (fun r5 => ?_)
  refine z_if_ne hO 16 dX6_bestWord_8 (by decide) (by omega) (fun c8 => ?_) (fun c8 => ?_)
  ·
    have hbr := bR_ne hV (K := σ 1 4) (by omega)
    obtain ⟨c1, c2, c3, c4⟩ := a1.2.2 hbr
    have hbl := said_r hV (snd_said (best_r hV hbr).2.2.2)
    have c1 : s1 83 6 = bC (cv σ 1) (σ 1 4) := c1
    have c2 : s1 83 7 = (nm (cv σ 1) (bR (cv σ 1) (σ 1 4))).length := c2
    have c3 : rowIs (s1 84) (nm (cv σ 1) (bR (cv σ 1) (σ 1 4))) := c3
    have h4 := c4 s (by omega) (by omega)
    have hp := pk_WP hV (bR (cv σ 1) (σ 1 4)) s (by omega) (by omega)
    have h4 : s1 85 s = pk (cv σ 1) (bR (cv σ 1) (σ 1 4)) s := h4
    have hc5 := (hV.2.2 s (by omega) (by omega)).2.1
    refine z_aload_n hO 0 dX6_bestWord_16 rfl ?_
    refine z_getR hO (1) fl_X6_31 rfl rfl dX6_bestWord_17 ?_
    refine z_getR hO (3) fl_X6_70 rfl rfl dX6_bestWord_20 ?_
    refine z_iload_n hO 1 dX6_bestWord_23 rfl ?_
    refine z_iconst hO dX6_bestWord_24 ?_
    refine z_imul hO dX6_bestWord_25 ?_
    refine z_aload_n hO 0 dX6_bestWord_26 rfl ?_
    refine z_getR hO (85) fl_X6_22 rfl rfl dX6_bestWord_27 ?_
    refine z_iload_n hO 1 dX6_bestWord_30 rfl ?_
    refine z_iald hO rfl (by omega) (by decide) dX6_bestWord_31 (fun r31 => ?_)
    refine z_iadd hO dX6_bestWord_32 ?_
    refine z_iald hO rfl (by omega) (by decide) dX6_bestWord_33 (fun r33 => ?_)
    exact z_retI hO hR dX6_bestWord_34 (⟨by unfold takenF; rw [if_neg (by omega)]; first | rw [if_pos hbz] | (rw [if_neg hbr, e3, h4]; rfl), hSI, a3.mono fFB_Sv⟩)
  ·
    have hbz : bR (cv σ 1) (σ 1 4) = -4 := (bst_0 hV _ _).mpr (by omega)
    refine z_bipush hO dX6_bestWord_11 (by decide) ?_
    refine z_goto hO 34 dX6_bestWord_13 (by decide) ?_
    exact z_retI hO hR dX6_bestWord_34 (⟨by unfold takenF; rw [if_neg (by omega)]; first | rw [if_pos hbz] | (rw [if_neg hbr, e3, h4]; rfl), hSI, a3.mono fFB_Sv⟩)

set_option maxHeartbeats 4000000 in
set_option maxRecDepth 100000 in
theorem t_X6_countedOnes {g : G} {σ : Sg} (hV : WV (cv σ 1)) (hI : SI σ) (hS : 0 ≤ σ 1 5 ∧ σ 1 5 ≤ 20) : MM g mX6_countedOnes [.ref (g.2.2.1 83)] σ (pI (fun r σ' => r = nCt (cv σ 1) (σ 1 4) (σ 1 5) (rdN (cv σ 1)).toNat ∧ SI σ' ∧ Fm fSv σ σ')) := by
  refine mm_of rfl (by decide) rfl rfl (Nat.le_of_ble_eq_true rfl) (fun x hO hR => ?_)
  refine z_aload_n hO 0 dX6_countedOnes_0 rfl ?_
  refine z_cvV hO (t_X6_findCounted hV hI hS) cv_X6_75 rfl rfl rfl rfl (by decide) (Nat.le_of_ble_eq_true rfl) dX6_countedOnes_1 (fun s1 p1 => ?_)
  have hSI := SI_FC hI p1
  obtain ⟨⟨a1, a2⟩, a3, a4, a5, a6, a7⟩ := p1
  have eV := Fm_cv a7 fFC_4
  have e1 : s1 1 = σ 1 := a7.row 1 (fun k => fFC_4 1 k (by decide))
  refine z_aload_n hO 0 dX6_countedOnes_4 rfl ?_
  refine z_getR hO (97) fl_X6_12 rfl rfl dX6_countedOnes_5 ?_
  refine z_getI hO 1 fl_X6_78 rfl rfl rfl dX6_countedOnes_8 (fun r8 => ?_)
  exact z_retI hO hR dX6_countedOnes_11 (⟨a1.1, hSI, a7.mono fFC_Sv⟩)

set_option maxHeartbeats 4000000 in
set_option maxRecDepth 100000 in
theorem t_X6_nextCost {g : G} {σ : Sg} (hV : WV (cv σ 1)) (hI : SI σ) (hS : 0 ≤ σ 1 5 ∧ σ 1 5 ≤ 20) : MM g mX6_nextCost [.ref (g.2.2.1 83)] σ (pI (fun r σ' => r = (if nxt (cv σ 1) (σ 1 4) (rdN (cv σ 1)).toNat = 9999 then -4 else nxt (cv σ 1) (σ 1 4) (rdN (cv σ 1)).toNat) ∧ SI σ' ∧ Fm fSv σ σ')) := by
  refine mm_of rfl (by decide) rfl rfl (Nat.le_of_ble_eq_true rfl) (fun x hO hR => ?_)
  refine z_aload_n hO 0 dX6_nextCost_0 rfl ?_
  refine z_cvV hO (t_X6_findCounted hV hI hS) cv_X6_75 rfl rfl rfl rfl (by decide) (Nat.le_of_ble_eq_true rfl) dX6_nextCost_1 (fun s1 p1 => ?_)
  have hSI := SI_FC hI p1
  obtain ⟨⟨a1, a2⟩, a3, a4, a5, a6, a7⟩ := p1
  have eV := Fm_cv a7 fFC_4
  have e1 : s1 1 = σ 1 := a7.row 1 (fun k => fFC_4 1 k (by decide))
  refine z_aload_n hO 0 dX6_nextCost_4 rfl ?_
  refine z_getI hO 8 fl_X6_92 rfl rfl rfl dX6_nextCost_5 (fun r5 => ?_)
  exact z_retI hO hR dX6_nextCost_8 (⟨a2, hSI, a7.mono fFC_Sv⟩)

set_option maxHeartbeats 4000000 in
set_option maxRecDepth 100000 in
theorem t_X6_isCounted {g : G} {σ : Sg} (hN : 1 ≤ σ 88 10 → σ 88 10 ≤ 4 → NR (σ 96) (σ 88 10)) (h6 : 0 ≤ σ 83 6 ∧ σ 83 6 ≤ 9999) (hS : 0 ≤ σ 1 5 ∧ σ 1 5 ≤ 20) : MM g mX6_isCounted [.ref (g.2.2.1 83)] σ (pB (pQ (σ 88 11 ≤ σ 83 6 + σ 1 5 ∧ (1 ≤ σ 88 10 ∧ σ 88 10 ≤ 4 ∧ hld (σ 1 4) (σ 96) (σ 88 10))) σ)) := by
  refine mm_of rfl (by decide) rfl rfl (Nat.le_of_ble_eq_true rfl) (fun x hO hR => ?_)
  refine z_aload_n hO 0 dX6_isCounted_0 rfl ?_
  refine z_getR hO (88) fl_X6_40 rfl rfl dX6_isCounted_1 ?_
  refine z_getI hO 11 fl_X6_120 rfl rfl rfl dX6_isCounted_4 (fun r4 => ?_)
  refine z_aload_n hO 0 dX6_isCounted_7 rfl ?_
  refine z_getI hO 6 fl_X6_64 rfl rfl rfl dX6_isCounted_8 (fun r8 => ?_)
  refine z_aload_n hO 0 dX6_isCounted_11 rfl ?_
  refine z_getR hO (1) fl_X6_31 rfl rfl dX6_isCounted_12 ?_
  refine z_getI hO 5 fl_X6_170 rfl rfl rfl dX6_isCounted_15 (fun r15 => ?_)
  refine z_iadd hO dX6_isCounted_18 ?_
  refine z_icmp_gt hO 33 dX6_isCounted_19 (by decide) (by omega) (by omega) (fun c19 => ?_) (fun c19 => ?_)
  ·
    refine z_iconst hO dX6_isCounted_33 ?_
    exact z_retQF hO hR dX6_isCounted_34 (by first | exact ⟨by omega, c23⟩ | exact fun z => c23 z.2 | exact fun z => absurd z.1 (by omega)) rfl
  ·
    refine z_aload_n hO 0 dX6_isCounted_22 rfl ?_
    refine z_cvQ hO (t_X6_isSound hN) cv_X6_135 rfl rfl rfl rfl (by decide) (Nat.le_of_ble_eq_true rfl) dX6_isCounted_23 (fun c23 => ?_) (fun c23 => ?_)
    ·
      refine z_if_eq hO 33 dX6_isCounted_26 (by decide) (by decide) (fun c26 => absurd c26 (by omega)) (fun c26 => ?_)
      refine z_iconst hO dX6_isCounted_29 ?_
      refine z_goto hO 34 dX6_isCounted_30 (by decide) ?_
      exact z_retQT hO hR dX6_isCounted_34 (by first | exact ⟨by omega, c23⟩ | exact fun z => c23 z.2 | exact fun z => absurd z.1 (by omega)) rfl
    ·
      refine z_if_eq hO 33 dX6_isCounted_26 (by decide) (by decide) (fun c26 => ?_) (fun c26 => absurd c26 (by omega))
      refine z_iconst hO dX6_isCounted_33 ?_
      exact z_retQF hO hR dX6_isCounted_34 (by first | exact ⟨by omega, c23⟩ | exact fun z => c23 z.2 | exact fun z => absurd z.1 (by omega)) rfl
