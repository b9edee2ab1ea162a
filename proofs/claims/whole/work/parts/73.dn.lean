def fWx : Nat → Int → Bool := fun c _ => decide ((86 ≤ c ∧ c ≤ 96) ∨ c = 103)
theorem fWk_Wx : ∀ c k, fWx c k = false → fWk c k = false := by
  intro c k h; unfold fWx at h; have := of_decide_eq_false h; unfold fWk; simp; omega
theorem fWx_Sv : ∀ c k, fSv c k = false → fWx c k = false := by
  intro c k h; unfold fSv at h; have := of_decide_eq_false h; unfold fWx; simp; omega
theorem fWx_o {c : Nat} {k : Int} (h : c < 86 ∨ (96 < c ∧ c ≠ 103)) : fWx c k = false := by unfold fWx; simp; omega
theorem SI_Wx {σ σ' : Sg} (h : SI σ) (p : Fm fWx σ σ') : SI σ' := by
  obtain ⟨h1, h2, h3, h4⟩ := h
  have eV := Fm_cv p (fun c k z => fWx_o (by omega))
  have e1 : σ' 1 = σ 1 := p.row 1 (fun k => rfl)
  refine ⟨fun z => ?_, fun z => ?_, fun z => ?_, fun k k0 k1 => by rw [p 100 k rfl]; exact h4 k k0 k1⟩
  · rw [p 83 3 rfl] at z
    rw [eV, e1]
    exact bkQ_keep (h1 z) (fun k k0 k1 => p 83 k rfl) (p.row 84 (fun _ => rfl)) (p.row 85 (fun _ => rfl))
  · rw [p 97 0 rfl] at z
    rw [eV, e1]
    exact ⟨ccA_keep (h2 z).1 (p 97 1 rfl) (fun c c0 c1 => p.row c (fun k => fWx_o (by omega))), by unfold nxA; rw [p 83 8 rfl]; exact (h2 z).2⟩
  · rw [p 83 13 rfl] at z
    rw [eV, e1, p 83 14 rfl, p 83 15 rfl, p 83 16 rfl]; exact h3 z

set_option maxHeartbeats 4000000 in
set_option maxRecDepth 100000 in
theorem lp_csp1 {g : G} {x : Cx} {σ : Sg} {i : Nat} (hO : Ok g x RX6 cX6_spoilt 4 5) (hV : WV (cv σ 1)) (hi : (i : Int) < (cv σ 1).1) (hE : ∀ (cnt : Int) (τ : Sg), cnt = spA (cv σ 1) (σ 1 4) i + spS (cv σ 1) (σ 1 4) i ((cv σ 1).2.1 i).toNat → (∀ j : Int, 0 ≤ j → j < (cv σ 1).1 → j ≠ i → τ 86 j = pk (cv σ 1) (bR (cv σ 1) (σ 1 4)) j) → Fm fWx σ τ → Z g x 4 96 [(0, .ref (g.2.2.1 83)), (1, vI cnt), (2, vI i)] [] τ) : ∀ (f : Nat) (cnt : Int) (k : Nat) (τ : Sg), (k : Int) ≤ (cv σ 1).2.1 i → (cv σ 1).2.1 i - k < f → cnt = spA (cv σ 1) (σ 1 4) i + spS (cv σ 1) (σ 1 4) i k → (∀ j : Int, 0 ≤ j → j < (cv σ 1).1 → j ≠ i → τ 86 j = pk (cv σ 1) (bR (cv σ 1) (σ 1 4)) j) → Fm fWx σ τ → Z g x 4 46 [(0, .ref (g.2.2.1 83)), (1, vI cnt), (2, vI i), (3, vI k)] [] τ := by
  have hn8 := hV.2.1
  have hci := hV.2.2 i (by omega) hi
  have hcc : (cv σ 1).2.1 i = σ 2 i := rfl
  have har := spA_r hV (σ 1 4) i (by omega)
  intro f
  induction f with
  | zero => intro cnt k τ h0 hk; exact absurd hk (by omega)
  | succ f ih =>
    intro cnt k τ h0 hk hc h86 hFm
    have e1 : τ 1 = σ 1 := hFm.row 1 (fun _ => rfl)
    have e2 : τ 2 = σ 2 := hFm.row 2 (fun _ => rfl)
    have e3 : τ 3 = σ 3 := hFm.row 3 (fun _ => rfl)
    have e4 : τ 4 = σ 4 := hFm.row 4 (fun _ => rfl)
    refine z_iload_n hO 3 dX6_spoilt_46 rfl ?_
    refine z_aload_n hO 0 dX6_spoilt_47 rfl ?_
    refine z_getR hO (1) fl_X6_31 rfl rfl dX6_spoilt_48 ?_
    refine z_getR hO (2) fl_X6_95 rfl rfl dX6_spoilt_51 ?_
    refine z_iload_n hO 2 dX6_spoilt_54 rfl ?_
    refine z_iald hO rfl (by omega) (by decide) dX6_spoilt_55 (fun r55 => ?_)
    try simp (disch := omega) only [fl_row_ne, fl_ne, up_row_ne, up_ne, up_eq, up_nk, up_up, up_self, ne_eq, Nat.reduceEqDiff, Int.reduceEq, reduceCtorEq, not_false_eq_true, not_true_eq_false, e1, e2] at r55 ⊢
    refine z_icmp_ge hO 96 dX6_spoilt_56 (by decide) (by omega) (by omega) (fun c56 => ?_) (fun c56 => ?_)
    ·
      have hk9 : (k : Int) = (cv σ 1).2.1 i := by omega
      exact z_pick [0, 1, 2] rfl (hE cnt τ (by rw [← hk9] ; exact hc) h86 hFm)
    ·
      have hal : WP (cv σ 1) (alt (pk (cv σ 1) (bR (cv σ 1) (σ 1 4))) i k) := alt_WP (pk_WP hV (bR (cv σ 1) (σ 1 4))) ⟨by omega, by omega⟩
      have hag : ∀ j : Int, 0 ≤ j → j < (cv σ 1).1 → (up τ 86 i k) 86 j = (alt (pk (cv σ 1) (bR (cv σ 1) (σ 1 4))) i k) j := fun j j0 j1 => by unfold alt; by_cases q : j = i; (rw [if_pos q, q, up_eq]); (rw [if_neg q, up_nk q]; exact h86 j j0 j1 q)
      have eV1 : cv (up τ 86 i k) 1 = (cv σ 1) := cv_eq (by funext z; rw [up_ne (by decide), e1]) (by funext z; rw [up_ne (by decide), e2]) (by funext z; rw [up_ne (by decide), e3]) (by funext z; rw [up_ne (by decide), e4])
      have hWP : WP (cv (up τ 86 i k) 1) ((up τ 86 i k) 86) := by rw [eV1]; intro j j0 j1; rw [hag j j0 j1]; exact hal j j0 j1
      have hsd : sdP (cv σ 1) ((up τ 86 i k) 86) = (sdP (cv σ 1) (alt (pk (cv σ 1) (bR (cv σ 1) (σ 1 4))) i k)) := sdP_congr hag
      have hsr := spS_r (cv σ 1) (σ 1 4) i k
      refine z_aload_n hO 0 dX6_spoilt_59 rfl ?_
      refine z_getR hO (86) fl_X6_25 rfl rfl dX6_spoilt_60 ?_
      refine z_iload_n hO 2 dX6_spoilt_63 rfl ?_
      refine z_iload_n hO 3 dX6_spoilt_64 rfl ?_
      refine z_iast hO rfl (by omega) (by decide) (by omega) dX6_spoilt_65 ?_
      refine z_aload_n hO 0 dX6_spoilt_66 rfl ?_
      refine z_getR hO (88) fl_X6_40 rfl rfl dX6_spoilt_67 ?_
      refine z_aload_n hO 0 dX6_spoilt_70 rfl ?_
      refine z_getR hO (86) fl_X6_25 rfl rfl dX6_spoilt_71 ?_
      refine z_cvB hO (t_X7_isSaid (by rw [eV1]; exact hV) hWP) cv_X6_131 rfl rfl rfl rfl (by decide) (Nat.le_of_ble_eq_true rfl) dX6_spoilt_74 (fun s74 p74 => ?_) (fun s74 p74 => ?_)
      ·
        rw [eV1, hsd] at p74
        have hF2 : Fm fWx σ s74 := (hFm.up rfl).trans (p74.2.2.mono fWk_Wx)
        have h862 : ∀ j : Int, 0 ≤ j → j < (cv σ 1).1 → j ≠ i → s74 86 j = pk (cv σ 1) (bR (cv σ 1) (σ 1 4)) j := fun j j0 j1 j2 => by rw [p74.2.2 86 j rfl, up_nk j2]; exact h86 j j0 j1 j2
        have u1 : s74 1 = σ 1 := (p74.2.2.row 1 (fun _ => rfl)).trans (by funext z; rw [up_ne (by decide), e1])
        have hy := p74.2.1 rfl
        have hy1 : (sdP (cv σ 1) (alt (pk (cv σ 1) (bR (cv σ 1) (σ 1 4))) i k)).2 = true := p74.1.symm
        have hyr := (sdP_r hV hal).2 hy1
        refine z_if_eq hO 90 dX6_spoilt_77 (by decide) (by decide) (fun c77 => absurd c77 (by omega)) (fun c77 => ?_)
        refine z_aload_n hO 0 dX6_spoilt_80 rfl ?_
        refine z_cvQ hO (t_X6_isSound (by intro _ _; rw [hy.2]; exact row_NR hy.1 hyr)) cv_X6_135 rfl rfl rfl rfl (by decide) (Nat.le_of_ble_eq_true rfl) dX6_spoilt_81 (fun c81 => ?_) (fun c81 => ?_)
        ·
          try simp (disch := omega) only [fl_row_ne, fl_ne, up_row_ne, up_ne, up_eq, up_nk, up_up, up_self, ne_eq, Nat.reduceEqDiff, Int.reduceEq, reduceCtorEq, not_false_eq_true, not_true_eq_false, e1, e2, u1] at c81 ⊢
          have hn2 : cnt = spA (cv σ 1) (σ 1 4) i + spS (cv σ 1) (σ 1 4) i (k + 1) := by rw [spS_s, show spC (cv σ 1) (σ 1 4) i k = false by unfold spC; rw [dec_iff.mpr ((hld_row hy.1 hyr.1).mp (by rw [hy.2] at c81; exact c81.2.2))]; simp, b2i_f]; omega
          refine z_if_ne hO 90 dX6_spoilt_84 (by decide) (by decide) (fun c84 => ?_) (fun c84 => absurd c84 (by omega))
          refine z_iinc hO (L' := [(3, _), (0, _), (1, _), (2, _)]) 3 dX6_spoilt_90 rfl (by decide) rfl ?_
          refine z_goto hO 46 dX6_spoilt_93 (by decide) ?_
          exact z_pick [1, 2, 3, 0] rfl (ih _ (k + 1) _ (by omega) (by omega) hn2 h862 hF2)
        ·
          try simp (disch := omega) only [fl_row_ne, fl_ne, up_row_ne, up_ne, up_eq, up_nk, up_up, up_self, ne_eq, Nat.reduceEqDiff, Int.reduceEq, reduceCtorEq, not_false_eq_true, not_true_eq_false, e1, e2, u1] at c81 ⊢
          have hn2 : cnt + 1 = spA (cv σ 1) (σ 1 4) i + spS (cv σ 1) (σ 1 4) i (k + 1) := by rw [spS_s, show spC (cv σ 1) (σ 1 4) i k = true by unfold spC; rw [hy1, dec_not.mpr (fun z => c81 ⟨by rw [hy.2]; omega, by rw [hy.2]; omega, by rw [hy.2]; exact (hld_row hy.1 hyr.1).mpr z⟩)]; rfl, b2i_t]; omega
          refine z_if_ne hO 90 dX6_spoilt_84 (by decide) (by decide) (fun c84 => absurd c84 (by omega)) (fun c84 => ?_)
          refine z_iinc hO (L' := [(1, _), (0, _), (2, _), (3, _)]) 1 dX6_spoilt_87 rfl (by decide) rfl ?_
          refine z_iinc hO (L' := [(3, _), (1, _), (0, _), (2, _)]) 3 dX6_spoilt_90 rfl (by decide) rfl ?_
          refine z_goto hO 46 dX6_spoilt_93 (by decide) ?_
          exact z_pick [2, 1, 3, 0] rfl (ih _ (k + 1) _ (by omega) (by omega) hn2 h862 hF2)
      ·
        rw [eV1, hsd] at p74
        have hF2 : Fm fWx σ s74 := (hFm.up rfl).trans (p74.2.2.mono fWk_Wx)
        have h862 : ∀ j : Int, 0 ≤ j → j < (cv σ 1).1 → j ≠ i → s74 86 j = pk (cv σ 1) (bR (cv σ 1) (σ 1 4)) j := fun j j0 j1 j2 => by rw [p74.2.2 86 j rfl, up_nk j2]; exact h86 j j0 j1 j2
        have u1 : s74 1 = σ 1 := (p74.2.2.row 1 (fun _ => rfl)).trans (by funext z; rw [up_ne (by decide), e1])
        have hy1 : (sdP (cv σ 1) (alt (pk (cv σ 1) (bR (cv σ 1) (σ 1 4))) i k)).2 = false := p74.1.symm
        have hn2 : cnt = spA (cv σ 1) (σ 1 4) i + spS (cv σ 1) (σ 1 4) i (k + 1) := by rw [spS_s, show spC (cv σ 1) (σ 1 4) i k = false by unfold spC; rw [hy1]; rfl, b2i_f]; omega
        refine z_if_eq hO 90 dX6_spoilt_77 (by decide) (by decide) (fun c77 => ?_) (fun c77 => absurd c77 (by omega))
        refine z_iinc hO (L' := [(3, _), (0, _), (1, _), (2, _)]) 3 dX6_spoilt_90 rfl (by decide) rfl ?_
        refine z_goto hO 46 dX6_spoilt_93 (by decide) ?_
        exact z_pick [1, 2, 3, 0] rfl (ih _ (k + 1) _ (by omega) (by omega) hn2 h862 hF2)

set_option maxHeartbeats 4000000 in
set_option maxRecDepth 100000 in
theorem lp_csp2 {g : G} {x : Cx} {σ : Sg} {P : Int → Sg → Prop} (hO : Ok g x RX6 cX6_spoilt 4 5) (hR : Rt g x (some .int) (pI P)) (hV : WV (cv σ 1)) (hb : ∀ e : Int, 0 ≤ e → e < (cv σ 1).1 → σ 85 e = pk (cv σ 1) (bR (cv σ 1) (σ 1 4)) e) (hP : ∀ τ, Fm fWx σ τ → P (spA (cv σ 1) (σ 1 4) (cv σ 1).1.toNat) τ) : ∀ (f i : Nat) (cnt : Int) (τ : Sg), (i : Int) ≤ (cv σ 1).1 → (cv σ 1).1 - i < f → cnt = spA (cv σ 1) (σ 1 4) i → (∀ j : Int, 0 ≤ j → j < (cv σ 1).1 → τ 86 j = pk (cv σ 1) (bR (cv σ 1) (σ 1 4)) j) → Fm fWx σ τ → Z g x 4 33 [(0, .ref (g.2.2.1 83)), (1, vI cnt), (2, vI i)] [] τ := by
  have hn8 := hV.2.1
  have hn0 := hV.1
  have hn : (cv σ 1).1 = σ 1 3 := rfl
  intro f
  induction f with
  | zero => intro i cnt τ h0 hk; exact absurd hk (by omega)
  | succ f ih =>
    intro i cnt τ h0 hk hc h86 hFm
    have har := spA_r hV (σ 1 4) i h0
    have e1 : τ 1 = σ 1 := hFm.row 1 (fun _ => rfl)
    have e85 : τ 85 = σ 85 := hFm.row 85 (fun _ => rfl)
    refine z_iload_n hO 2 dX6_spoilt_33 rfl ?_
    refine z_aload_n hO 0 dX6_spoilt_34 rfl ?_
    refine z_getR hO (1) fl_X6_31 rfl rfl dX6_spoilt_35 ?_
    refine z_getI hO 3 fl_X6_128 rfl rfl rfl dX6_spoilt_38 (fun r38 => ?_)
    try simp (disch := omega) only [fl_row_ne, fl_ne, up_row_ne, up_ne, up_eq, up_nk, up_up, up_self, ne_eq, Nat.reduceEqDiff, Int.reduceEq, reduceCtorEq, not_false_eq_true, not_true_eq_false, e1, e85] at r38 ⊢
    refine z_icmp_ge hO 114 dX6_spoilt_41 (by decide) (by omega) (by omega) (fun c41 => ?_) (fun c41 => ?_)
    ·
      have hin : i = (cv σ 1).1.toNat := by omega
      refine z_iload_n hO 1 dX6_spoilt_114 rfl ?_
      exact z_retI hO hR dX6_spoilt_115 (by rw [hc, hin]; exact hP τ hFm)
    ·
      refine z_iconst hO dX6_spoilt_44 ?_
      refine z_istore_n hO (L' := [(3, _), (0, _), (1, _), (2, _)]) dX6_spoilt_45 (by decide) rfl ?_
      refine z_pick [1, 2, 3, 0] rfl (lp_csp1 (σ := σ) hO hV (by omega) ?_ 6 cnt 0 τ (by have := (hV.2.2 i (by omega) (by omega)).1; omega) (by have := (hV.2.2 i (by omega) (by omega)).2.1; omega) (by rw [hc]; show _ = _ + 0; omega) (fun j j0 j1 _ => h86 j j0 j1) hFm)
      clear hc h86 hFm e1 e85 τ cnt r38
      intro cnt τ hc h86 hFm
      have e1 : τ 1 = σ 1 := hFm.row 1 (fun _ => rfl)
      have e85 : τ 85 = σ 85 := hFm.row 85 (fun _ => rfl)
      have har := spA_r hV (σ 1 4) (i + 1) (by omega)
      rw [spA_s] at har
      refine z_aload_n hO 0 dX6_spoilt_96 rfl ?_
      refine z_getR hO (86) fl_X6_25 rfl rfl dX6_spoilt_97 ?_
      refine z_iload_n hO 2 dX6_spoilt_100 rfl ?_
      refine z_aload_n hO 0 dX6_spoilt_101 rfl ?_
      refine z_getR hO (85) fl_X6_22 rfl rfl dX6_spoilt_102 ?_
      refine z_iload_n hO 2 dX6_spoilt_105 rfl ?_
      refine z_iald hO rfl (by omega) (by decide) dX6_spoilt_106 (fun r106 => ?_)
      try simp (disch := omega) only [fl_row_ne, fl_ne, up_row_ne, up_ne, up_eq, up_nk, up_up, up_self, ne_eq, Nat.reduceEqDiff, Int.reduceEq, reduceCtorEq, not_false_eq_true, not_true_eq_false, e1, e85] at r106 ⊢
      refine z_iast hO rfl (by omega) (by decide) (by omega) dX6_spoilt_107 ?_
      refine z_iinc hO (L' := [(2, _), (0, _), (1, _)]) 2 dX6_spoilt_108 rfl (by decide) rfl ?_
      refine z_goto hO 33 dX6_spoilt_111 (by decide) ?_
      exact z_pick [1, 2, 0] rfl (ih (i + 1) _ _ (by omega) (by omega) (by rw [spA_s]; exact hc) (fun j j0 j1 => by by_cases q : j = i; (rw [q, up_eq]; exact hb i (by omega) (by omega)); (rw [up_nk q]; exact h86 j j0 j1 q)) (hFm.up rfl))

set_option maxHeartbeats 4000000 in
set_option maxRecDepth 100000 in
theorem t_X6_spoilt {g : G} {σ : Sg} (hV : WV (cv σ 1)) (hI : SI σ) : MM g mX6_spoilt [.ref (g.2.2.1 83)] σ (pI (fun r σ' => r = (if (bR (cv σ 1) (σ 1 4)) = -4 then -4 else spA (cv σ 1) (σ 1 4) (cv σ 1).1.toNat) ∧ SI σ' ∧ Fm fSv σ σ')) := by
  refine mm_of rfl (by decide) rfl rfl (Nat.le_of_ble_eq_true rfl) (fun x hO hR => ?_)
  refine z_aload_n hO 0 dX6_spoilt_0 rfl ?_
  refine z_cvV hO (t_X6_findBest hV hI.1) cv_X6_54 rfl rfl rfl rfl (by decide) (Nat.le_of_ble_eq_true rfl) dX6_spoilt_1 (fun s1 p1 => ?_)
  obtain ⟨a1, a2, a3⟩ := p1
  have hSI := SI_FB hI ⟨a1, a2, a3⟩
  have eV := Fm_cv a3 fFB_4
  have e1 : s1 1 = σ 1 := a3.row 1 (fun k => fFB_4 1 k (by decide))
  have b1 := a1.1
  have b2 := a1.2.1
  refine z_aload_n hO 0 dX6_spoilt_4 rfl ?_
  refine z_getI hO 5 fl_X6_61 rfl rfl rfl dX6_spoilt_5 (fun r5 => ?_)
  refine z_if_ne hO 14 dX6_spoilt_8 (by decide) (by omega) (fun c8 => ?_) (fun c8 => ?_)
  ·
    have hbr := bR_ne hV (K := σ 1 4) (by omega)
    obtain ⟨c1, c2, c3, c4⟩ := a1.2.2 hbr
    refine z_iconst hO dX6_spoilt_14 ?_
    refine z_istore_n hO (L' := [(1, _), (0, _)]) dX6_spoilt_15 (by decide) rfl ?_
    refine z_aload_n hO 1 dX6_spoilt_16 rfl ?_
    refine z_getR hO (85) fl_X6_22 rfl rfl dX6_spoilt_17 ?_
    refine z_iconst hO dX6_spoilt_20 ?_
    refine z_aload_n hO 1 dX6_spoilt_21 rfl ?_
    refine z_getR hO (86) fl_X6_25 rfl rfl dX6_spoilt_22 ?_
    refine z_iconst hO dX6_spoilt_25 ?_
    refine z_bipush hO dX6_spoilt_26 (by decide) ?_
    refine z_copyI hO ac_X6_122 (by decide) rfl rfl (by decide) (by decide) (by omega) (by omega) (by omega) (by omega) (by omega) (Nat.le_of_ble_eq_true rfl) dX6_spoilt_28 ?_
    refine z_iconst hO dX6_spoilt_31 ?_
    refine z_istore_n hO (L' := [(2, _), (1, _), (0, _)]) dX6_spoilt_32 (by decide) rfl ?_
    refine z_pick [2, 1, 0] rfl (lp_csp2 (σ := s1) hO hR (by rw [eV]; exact hV) (by rw [eV, e1]; exact c4) (fun τ hτ => ?_) 9 0 0 _ (by rw [eV]; exact hV.1) (by rw [eV]; have := hV.2.1; omega) rfl ?_ ?_)
    · rw [eV, e1, if_neg hbr]; exact ⟨rfl, SI_Wx hSI hτ, (a3.mono fFB_Sv).trans (hτ.mono fWx_Sv)⟩
    · intro j j0 j1; rw [eV] at j1 ⊢; rw [e1]; have h8 := hV.2.1; rw [cp_in (by omega), show (0 : Int) + (j - 0) = j by omega]; exact c4 j j0 j1
    · intro c k q; have h86 : c ≠ 86 := by rintro rfl; cases (show true = false from q)
      exact cp_ne h86
  ·
    have hbz : (bR (cv σ 1) (σ 1 4)) = -4 := (bst_0 hV _ _).mpr (by omega)
    refine z_bipush hO dX6_spoilt_11 (by decide) ?_
    exact z_retI hO hR dX6_spoilt_13 (⟨by rw [if_pos hbz], hSI, a3.mono fFB_Sv⟩)
