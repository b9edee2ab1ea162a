def fLk : Nat → Int → Bool := fun c k => decide (88 ≤ c ∧ c ≤ 96) || (c == 83 && (k == 13 || k == 14 || k == 15 || k == 16))
theorem fWk_Lk : ∀ c k, fLk c k = false → fWk c k = false := by
  intro c k h; simp only [fLk, fWk, Bool.or_eq_false_iff] at h ⊢; exact h.1
theorem fLk_Sv : ∀ c k, fSv c k = false → fLk c k = false := by
  intro c k h; unfold fSv at h; have := of_decide_eq_false h; unfold fLk; simp; omega
theorem fLk_4 : ∀ (c : Nat) (k : Int), c ≤ 4 → fLk c k = false := by
  intro c k h; unfold fLk; simp; omega
noncomputable def wgQ (σ : Sg) (v : Int) (σ' : Sg) : Prop := σ' 83 15 = wOne (cv σ 1) (σ 1 4) v (rdN (cv σ 1)).toNat ∧ σ' 83 16 = wAll (cv σ 1) (σ 1 4) (rdN (cv σ 1)).toNat ∧ σ' 83 14 = v ∧ Fm fLk σ σ'
theorem SI_Lk {σ σ' : Sg} {v : Int} (h : SI σ) (p : wgQ σ v σ') : SI σ' := by
  obtain ⟨h1, h2, h3, h4⟩ := h
  obtain ⟨p1, p2, p3, p4⟩ := p
  have eV := Fm_cv p4 fLk_4
  have e1 : σ' 1 = σ 1 := p4.row 1 (fun k => fLk_4 1 k (by decide))
  refine ⟨fun z => ?_, fun z => ?_, fun _ => ?_, fun k k0 k1 => by rw [p4 100 k rfl]; exact h4 k k0 k1⟩
  · rw [p4 83 3 rfl] at z
    rw [eV, e1]
    exact bkQ_keep (h1 z) (fun k k0 k1 => p4 83 k (by unfold fLk; simp; omega)) (p4.row 84 (fun _ => rfl)) (p4.row 85 (fun _ => rfl))
  · rw [p4 97 0 rfl] at z
    rw [eV, e1]
    exact ⟨ccA_keep (h2 z).1 (p4 97 1 rfl) (fun c c0 c1 => p4.row c (fun k => by unfold fLk; simp; omega)), by unfold nxA; rw [p4 83 8 rfl]; exact (h2 z).2⟩
  · rw [eV, e1, p3]; exact ⟨p1, p2⟩
theorem wOne_skip {V : Hv} {K v : Int} {a b : Nat} (hab : a ≤ b) (hn : ∀ y : Int, a ≤ y → y < b → said V y = false) : wOne V K v b = wOne V K v a ∧ wAll V K b = wAll V K a :=
  ⟨fold_skip (P := fun m => said V m = false) (fun m h => wOne_f (snd_nsaid h)) hab (fun m m0 m1 => hn m (by omega) (by omega)), fold_skip (P := fun m => said V m = false) (fun m h => wAll_f (snd_nsaid h)) hab (fun m m0 m1 => hn m (by omega) (by omega))⟩

set_option maxHeartbeats 4000000 in
set_option maxRecDepth 100000 in
theorem lp_weigh {g : G} {x : Cx} {σ : Sg} {v : Int} (hO : Ok g x RX6 cX6_weigh 3 4) (hR : Rt g x none (pV (fun σ' => wgQ σ v σ'))) (hV : WV (cv σ 1)) (rv : -2147483648 ≤ v ∧ v ≤ 2147483647) : ∀ (f : Nat) (left : Int) (r : Nat) (τ : Sg), left < f → 0 ≤ left → left ≤ 65536 → 65536 ≤ left + r → (r : Int) ≤ rdN (cv σ 1) → WI (cv σ 1) τ r → τ 83 15 = wOne (cv σ 1) (σ 1 4) v r → τ 83 16 = wAll (cv σ 1) (σ 1 4) r → τ 83 14 = v → Fm fLk σ τ → Z g x 3 46 [(0, .ref (g.2.2.1 83)), (1, vI v), (2, vI left)] [] τ := by
  intro f
  induction f with
  | zero => intro left r τ hl h0; exact absurd hl (by omega)
  | succ f ih =>
    intro left r τ hl h0 hl2 hlr hr hW h15 h16 h14 hFm
    have e1 : τ 1 = σ 1 := hFm.row 1 (fun _ => rfl)
    have e2 : τ 2 = σ 2 := hFm.row 2 (fun _ => rfl)
    have e3 : τ 3 = σ 3 := hFm.row 3 (fun _ => rfl)
    have e4 : τ 4 = σ 4 := hFm.row 4 (fun _ => rfl)
    have eV : cv τ 1 = cv σ 1 := cv_eq e1 e2 e3 e4
    refine z_iload_n hO 2 dX6_weigh_46 rfl ?_
    refine z_if_le hO 126 dX6_weigh_47 (by decide) (by omega) (fun c47 => ?_) (fun c47 => ?_)
    ·
      have hrN : r = (rdN (cv σ 1)).toNat := by have := rdN_r hV; omega
      exact z_retV hO hR dX6_weigh_126 (by first | exact ⟨by rw [← hrN]; exact h15, by rw [← hrN]; exact h16, h14, hFm⟩ | exact ⟨u15.trans hsk.1.symm, u16.trans hsk.2.symm, u14, hF1⟩)
    ·
      refine z_aload_n hO 0 dX6_weigh_50 rfl ?_
      refine z_getR hO (88) fl_X6_40 rfl rfl dX6_weigh_51 ?_
      refine z_cvB hO (t_X7_step (r := r) (by rw [eV]; exact hV) (by rw [eV]; exact hW)) cv_X6_109 rfl rfl rfl rfl (by decide) (Nat.le_of_ble_eq_true rfl) dX6_weigh_54 (fun s54 p54 => ?_) (fun s54 p54 => ?_)
      ·
        rw [eV] at p54
        have hF1 : Fm fLk σ s54 := (hFm.trans (p54.2.mono fWk_Lk))
        have u1 : s54 1 = σ 1 := ((p54.2).row 1 (fun _ => rfl)).trans e1
        have u15 := (p54.2 83 15 rfl).trans h15
        have u16 := (p54.2 83 16 rfl).trans h16
        have u14 := (p54.2 83 14 rfl).trans h14
        obtain ⟨q0, ⟨hq0, hq1⟩, hq2, hq3, hq4, hq5⟩ := p54.1.1 rfl
        obtain ⟨n, rfl⟩ : ∃ n : Nat, q0 = n := ⟨q0.toNat, by omega⟩
        have hrd := rdN_r hV
        have hsk := wOne_skip (K := (σ 1 4)) (v := v) (a := r) (b := n) (by omega) hq2
        rw [← hsk.1] at u15
        rw [← hsk.2] at u16
        have hwr := w_r hV (σ 1 4) v n
        have hwg := wgt_r hV n
        have hww := hq4.2.2.2.1
        have hlw := said_r hV hq3
        have hl10 := hq4.2.1
        refine z_if_eq hO 126 dX6_weigh_57 (by decide) (by decide) (fun c57 => absurd c57 (by omega)) (fun c57 => ?_)
        refine z_aload_n hO 0 dX6_weigh_60 rfl ?_
        refine z_cvQ hO (t_X6_isSound (by exact Fnd_NR hV hq3 hq4)) cv_X6_135 rfl rfl rfl rfl (by decide) (Nat.le_of_ble_eq_true rfl) dX6_weigh_61 (fun c61 => ?_) (fun c61 => ?_)
        ·
          try simp (disch := omega) only [fl_row_ne, fl_ne, up_row_ne, up_ne, up_eq, up_nk, up_up, up_self, ne_eq, Nat.reduceEqDiff, Int.reduceEq, reduceCtorEq, not_false_eq_true, not_true_eq_false, u1] at c61 ⊢
          have hsn := (Fnd_snd hV hq3 hq4).mp c61
          have hla : s54 96 (s54 88 10 - 1) = lastN (cv σ 1) n := by rw [hl10]; exact row_lrow hq4.1 (by omega) (by omega)
          refine z_if_eq hO 120 dX6_weigh_64 (by decide) (by decide) (fun c64 => absurd c64 (by omega)) (fun c64 => ?_)
          refine z_aload_n hO 0 dX6_weigh_67 rfl ?_
          refine z_dup hO dX6_weigh_68 rfl ?_
          refine z_getL hO 16 fl_X6_142 rfl rfl rfl dX6_weigh_69 (fun r69 => ?_)
          try simp (disch := omega) only [fl_row_ne, fl_ne, up_row_ne, up_ne, up_eq, up_nk, up_up, up_self, ne_eq, Nat.reduceEqDiff, Int.reduceEq, reduceCtorEq, not_false_eq_true, not_true_eq_false, u1] at r69 ⊢
          refine z_aload_n hO 0 dX6_weigh_72 rfl ?_
          refine z_getR hO (88) fl_X6_40 rfl rfl dX6_weigh_73 ?_
          refine z_getL hO 12 fl_X6_192 rfl rfl rfl dX6_weigh_76 (fun r76 => ?_)
          try simp (disch := omega) only [fl_row_ne, fl_ne, up_row_ne, up_ne, up_eq, up_nk, up_up, up_self, ne_eq, Nat.reduceEqDiff, Int.reduceEq, reduceCtorEq, not_false_eq_true, not_true_eq_false, u1] at r76 ⊢
          refine z_ladd hO dX6_weigh_79 ?_
          refine z_putL hO 16 fp_X6_142 rfl rfl rfl (by omega) dX6_weigh_80 ?_
          refine z_aload_n hO 0 dX6_weigh_83 rfl ?_
          refine z_getR hO (88) fl_X6_40 rfl rfl dX6_weigh_84 ?_
          refine z_getR hO (96) fl_X6_116 rfl rfl dX6_weigh_87 ?_
          refine z_aload_n hO 0 dX6_weigh_90 rfl ?_
          refine z_getR hO (88) fl_X6_40 rfl rfl dX6_weigh_91 ?_
          refine z_getI hO 10 fl_X6_119 rfl rfl rfl dX6_weigh_94 (fun r94 => ?_)
          try simp (disch := omega) only [fl_row_ne, fl_ne, up_row_ne, up_ne, up_eq, up_nk, up_up, up_self, ne_eq, Nat.reduceEqDiff, Int.reduceEq, reduceCtorEq, not_false_eq_true, not_true_eq_false, u1] at r94 ⊢
          refine z_iconst hO dX6_weigh_97 ?_
          refine z_isub hO dX6_weigh_98 ?_
          refine z_iald hO rfl (by omega) (by decide) dX6_weigh_99 (fun r99 => ?_)
          try simp (disch := omega) only [fl_row_ne, fl_ne, up_row_ne, up_ne, up_eq, up_nk, up_up, up_self, ne_eq, Nat.reduceEqDiff, Int.reduceEq, reduceCtorEq, not_false_eq_true, not_true_eq_false, u1] at r99 ⊢
          refine z_iload_n hO 1 dX6_weigh_100 rfl ?_
          refine z_icmp_ne hO 120 dX6_weigh_101 (by decide) (by omega) (by omega) (fun c101 => ?_) (fun c101 => ?_)
          ·
            have hW2 : WI (cv σ 1) (up s54 83 16 (s54 83 16 + s54 88 12)) ((n + 1 : Nat) : Int) := WI_congr hq5 (fun c c0 c1 => by funext k; rw [up_ne (by omega)])
            have h152 : (up s54 83 16 (s54 83 16 + s54 88 12)) 83 15 = wOne (cv σ 1) (σ 1 4) v (n + 1) := by rw [up_nk (by decide), wOne_n (by rw [← hla]; exact c101)]; exact u15
            have h162 : (up s54 83 16 (s54 83 16 + s54 88 12)) 83 16 = wAll (cv σ 1) (σ 1 4) (n + 1) := by rw [up_eq, wAll_t hsn, u16, hww]
            have h142 : (up s54 83 16 (s54 83 16 + s54 88 12)) 83 14 = v := by rw [up_nk (by decide)]; exact u14
            have hF2 : Fm fLk σ (up s54 83 16 (s54 83 16 + s54 88 12)) := hF1.up rfl
            refine z_iinc hO (L' := [(2, _), (0, _), (1, _)]) 2 dX6_weigh_120 rfl (by decide) rfl ?_
            refine z_goto hO 46 dX6_weigh_123 (by decide) ?_
            exact z_pick [1, 2, 0] rfl (ih _ (n + 1) _ (by omega) (by omega) (by omega) (by omega) (by omega) hW2 h152 h162 h142 hF2)
          ·
            have hW2 : WI (cv σ 1) (up (up s54 83 16 (s54 83 16 + s54 88 12)) 83 15 (s54 83 15 + s54 88 12)) ((n + 1 : Nat) : Int) := WI_congr hq5 (fun c c0 c1 => by funext k; rw [up_ne (by omega), up_ne (by omega)])
            have h152 : (up (up s54 83 16 (s54 83 16 + s54 88 12)) 83 15 (s54 83 15 + s54 88 12)) 83 15 = wOne (cv σ 1) (σ 1 4) v (n + 1) := by rw [up_eq, wOne_t hsn (by rw [← hla]; exact c101), u15, hww]
            have h162 : (up (up s54 83 16 (s54 83 16 + s54 88 12)) 83 15 (s54 83 15 + s54 88 12)) 83 16 = wAll (cv σ 1) (σ 1 4) (n + 1) := by rw [up_nk (by decide), up_eq, wAll_t hsn, u16, hww]
            have h142 : (up (up s54 83 16 (s54 83 16 + s54 88 12)) 83 15 (s54 83 15 + s54 88 12)) 83 14 = v := by rw [up_nk (by decide), up_nk (by decide)]; exact u14
            have hF2 : Fm fLk σ (up (up s54 83 16 (s54 83 16 + s54 88 12)) 83 15 (s54 83 15 + s54 88 12)) := (hF1.up rfl).up rfl
            refine z_aload_n hO 0 dX6_weigh_104 rfl ?_
            refine z_dup hO dX6_weigh_105 rfl ?_
            refine z_getL hO 15 fl_X6_146 rfl rfl rfl dX6_weigh_106 (fun r106 => ?_)
            try simp (disch := omega) only [fl_row_ne, fl_ne, up_row_ne, up_ne, up_eq, up_nk, up_up, up_self, ne_eq, Nat.reduceEqDiff, Int.reduceEq, reduceCtorEq, not_false_eq_true, not_true_eq_false, u1] at r106 ⊢
            refine z_aload_n hO 0 dX6_weigh_109 rfl ?_
            refine z_getR hO (88) fl_X6_40 rfl rfl dX6_weigh_110 ?_
            refine z_getL hO 12 fl_X6_192 rfl rfl rfl dX6_weigh_113 (fun r113 => ?_)
            try simp (disch := omega) only [fl_row_ne, fl_ne, up_row_ne, up_ne, up_eq, up_nk, up_up, up_self, ne_eq, Nat.reduceEqDiff, Int.reduceEq, reduceCtorEq, not_false_eq_true, not_true_eq_false, u1] at r113 ⊢
            refine z_ladd hO dX6_weigh_116 ?_
            refine z_putL hO 15 fp_X6_146 rfl rfl rfl (by omega) dX6_weigh_117 ?_
            refine z_iinc hO (L' := [(2, _), (0, _), (1, _)]) 2 dX6_weigh_120 rfl (by decide) rfl ?_
            refine z_goto hO 46 dX6_weigh_123 (by decide) ?_
            exact z_pick [1, 2, 0] rfl (ih _ (n + 1) _ (by omega) (by omega) (by omega) (by omega) (by omega) hW2 h152 h162 h142 hF2)
        ·
          try simp (disch := omega) only [fl_row_ne, fl_ne, up_row_ne, up_ne, up_eq, up_nk, up_up, up_self, ne_eq, Nat.reduceEqDiff, Int.reduceEq, reduceCtorEq, not_false_eq_true, not_true_eq_false, u1] at c61 ⊢
          have hsn : snd (cv σ 1) (σ 1 4) n = false := Bool.not_eq_true _ ▸ (fun z => c61 ((Fnd_snd hV hq3 hq4).mpr z))
          have hW2 : WI (cv σ 1) s54 ((n + 1 : Nat) : Int) := hq5
          have h152 := u15.trans (wOne_f hsn).symm
          have h162 := u16.trans (wAll_f hsn).symm
          have h142 := u14
          have hF2 := hF1
          refine z_if_eq hO 120 dX6_weigh_64 (by decide) (by decide) (fun c64 => ?_) (fun c64 => absurd c64 (by omega))
          refine z_iinc hO (L' := [(2, _), (0, _), (1, _)]) 2 dX6_weigh_120 rfl (by decide) rfl ?_
          refine z_goto hO 46 dX6_weigh_123 (by decide) ?_
          exact z_pick [1, 2, 0] rfl (ih _ (n + 1) _ (by omega) (by omega) (by omega) (by omega) (by omega) hW2 h152 h162 h142 hF2)
      ·
        rw [eV] at p54
        have hF1 : Fm fLk σ s54 := (hFm.trans (p54.2.mono fWk_Lk))
        have u1 : s54 1 = σ 1 := ((p54.2).row 1 (fun _ => rfl)).trans e1
        have u15 := (p54.2 83 15 rfl).trans h15
        have u16 := (p54.2 83 16 rfl).trans h16
        have u14 := (p54.2 83 14 rfl).trans h14
        have hz := p54.1.2 rfl
        have hsk := wOne_skip (K := (σ 1 4)) (v := v) (a := r) (b := (rdN (cv σ 1)).toNat) (by omega) (fun y y0 y1 => hz y y0 (by have := rd_pq hV; omega))
        refine z_if_eq hO 126 dX6_weigh_57 (by decide) (by decide) (fun c57 => ?_) (fun c57 => absurd c57 (by omega))
        exact z_retV hO hR dX6_weigh_126 (by first | exact ⟨by rw [← hrN]; exact h15, by rw [← hrN]; exact h16, h14, hFm⟩ | exact ⟨u15.trans hsk.1.symm, u16.trans hsk.2.symm, u14, hF1⟩)

set_option maxHeartbeats 4000000 in
set_option maxRecDepth 100000 in
theorem t_X6_weigh {g : G} {σ : Sg} {v : Int} (rv : -2147483648 ≤ v ∧ v ≤ 2147483647) (hV : WV (cv σ 1)) (hI : SI σ) : MM g mX6_weigh [.ref (g.2.2.1 83), vI v] σ (pV (fun σ' => wgQ σ v σ')) := by
  refine mm_of rfl (by decide) rfl rfl (Nat.le_of_ble_eq_true rfl) (fun x hO hR => ?_)
  refine z_aload_n hO 0 dX6_weigh_0 rfl ?_
  refine z_getI hO 13 fl_X6_51 rfl rfl rfl dX6_weigh_1 (fun r1 => ?_)
  refine z_if_eq hO 16 dX6_weigh_4 (by decide) (by omega) (fun c4 => ?_) (fun c4 => ?_)
  ·
    refine z_aload_n hO 0 dX6_weigh_16 rfl ?_
    refine z_iconst hO dX6_weigh_17 ?_
    refine z_putI hO 13 fp_X6_51 rfl rfl rfl (by omega) (by decide) (by decide) dX6_weigh_18 ?_
    refine z_aload_n hO 0 dX6_weigh_21 rfl ?_
    refine z_iload_n hO 1 dX6_weigh_22 rfl ?_
    refine z_putI hO 14 fp_X6_189 rfl rfl rfl (by omega) rfl rfl dX6_weigh_23 ?_
    refine z_aload_n hO 0 dX6_weigh_26 rfl ?_
    refine z_lconst hO 0 dX6_weigh_27 (by decide) ?_
    refine z_putL hO 15 fp_X6_146 rfl rfl rfl (by omega) dX6_weigh_28 ?_
    refine z_aload_n hO 0 dX6_weigh_31 rfl ?_
    refine z_lconst hO 0 dX6_weigh_32 (by decide) ?_
    refine z_putL hO 16 fp_X6_142 rfl rfl rfl (by omega) dX6_weigh_33 ?_
    refine z_aload_n hO 0 dX6_weigh_36 rfl ?_
    refine z_getR hO (88) fl_X6_40 rfl rfl dX6_weigh_37 ?_
    refine z_cvV hO (t_X7_begin) cv_X6_105 rfl rfl rfl rfl (by decide) (Nat.le_of_ble_eq_true rfl) dX6_weigh_40 (fun s40 p40 => ?_)
    subst p40
    refine z_ldc hO k_X6_108 dX6_weigh_43 ?_
    refine z_istore_n hO (L' := [(2, _), (0, _), (1, _)]) dX6_weigh_45 (by decide) rfl ?_
    have hbe : ∀ (c : Nat) (k : Int), (c < 88 ∨ 96 < c) → begS (up (up (up (up σ 83 13 1) 83 14 v) 83 15 0) 83 16 0) c k = (up (up (up (up σ 83 13 1) 83 14 v) 83 15 0) 83 16 0) c k := fun c k hc => by unfold begS; simp (disch := omega) only [up_ne]
    refine z_pick [1, 2, 0] rfl (lp_weigh (σ := σ) hO hR hV rv 65537 65536 0 _ (by omega) (by omega) (by omega) (by omega) (rdN_r hV).1 (WI_beg hV) ?_ ?_ ?_ ?_)
    · rw [hbe _ _ (by omega), up_nk (by decide), up_eq]; rfl
    · rw [hbe _ _ (by omega), up_eq]; rfl
    · rw [hbe _ _ (by omega), up_nk (by decide), up_nk (by decide), up_eq]
    · exact ((((Fm.rf.up rfl).up rfl).up rfl).up rfl : Fm fLk σ _).trans ((Fm_beg Fm.rf).mono fWk_Lk)
  ·
    refine z_aload_n hO 0 dX6_weigh_7 rfl ?_
    refine z_getI hO 14 fl_X6_189 rfl rfl rfl dX6_weigh_8 (fun r8 => ?_)
    refine z_iload_n hO 1 dX6_weigh_11 rfl ?_
    refine z_icmp_ne hO 16 dX6_weigh_12 (by decide) (by omega) (by omega) (fun c12 => ?_) (fun c12 => ?_)
    ·
      refine z_aload_n hO 0 dX6_weigh_16 rfl ?_
      refine z_iconst hO dX6_weigh_17 ?_
      refine z_putI hO 13 fp_X6_51 rfl rfl rfl (by omega) (by decide) (by decide) dX6_weigh_18 ?_
      refine z_aload_n hO 0 dX6_weigh_21 rfl ?_
      refine z_iload_n hO 1 dX6_weigh_22 rfl ?_
      refine z_putI hO 14 fp_X6_189 rfl rfl rfl (by omega) rfl rfl dX6_weigh_23 ?_
      refine z_aload_n hO 0 dX6_weigh_26 rfl ?_
      refine z_lconst hO 0 dX6_weigh_27 (by decide) ?_
      refine z_putL hO 15 fp_X6_146 rfl rfl rfl (by omega) dX6_weigh_28 ?_
      refine z_aload_n hO 0 dX6_weigh_31 rfl ?_
      refine z_lconst hO 0 dX6_weigh_32 (by decide) ?_
      refine z_putL hO 16 fp_X6_142 rfl rfl rfl (by omega) dX6_weigh_33 ?_
      refine z_aload_n hO 0 dX6_weigh_36 rfl ?_
      refine z_getR hO (88) fl_X6_40 rfl rfl dX6_weigh_37 ?_
      refine z_cvV hO (t_X7_begin) cv_X6_105 rfl rfl rfl rfl (by decide) (Nat.le_of_ble_eq_true rfl) dX6_weigh_40 (fun s40 p40 => ?_)
      subst p40
      refine z_ldc hO k_X6_108 dX6_weigh_43 ?_
      refine z_istore_n hO (L' := [(2, _), (0, _), (1, _)]) dX6_weigh_45 (by decide) rfl ?_
      have hbe : ∀ (c : Nat) (k : Int), (c < 88 ∨ 96 < c) → begS (up (up (up (up σ 83 13 1) 83 14 v) 83 15 0) 83 16 0) c k = (up (up (up (up σ 83 13 1) 83 14 v) 83 15 0) 83 16 0) c k := fun c k hc => by unfold begS; simp (disch := omega) only [up_ne]
      refine z_pick [1, 2, 0] rfl (lp_weigh (σ := σ) hO hR hV rv 65537 65536 0 _ (by omega) (by omega) (by omega) (by omega) (rdN_r hV).1 (WI_beg hV) ?_ ?_ ?_ ?_)
      · rw [hbe _ _ (by omega), up_nk (by decide), up_eq]; rfl
      · rw [hbe _ _ (by omega), up_eq]; rfl
      · rw [hbe _ _ (by omega), up_nk (by decide), up_nk (by decide), up_eq]
      · exact ((((Fm.rf.up rfl).up rfl).up rfl).up rfl : Fm fLk σ _).trans ((Fm_beg Fm.rf).mono fWk_Lk)
    ·
      exact z_retV hO hR dX6_weigh_15 (by have z := hI.2.2.1 (by omega); rw [c12] at z; exact ⟨z.1, z.2, c12, Fm.rf⟩)

theorem div_half {a b : Int} {l : Nat} (h0 : 0 < b) (h1 : b ≤ a) (h : a * b < 2 ^ (l + 1)) : b * (a % b) < 2 ^ l := by
  have m0 := Int.emod_nonneg a (show b ≠ 0 by omega)
  have m1 := Int.emod_lt_of_pos a h0
  have e : b * (a / b) + a % b = a := by rw [Int.add_comm]; exact Int.emod_add_mul_ediv a b
  have q1 : 1 ≤ a / b := (Int.le_ediv_iff_mul_le h0).mpr (by omega)
  have q2 := Int.mul_le_mul_of_nonneg_left q1 (show 0 ≤ b by omega)
  have q3 : 2 * (a % b) ≤ a := by omega
  have q4 := Int.mul_le_mul_of_nonneg_left q3 (show 0 ≤ b by omega)
  rw [Int.pow_succ] at h
  have q5 : b * (2 * (a % b)) = 2 * (b * (a % b)) := by rw [← Int.mul_assoc, Int.mul_comm b 2, Int.mul_assoc]
  have q6 : b * a = a * b := Int.mul_comm b a
  omega

set_option maxHeartbeats 4000000 in
set_option maxRecDepth 100000 in
theorem lp_divisor {g : G} {x : Cx} {σ : Sg} {a0 b0 : Int} (hO : Ok g x RX6 cX6_divisor 7 1) (hR : Rt g x (some .long) (pL (pE (Int.gcd a0 b0 : Int) σ))) : ∀ (f left : Nat) (a b : Int), left < f → left ≤ 200 → 0 ≤ b → b ≤ a → a ≤ 100000000000000 → a * b < 2 ^ left → (Int.gcd a b : Int) = (Int.gcd a0 b0 : Int) → Z g x 7 5 [(0, vL a), (2, vL b), (4, vI left)] [] σ := by
  intro f
  induction f with
  | zero => intro left a b hl; exact absurd hl (by omega)
  | succ f ih =>
    intro left a b hl hl2 h0 h2 h3 h4 hg
    refine z_iload hO 2 dX6_divisor_5 rfl ?_
    refine z_if_le hO 32 dX6_divisor_7 (by decide) (by omega) (fun c7 => ?_) (fun c7 => ?_)
    ·
      have hb0 : b = 0 := by apply Classical.byContradiction; intro z; have hl0 : left = 0 := (by omega); subst hl0; have := Int.mul_pos (show 0 < a by omega) (show 0 < b by omega); rw [Int.pow_zero] at h4; omega
      refine z_lload_n hO 0 dX6_divisor_32 rfl ?_
      exact z_retEL hO hR dX6_divisor_33 (by obtain rfl : b = 0 := (by omega); rw [← hg, Int.gcd_zero_right]; omega) rfl
    ·
      obtain ⟨l, rfl⟩ : ∃ l : Nat, left = l + 1 := ⟨left - 1, by omega⟩
      refine z_lload_n hO 1 dX6_divisor_10 rfl ?_
      refine z_lconst hO 0 dX6_divisor_11 (by decide) ?_
      refine z_lcmp hO dX6_divisor_12 (by omega) (by omega) (fun c12 => ?_) (fun c12 => ?_) (fun c12 => ?_)
      ·
        refine z_if_eq hO 32 dX6_divisor_13 (by decide) (by decide) (fun c13 => absurd c13 (by omega)) (fun c13 => ?_)
        refine z_lload_n hO 0 dX6_divisor_16 rfl ?_
        refine z_lload_n hO 1 dX6_divisor_17 rfl ?_
        refine z_lrem hO dX6_divisor_18 (by omega) (by omega) ?_
        have hm0 := Int.emod_nonneg a (show b ≠ 0 by omega)
        have hm1 := Int.emod_lt_of_pos a (show 0 < b by omega)
        have hh := div_half (show 0 < b by omega) h2 h4
        refine z_lstore hO (L' := [(5, _), (0, _), (2, _), (4, _)]) dX6_divisor_19 (by decide) rfl ?_
        refine z_lload_n hO 2 dX6_divisor_21 rfl ?_
        refine z_lstore_n hO (L' := [(0, _), (5, _), (2, _), (4, _)]) dX6_divisor_22 (by decide) rfl ?_
        refine z_lload hO 1 dX6_divisor_23 rfl ?_
        refine z_lstore_n hO (L' := [(2, _), (0, _), (5, _), (4, _)]) dX6_divisor_25 (by decide) rfl ?_
        refine z_iinc hO (L' := [(4, _), (2, _), (0, _), (5, _)]) 3 dX6_divisor_26 rfl (by decide) rfl ?_
        refine z_goto hO 5 dX6_divisor_29 (by decide) ?_
        exact z_pick [2, 1, 0] rfl (by have e : (((l + 1 : Nat) : Int) + -1) = (l : Int) := (by omega); rw [e]; exact ih l _ _ (by omega) (by omega) (by omega) (by omega) (by omega) hh (by rw [← hg, gcd_step (a := a) (b := b) (by omega) (by omega)]))
      ·
        refine z_if_eq hO 32 dX6_divisor_13 (by decide) (by decide) (fun c13 => ?_) (fun c13 => absurd c13 (by omega))
        refine z_lload_n hO 0 dX6_divisor_32 rfl ?_
        exact z_retEL hO hR dX6_divisor_33 (by obtain rfl : b = 0 := (by omega); rw [← hg, Int.gcd_zero_right]; omega) rfl
      ·
        exfalso; omega

set_option maxHeartbeats 4000000 in
set_option maxRecDepth 100000 in
theorem t_X6_divisor {g : G} {σ : Sg} {a b : Int} (h0 : 0 ≤ b) (h1 : b ≤ a) (h2 : a ≤ 100000000000000) : MM g mX6_divisor [vL a, vL b] σ (pL (pE ((Int.gcd a b : Int)) σ)) := by
  refine mm_of rfl (by decide) rfl rfl (Nat.le_of_ble_eq_true rfl) (fun x hO hR => ?_)
  refine z_sipush hO dX6_divisor_0 (by decide) ?_
  refine z_istore hO (L' := [(4, _), (0, _), (2, _)]) dX6_divisor_3 (by decide) rfl ?_
  exact z_pick [1, 2, 0] rfl (lp_divisor hO hR 201 200 a b (by omega) (by omega) h0 h1 h2 (by have m := Int.mul_le_mul h2 (Int.le_trans h1 h2) h0 (by decide); have : (100000000000000 * 100000000000000 : Int) < 2 ^ 200 := (by decide); omega) rfl)

set_option maxHeartbeats 4000000 in
set_option maxRecDepth 100000 in
theorem t_X6_likelihood {g : G} {σ : Sg} {v bz : Int} (rv : -2147483648 ≤ v ∧ v ≤ 2147483647) (hb : bz = 0 ∨ bz = 1) (hV : WV (cv σ 1)) (hI : SI σ) : MM g mX6_likelihood [.ref (g.2.2.1 83), vI v, vI bz] σ (pL (fun r σ' => r = likF (cv σ 1) (σ 1 4) v bz ∧ SI σ' ∧ Fm fSv σ σ')) := by
  refine mm_of rfl (by decide) rfl rfl (Nat.le_of_ble_eq_true rfl) (fun x hO hR => ?_)
  refine z_aload_n hO 0 dX6_likelihood_0 rfl ?_
  refine z_iload_n hO 1 dX6_likelihood_1 rfl ?_
  refine z_cvV hO (t_X6_weigh (by omega) hV hI) cv_X6_138 rfl rfl rfl rfl (by decide) (Nat.le_of_ble_eq_true rfl) dX6_likelihood_2 (fun s2 p2 => ?_)
  have hSI := SI_Lk hI p2
  obtain ⟨a1, a2, a3, a4⟩ := p2
  have hwr := w_r hV (σ 1 4) v (rdN (cv σ 1)).toNat
  have hrd := rdN_r hV
  have hgp : wAll (cv σ 1) (σ 1 4) (rdN (cv σ 1)).toNat ≠ 0 → 0 < (Int.gcd (wAll (cv σ 1) (σ 1 4) (rdN (cv σ 1)).toNat) (wOne (cv σ 1) (σ 1 4) v (rdN (cv σ 1)).toNat) : Int) := fun z => by have := Int.gcd_pos_of_ne_zero_left (wOne (cv σ 1) (σ 1 4) v (rdN (cv σ 1)).toNat) z; omega
  have hgr : (Int.gcd (wAll (cv σ 1) (σ 1 4) (rdN (cv σ 1)).toNat) (wOne (cv σ 1) (σ 1 4) v (rdN (cv σ 1)).toNat) : Int) ≤ 9223372036854775807 := by
      by_cases z : wAll (cv σ 1) (σ 1 4) (rdN (cv σ 1)).toNat = 0
      · rw [z, Int.gcd_zero_left]; omega
      · have := Int.gcd_le_left (b := wOne (cv σ 1) (σ 1 4) v (rdN (cv σ 1)).toNat) (show 0 < wAll (cv σ 1) (σ 1 4) (rdN (cv σ 1)).toNat by omega); omega
  refine z_aload_n hO 0 dX6_likelihood_5 rfl ?_
  refine z_getL hO 16 fl_X6_142 rfl rfl rfl dX6_likelihood_6 (fun r6 => ?_)
  try simp only [fl_row_ne, fl_ne, up_row_ne, up_ne, up_eq, up_nk, up_up, up_self, ne_eq, Nat.reduceEqDiff, Int.reduceEq, reduceCtorEq, not_false_eq_true, not_true_eq_false, a1, a2] at r6 ⊢
  refine z_aload_n hO 0 dX6_likelihood_9 rfl ?_
  refine z_getL hO 15 fl_X6_146 rfl rfl rfl dX6_likelihood_10 (fun r10 => ?_)
  try simp only [fl_row_ne, fl_ne, up_row_ne, up_ne, up_eq, up_nk, up_up, up_self, ne_eq, Nat.reduceEqDiff, Int.reduceEq, reduceCtorEq, not_false_eq_true, not_true_eq_false, a1, a2] at r10 ⊢
  refine z_csEL hO (t_X6_divisor (by omega) (by omega) (by omega)) cs_X6_149 rfl rfl (by decide) (Nat.le_of_ble_eq_true rfl) dX6_likelihood_13 ?_
  try simp only [fl_row_ne, fl_ne, up_row_ne, up_ne, up_eq, up_nk, up_up, up_self, ne_eq, Nat.reduceEqDiff, Int.reduceEq, reduceCtorEq, not_false_eq_true, not_true_eq_false, a1, a2]
  refine z_lstore_n hO (L' := [(3, _), (0, _), (1, _), (2, _)]) dX6_likelihood_16 (by decide) rfl ?_
  refine z_aload_n hO 1 dX6_likelihood_17 rfl ?_
  refine z_getL hO 16 fl_X6_142 rfl rfl rfl dX6_likelihood_18 (fun r18 => ?_)
  try simp only [fl_row_ne, fl_ne, up_row_ne, up_ne, up_eq, up_nk, up_up, up_self, ne_eq, Nat.reduceEqDiff, Int.reduceEq, reduceCtorEq, not_false_eq_true, not_true_eq_false, a1, a2] at r18 ⊢
  refine z_lconst hO 0 dX6_likelihood_21 (by decide) ?_
  refine z_lcmp hO dX6_likelihood_22 (by omega) (by omega) (fun c22 => ?_) (fun c22 => ?_) (fun c22 => ?_)
  ·
    refine z_if_eq hO 32 dX6_likelihood_23 (by decide) (by decide) (fun c23 => absurd c23 (by omega)) (fun c23 => ?_)
    refine z_lload_n hO 0 dX6_likelihood_26 rfl ?_
    refine z_lconst hO 0 dX6_likelihood_27 (by decide) ?_
    refine z_lcmp hO dX6_likelihood_28 (by omega) (by omega) (fun c28 => ?_) (fun c28 => ?_) (fun c28 => ?_)
    ·
      refine z_if_ne hO 36 dX6_likelihood_29 (by decide) (by decide) (fun c29 => ?_) (fun c29 => absurd c29 (by omega))
      refine z_iload_n hO 3 dX6_likelihood_36 rfl ?_
      refine z_if_eq hO 47 dX6_likelihood_37 (by decide) (by omega) (fun c37 => ?_) (fun c37 => ?_)
      ·
        have hz0 : bz = 0 := by omega
        refine z_aload_n hO 1 dX6_likelihood_47 rfl ?_
        refine z_getL hO 15 fl_X6_146 rfl rfl rfl dX6_likelihood_48 (fun r48 => ?_)
        try simp only [fl_row_ne, fl_ne, up_row_ne, up_ne, up_eq, up_nk, up_up, up_self, ne_eq, Nat.reduceEqDiff, Int.reduceEq, reduceCtorEq, not_false_eq_true, not_true_eq_false, a1, a2] at r48 ⊢
        refine z_lload_n hO 0 dX6_likelihood_51 rfl ?_
        refine z_ldiv hO dX6_likelihood_52 (by omega) (by omega) ?_
        exact z_retL hO hR dX6_likelihood_53 (⟨by unfold likF lowT; rw [if_neg (by omega), Int.gcd_comm]; first | rw [if_pos hz0] | rw [if_neg hz0], hSI, a4.mono fLk_Sv⟩)
      ·
        have hz0 : ¬ bz = 0 := by omega
        refine z_aload_n hO 1 dX6_likelihood_40 rfl ?_
        refine z_getL hO 16 fl_X6_142 rfl rfl rfl dX6_likelihood_41 (fun r41 => ?_)
        try simp only [fl_row_ne, fl_ne, up_row_ne, up_ne, up_eq, up_nk, up_up, up_self, ne_eq, Nat.reduceEqDiff, Int.reduceEq, reduceCtorEq, not_false_eq_true, not_true_eq_false, a1, a2] at r41 ⊢
        refine z_goto hO 51 dX6_likelihood_44 (by decide) ?_
        refine z_lload_n hO 0 dX6_likelihood_51 rfl ?_
        refine z_ldiv hO dX6_likelihood_52 (by omega) (by omega) ?_
        exact z_retL hO hR dX6_likelihood_53 (⟨by unfold likF lowT; rw [if_neg (by omega), Int.gcd_comm]; first | rw [if_pos hz0] | rw [if_neg hz0], hSI, a4.mono fLk_Sv⟩)
    ·
      refine z_if_ne hO 36 dX6_likelihood_29 (by decide) (by decide) (fun c29 => absurd c29 (by omega)) (fun c29 => ?_)
      refine z_ldc2 hO k_X6_153 dX6_likelihood_32 ?_
      exact z_retL hO hR dX6_likelihood_35 (⟨by unfold likF; rw [if_pos (by omega)], hSI, a4.mono fLk_Sv⟩)
    ·
      refine z_if_ne hO 36 dX6_likelihood_29 (by decide) (by decide) (fun c29 => ?_) (fun c29 => absurd c29 (by omega))
      refine z_iload_n hO 3 dX6_likelihood_36 rfl ?_
      refine z_if_eq hO 47 dX6_likelihood_37 (by decide) (by omega) (fun c37 => ?_) (fun c37 => ?_)
      ·
        have hz0 : bz = 0 := by omega
        refine z_aload_n hO 1 dX6_likelihood_47 rfl ?_
        refine z_getL hO 15 fl_X6_146 rfl rfl rfl dX6_likelihood_48 (fun r48 => ?_)
        try simp only [fl_row_ne, fl_ne, up_row_ne, up_ne, up_eq, up_nk, up_up, up_self, ne_eq, Nat.reduceEqDiff, Int.reduceEq, reduceCtorEq, not_false_eq_true, not_true_eq_false, a1, a2] at r48 ⊢
        refine z_lload_n hO 0 dX6_likelihood_51 rfl ?_
        refine z_ldiv hO dX6_likelihood_52 (by omega) (by omega) ?_
        exact z_retL hO hR dX6_likelihood_53 (⟨by unfold likF lowT; rw [if_neg (by omega), Int.gcd_comm]; first | rw [if_pos hz0] | rw [if_neg hz0], hSI, a4.mono fLk_Sv⟩)
      ·
        have hz0 : ¬ bz = 0 := by omega
        refine z_aload_n hO 1 dX6_likelihood_40 rfl ?_
        refine z_getL hO 16 fl_X6_142 rfl rfl rfl dX6_likelihood_41 (fun r41 => ?_)
        try simp only [fl_row_ne, fl_ne, up_row_ne, up_ne, up_eq, up_nk, up_up, up_self, ne_eq, Nat.reduceEqDiff, Int.reduceEq, reduceCtorEq, not_false_eq_true, not_true_eq_false, a1, a2] at r41 ⊢
        refine z_goto hO 51 dX6_likelihood_44 (by decide) ?_
        refine z_lload_n hO 0 dX6_likelihood_51 rfl ?_
        refine z_ldiv hO dX6_likelihood_52 (by omega) (by omega) ?_
        exact z_retL hO hR dX6_likelihood_53 (⟨by unfold likF lowT; rw [if_neg (by omega), Int.gcd_comm]; first | rw [if_pos hz0] | rw [if_neg hz0], hSI, a4.mono fLk_Sv⟩)
  ·
    refine z_if_eq hO 32 dX6_likelihood_23 (by decide) (by decide) (fun c23 => ?_) (fun c23 => absurd c23 (by omega))
    refine z_ldc2 hO k_X6_153 dX6_likelihood_32 ?_
    exact z_retL hO hR dX6_likelihood_35 (⟨by unfold likF; rw [if_pos (by omega)], hSI, a4.mono fLk_Sv⟩)
  ·
    exfalso; omega
