theorem WI_congr {V : Hv} {τ τ' : Sg} {r : Int} (h : WI V τ r) (e : ∀ c : Nat, 88 ≤ c → c ≤ 96 → τ' c = τ c) : WI V τ' r := by
  obtain ⟨a, b, c, d⟩ := h
  have e8 : τ' 88 8 = τ 88 8 := by rw [e 88 (by decide) (by decide)]
  have e89 : τ' 89 = τ 89 := e 89 (by decide) (by decide)
  refine ⟨by rw [e8]; exact a, ?_, ?_, ?_⟩
  · rw [e8]
    by_cases z : 0 ≤ τ 88 8
    · exact WD_keep b (Int.le_refl _) (fun j _ _ => by rw [e89]) (fun c j c0 c1 _ _ => by rw [e c (by omega) (by omega)]) (fun j _ _ => by rw [e 96 (by decide) (by decide)])
    · exact ⟨fun j j0 j1 => absurd j1 (by omega), fun j j1 => absurd j1 (by omega)⟩
  · rw [e8, e89]; exact c
  · rw [e8, d]; exact (psn_congr (τ := τ) (τ' := τ') (fun j _ _ _ => by rw [e89]) a.2).symm
theorem bk_1 {V : Hv} {K : Int} {n : Nat} {τ : Sg} (hB : bkQ V K n τ) (hs : said V n = true) (hn : snd V K n = false) : bkQ V K (n + 1) (up τ 83 4 (τ 83 4 + 1)) := by
  obtain ⟨a, b, c⟩ := hB
  refine ⟨by rw [up_eq, a, nSaid_t hs], by rw [up_nk (by decide), b, nSnd_f hn], ?_⟩
  rw [bst_n hn]; intro z
  obtain ⟨c1, c2, c3, c4⟩ := c z
  exact ⟨by rw [up_nk (by decide)]; exact c1, by rw [up_nk (by decide)]; exact c2, rowIs_keep c3 (fun j _ _ => up_ne (by decide)), fun e e0 e1 => by rw [up_ne (by decide)]; exact c4 e e0 e1⟩
theorem bk_2 {V : Hv} (hV : WV V) {K : Int} {n : Nat} {τ : Sg} (hB : bkQ V K n τ) (hs : said V n = true) (hn : snd V K n = true) (h0 : τ 83 5 + 1 ≠ 1) (hc : τ 83 6 ≤ cst V n) : bkQ V K (n + 1) (up (up τ 83 4 (τ 83 4 + 1)) 83 5 (τ 83 5 + 1)) := by
  obtain ⟨a, b, c⟩ := hB
  have hz : (bst V K n).1 ≠ -4 := fun z => by have := (bst_0 hV K n).mp z; omega
  obtain ⟨c1, c2, c3, c4⟩ := c hz
  refine ⟨by rw [up_nk (by decide), up_eq, a, nSaid_t hs], by rw [up_eq, b, nSnd_t hn], ?_⟩
  rw [bst_f (by omega)]; intro z
  exact ⟨by rw [up_nk (by decide), up_nk (by decide)]; exact c1, by rw [up_nk (by decide), up_nk (by decide)]; exact c2, rowIs_keep c3 (fun j _ _ => by rw [up_ne (by decide), up_ne (by decide)]), fun e e0 e1 => by rw [up_ne (by decide), up_ne (by decide)]; exact c4 e e0 e1⟩
def kpQ (σ σ' : Sg) : Prop := σ' 83 6 = σ 88 11 ∧ σ' 83 7 = σ 88 10 ∧ (∀ j : Int, 0 ≤ j → j < 4 → σ' 84 j = σ 96 j) ∧ (∀ e : Int, 0 ≤ e → e < σ 1 3 → σ' 85 e = σ 89 e - 1) ∧ Fm fKB σ σ'
theorem bk_3 {V : Hv} (hV : WV V) {K : Int} {n : Nat} {τ τ' : Sg} (hB : bkQ V K n τ) (hs : said V n = true) (hn : snd V K n = true) (hF : Fnd V n τ) (h0 : τ 83 5 + 1 = 1 ∨ cst V n < τ 83 6) (hv : V.1 = τ 1 3) (p : kpQ (up (up τ 83 4 (τ 83 4 + 1)) 83 5 (τ 83 5 + 1)) τ') : bkQ V K (n + 1) τ' := by
  obtain ⟨a, b, c⟩ := hB
  obtain ⟨p1, p2, p3, p4, p5⟩ := p
  have hr := said_r hV hs
  have hc := cst_r hV n
  have hb : cst V n < (bst V K n).2 := by
    rcases bst_r hV K n with q | q
    · rw [q.2]; omega
    · have hz : (bst V K n).1 ≠ -4 := by omega
      rcases h0 with h0 | h0
      · exact absurd ((bst_0 hV K n).mpr (by omega)) hz
      · rw [← (c hz).1]; exact h0
  refine ⟨?_, ?_, ?_⟩
  · rw [p5 83 4 rfl, up_nk (by decide), up_eq, a, nSaid_t hs]
  · rw [p5 83 5 rfl, up_eq, b, nSnd_t hn]
  · rw [bst_t hn hb]; intro _
    refine ⟨?_, ?_, ?_, ?_⟩
    · rw [p1, up_ne (by decide), up_ne (by decide)]; exact hF.2.2.1
    · rw [p2, up_ne (by decide), up_ne (by decide)]; exact hF.2.1
    · refine rowIs_keep hF.1 (fun j j0 j1 => ?_)
      simp only at j1
      rw [p3 j j0 (by omega), up_ne (by decide), up_ne (by decide)]
    · intro e e0 e1
      rw [p4 e e0 (by rw [up_ne (by decide), up_ne (by decide)]; omega), up_ne (by decide), up_ne (by decide)]; exact hF.2.2.2.2 e e0 e1
theorem Fnd_89 {V : Hv} (hV : WV V) {r : Int} {τ : Sg} (hF : Fnd V r τ) : ∀ e : Int, 0 ≤ e → e < V.1 → 1 ≤ τ 89 e ∧ τ 89 e ≤ 4 := by
  intro e e0 e1
  have a := hF.2.2.2.2 e e0 e1
  have b := pk_WP hV r e e0 e1
  have c := hV.2.2 e e0 e1
  omega
theorem rd_pq {V : Hv} (hV : WV V) : rdN V ≤ pq V V.1.toNat := by
  have := pq_r hV V.1.toNat (by have := hV.1; omega)
  unfold rdN; split <;> omega

set_option maxHeartbeats 4000000 in
set_option maxRecDepth 100000 in
theorem lp_findBest {g : G} {x : Cx} {σ : Sg} (hO : Ok g x RX6 cX6_findBest 2 4) (hR : Rt g x none (pV (fun σ' => bkQ (cv σ 1) (σ 1 4) (rdN (cv σ 1)).toNat σ' ∧ σ' 83 3 ≠ 0 ∧ Fm fFB σ σ'))) (hV : WV (cv σ 1)) : ∀ (f : Nat) (left : Int) (r : Nat) (τ : Sg), left < f → 0 ≤ left → left ≤ 65536 → 65536 ≤ left + r → (r : Int) ≤ rdN (cv σ 1) → WI (cv σ 1) τ r → bkQ (cv σ 1) (σ 1 4) r τ → τ 83 3 = 1 → Fm fFB σ τ → Z g x 2 33 [(0, .ref (g.2.2.1 83)), (1, vI left)] [] τ := by
  intro f
  induction f with
  | zero => intro left r τ hl h0; exact absurd hl (by omega)
  | succ f ih =>
    intro left r τ hl h0 hl2 hlr hr hW hB h3 hFm
    have e1 : τ 1 = σ 1 := hFm.row 1 (fun _ => rfl)
    have e2 : τ 2 = σ 2 := hFm.row 2 (fun _ => rfl)
    have e3 : τ 3 = σ 3 := hFm.row 3 (fun _ => rfl)
    have e4 : τ 4 = σ 4 := hFm.row 4 (fun _ => rfl)
    have eV : cv τ 1 = cv σ 1 := cv_eq e1 e2 e3 e4
    refine z_iload_n hO 1 dX6_findBest_33 rfl ?_
    refine z_if_le hO 106 dX6_findBest_34 (by decide) (by omega) (fun c34 => ?_) (fun c34 => ?_)
    ·
      have hrN : r = (rdN (cv σ 1)).toNat := by have := rdN_r hV; omega
      exact z_retV hO hR dX6_findBest_106 (by first | exact ⟨by rw [← hrN]; exact hB, by rw [h3]; decide, hFm⟩ | exact ⟨hBn, by rw [p41.2 83 3 rfl, h3]; decide, (hFm.trans (p41.2.mono fWk_FB))⟩)
    ·
      refine z_aload_n hO 0 dX6_findBest_37 rfl ?_
      refine z_getR hO (88) fl_X6_40 rfl rfl dX6_findBest_38 ?_
      refine z_cvB hO (t_X7_step (r := r) (by rw [eV]; exact hV) (by rw [eV]; exact hW)) cv_X6_109 rfl rfl rfl rfl (by decide) (Nat.le_of_ble_eq_true rfl) dX6_findBest_41 (fun s41 p41 => ?_) (fun s41 p41 => ?_)
      ·
        rw [eV] at p41
        obtain ⟨q0, ⟨hq0, hq1⟩, hq2, hq3, hq4, hq5⟩ := p41.1.1 rfl
        obtain ⟨n, rfl⟩ : ∃ n : Nat, q0 = n := ⟨q0.toNat, by omega⟩
        have u1 : s41 1 = σ 1 := ((p41.2).row 1 (fun _ => rfl)).trans e1
        have hBn : bkQ (cv σ 1) (σ 1 4) n s41 := bkQ_keep (bkQ_skip (b := n) (by omega) hq2 hB) (fun k _ _ => p41.2 83 k rfl) ((p41.2).row 84 (fun _ => rfl)) ((p41.2).row 85 (fun _ => rfl))
        have hk3 : s41 83 3 = 1 := (p41.2 83 3 rfl).trans h3
        have hrd := rdN_r hV
        have hns := nSaid_r (cv σ 1) n
        have hnn := nSnd_r (cv σ 1) (σ 1 4) n
        have hb1 := hBn.1
        have hb2 := hBn.2.1
        have hF1 : Fm fFB σ s41 := (hFm.trans (p41.2.mono fWk_FB))
        refine z_if_eq hO 106 dX6_findBest_44 (by decide) (by decide) (fun c44 => absurd c44 (by omega)) (fun c44 => ?_)
        refine z_aload_n hO 0 dX6_findBest_47 rfl ?_
        refine z_dup hO dX6_findBest_48 rfl ?_
        refine z_getI hO 4 fl_X6_57 rfl rfl rfl dX6_findBest_49 (fun r49 => ?_)
        try simp (disch := omega) only [fl_row_ne, fl_ne, up_row_ne, up_ne, up_eq, up_nk, up_up, up_self, ne_eq, Nat.reduceEqDiff, Int.reduceEq, reduceCtorEq, not_false_eq_true, not_true_eq_false, u1] at r49 ⊢
        refine z_iconst hO dX6_findBest_52 ?_
        refine z_iadd hO dX6_findBest_53 ?_
        refine z_putI hO 4 fp_X6_57 rfl rfl rfl (by omega) rfl rfl dX6_findBest_54 ?_
        refine z_aload_n hO 0 dX6_findBest_57 rfl ?_
        refine z_cvQ hO (t_X6_isSound (by simp only [fl_row_ne, fl_ne, up_row_ne, up_ne, up_eq, up_nk, up_up, up_self, ne_eq, Nat.reduceEqDiff, Int.reduceEq, reduceCtorEq, not_false_eq_true, not_true_eq_false]; exact Fnd_NR hV hq3 hq4)) cv_X6_135 rfl rfl rfl rfl (by decide) (Nat.le_of_ble_eq_true rfl) dX6_findBest_58 (fun c58 => ?_) (fun c58 => ?_)
        ·
          try simp (disch := omega) only [fl_row_ne, fl_ne, up_row_ne, up_ne, up_eq, up_nk, up_up, up_self, ne_eq, Nat.reduceEqDiff, Int.reduceEq, reduceCtorEq, not_false_eq_true, not_true_eq_false, u1] at c58 ⊢
          have hsn := (Fnd_snd hV hq3 hq4).mp c58
          have hr5 := cst_r hV n
          have hcw := hq4.2.2.1
          refine z_if_eq hO 100 dX6_findBest_61 (by decide) (by decide) (fun c61 => absurd c61 (by omega)) (fun c61 => ?_)
          refine z_aload_n hO 0 dX6_findBest_64 rfl ?_
          refine z_dup hO dX6_findBest_65 rfl ?_
          refine z_getI hO 5 fl_X6_61 rfl rfl rfl dX6_findBest_66 (fun r66 => ?_)
          try simp (disch := omega) only [fl_row_ne, fl_ne, up_row_ne, up_ne, up_eq, up_nk, up_up, up_self, ne_eq, Nat.reduceEqDiff, Int.reduceEq, reduceCtorEq, not_false_eq_true, not_true_eq_false, u1] at r66 ⊢
          refine z_iconst hO dX6_findBest_69 ?_
          refine z_iadd hO dX6_findBest_70 ?_
          refine z_putI hO 5 fp_X6_61 rfl rfl rfl (by omega) rfl rfl dX6_findBest_71 ?_
          refine z_aload_n hO 0 dX6_findBest_74 rfl ?_
          refine z_getI hO 5 fl_X6_61 rfl rfl rfl dX6_findBest_75 (fun r75 => ?_)
          try simp (disch := omega) only [fl_row_ne, fl_ne, up_row_ne, up_ne, up_eq, up_nk, up_up, up_self, ne_eq, Nat.reduceEqDiff, Int.reduceEq, reduceCtorEq, not_false_eq_true, not_true_eq_false, u1] at r75 ⊢
          refine z_iconst hO dX6_findBest_78 ?_
          refine z_icmp_eq hO 96 dX6_findBest_79 (by decide) (by omega) (by decide) (fun c79 => ?_) (fun c79 => ?_)
          ·
            have hkk : s41 83 5 + 1 = 1 ∨ cst (cv σ 1) n < s41 83 6 := Or.inl c79
            refine z_aload_n hO 0 dX6_findBest_96 rfl ?_
            refine z_cvV hO (t_X6_keepBest (by simp only [fl_row_ne, fl_ne, up_row_ne, up_ne, up_eq, up_nk, up_up, up_self, ne_eq, Nat.reduceEqDiff, Int.reduceEq, reduceCtorEq, not_false_eq_true, not_true_eq_false, u1]; exact ⟨hV.1, hV.2.1⟩) (by intro e e0 e1; simp only [fl_row_ne, fl_ne, up_row_ne, up_ne, up_eq, up_nk, up_up, up_self, ne_eq, Nat.reduceEqDiff, Int.reduceEq, reduceCtorEq, not_false_eq_true, not_true_eq_false, u1] at e1 ⊢; exact Fnd_89 hV hq4 e e0 e1)) cv_X6_173 rfl rfl rfl rfl (by decide) (Nat.le_of_ble_eq_true rfl) dX6_findBest_97 (fun s97 p97 => ?_)
            have hB2 : bkQ (cv σ 1) (σ 1 4) (n + 1) s97 := bk_3 hV hBn hq3 hsn hq4 hkk (by rw [u1]; rfl) p97
            have hF2 : Fm fFB σ s97 := ((hF1.up rfl).up rfl).trans (p97.2.2.2.2.mono fKB_FB)
            have hW2 : WI (cv σ 1) s97 ((n + 1 : Nat) : Int) := WI_congr hq5 (fun c c0 c1 => by funext k; rw [p97.2.2.2.2 c k (by unfold fKB; simp; omega), up_ne (by omega), up_ne (by omega)])
            have h32 : s97 83 3 = 1 := by rw [p97.2.2.2.2 83 3 rfl, up_nk (by decide), up_nk (by decide)]; exact hk3
            refine z_iinc hO (L' := [(1, _), (0, _)]) 1 dX6_findBest_100 rfl (by decide) rfl ?_
            refine z_goto hO 33 dX6_findBest_103 (by decide) ?_
            exact z_pick [1, 0] rfl (ih _ (n + 1) _ (by omega) (by omega) (by omega) (by omega) (by omega) hW2 hB2 h32 hF2)
          ·
            refine z_aload_n hO 0 dX6_findBest_82 rfl ?_
            refine z_getR hO (88) fl_X6_40 rfl rfl dX6_findBest_83 ?_
            refine z_getI hO 11 fl_X6_120 rfl rfl rfl dX6_findBest_86 (fun r86 => ?_)
            try simp (disch := omega) only [fl_row_ne, fl_ne, up_row_ne, up_ne, up_eq, up_nk, up_up, up_self, ne_eq, Nat.reduceEqDiff, Int.reduceEq, reduceCtorEq, not_false_eq_true, not_true_eq_false, u1] at r86 ⊢
            refine z_aload_n hO 0 dX6_findBest_89 rfl ?_
            refine z_getI hO 6 fl_X6_64 rfl rfl rfl dX6_findBest_90 (fun r90 => ?_)
            try simp (disch := omega) only [fl_row_ne, fl_ne, up_row_ne, up_ne, up_eq, up_nk, up_up, up_self, ne_eq, Nat.reduceEqDiff, Int.reduceEq, reduceCtorEq, not_false_eq_true, not_true_eq_false, u1] at r90 ⊢
            refine z_icmp_ge hO 100 dX6_findBest_93 (by decide) (by omega) (by omega) (fun c93 => ?_) (fun c93 => ?_)
            ·
              have hB2 : bkQ (cv σ 1) (σ 1 4) (n + 1) (up (up s41 83 4 (s41 83 4 + 1)) 83 5 (s41 83 5 + 1)) := bk_2 hV hBn hq3 hsn c79 (by omega)
              have hF2 : Fm fFB σ (up (up s41 83 4 (s41 83 4 + 1)) 83 5 (s41 83 5 + 1)) := (hF1.up rfl).up rfl
              have hW2 : WI (cv σ 1) (up (up s41 83 4 (s41 83 4 + 1)) 83 5 (s41 83 5 + 1)) ((n + 1 : Nat) : Int) := WI_congr hq5 (fun c _ _ => by funext k; rw [up_ne (by omega), up_ne (by omega)])
              have h32 : (up (up s41 83 4 (s41 83 4 + 1)) 83 5 (s41 83 5 + 1)) 83 3 = 1 := by rw [up_nk (by decide), up_nk (by decide)]; exact hk3
              refine z_iinc hO (L' := [(1, _), (0, _)]) 1 dX6_findBest_100 rfl (by decide) rfl ?_
              refine z_goto hO 33 dX6_findBest_103 (by decide) ?_
              exact z_pick [1, 0] rfl (ih _ (n + 1) _ (by omega) (by omega) (by omega) (by omega) (by omega) hW2 hB2 h32 hF2)
            ·
              have hkk : s41 83 5 + 1 = 1 ∨ cst (cv σ 1) n < s41 83 6 := Or.inr (by omega)
              refine z_aload_n hO 0 dX6_findBest_96 rfl ?_
              refine z_cvV hO (t_X6_keepBest (by simp only [fl_row_ne, fl_ne, up_row_ne, up_ne, up_eq, up_nk, up_up, up_self, ne_eq, Nat.reduceEqDiff, Int.reduceEq, reduceCtorEq, not_false_eq_true, not_true_eq_false, u1]; exact ⟨hV.1, hV.2.1⟩) (by intro e e0 e1; simp only [fl_row_ne, fl_ne, up_row_ne, up_ne, up_eq, up_nk, up_up, up_self, ne_eq, Nat.reduceEqDiff, Int.reduceEq, reduceCtorEq, not_false_eq_true, not_true_eq_false, u1] at e1 ⊢; exact Fnd_89 hV hq4 e e0 e1)) cv_X6_173 rfl rfl rfl rfl (by decide) (Nat.le_of_ble_eq_true rfl) dX6_findBest_97 (fun s97 p97 => ?_)
              have hB2 : bkQ (cv σ 1) (σ 1 4) (n + 1) s97 := bk_3 hV hBn hq3 hsn hq4 hkk (by rw [u1]; rfl) p97
              have hF2 : Fm fFB σ s97 := ((hF1.up rfl).up rfl).trans (p97.2.2.2.2.mono fKB_FB)
              have hW2 : WI (cv σ 1) s97 ((n + 1 : Nat) : Int) := WI_congr hq5 (fun c c0 c1 => by funext k; rw [p97.2.2.2.2 c k (by unfold fKB; simp; omega), up_ne (by omega), up_ne (by omega)])
              have h32 : s97 83 3 = 1 := by rw [p97.2.2.2.2 83 3 rfl, up_nk (by decide), up_nk (by decide)]; exact hk3
              refine z_iinc hO (L' := [(1, _), (0, _)]) 1 dX6_findBest_100 rfl (by decide) rfl ?_
              refine z_goto hO 33 dX6_findBest_103 (by decide) ?_
              exact z_pick [1, 0] rfl (ih _ (n + 1) _ (by omega) (by omega) (by omega) (by omega) (by omega) hW2 hB2 h32 hF2)
        ·
          try simp (disch := omega) only [fl_row_ne, fl_ne, up_row_ne, up_ne, up_eq, up_nk, up_up, up_self, ne_eq, Nat.reduceEqDiff, Int.reduceEq, reduceCtorEq, not_false_eq_true, not_true_eq_false, u1] at c58 ⊢
          have hsn : snd (cv σ 1) (σ 1 4) n = false := Bool.not_eq_true _ ▸ (fun z => c58 ((Fnd_snd hV hq3 hq4).mpr z))
          have hB2 : bkQ (cv σ 1) (σ 1 4) (n + 1) (up s41 83 4 (s41 83 4 + 1)) := bk_1 hBn hq3 hsn
          have hF2 : Fm fFB σ (up s41 83 4 (s41 83 4 + 1)) := hF1.up rfl
          have hW2 : WI (cv σ 1) (up s41 83 4 (s41 83 4 + 1)) ((n + 1 : Nat) : Int) := WI_congr hq5 (fun c _ _ => by funext k; rw [up_ne (by omega)])
          have h32 : (up s41 83 4 (s41 83 4 + 1)) 83 3 = 1 := by rw [up_nk (by decide)]; exact hk3
          refine z_if_eq hO 100 dX6_findBest_61 (by decide) (by decide) (fun c61 => ?_) (fun c61 => absurd c61 (by omega))
          refine z_iinc hO (L' := [(1, _), (0, _)]) 1 dX6_findBest_100 rfl (by decide) rfl ?_
          refine z_goto hO 33 dX6_findBest_103 (by decide) ?_
          exact z_pick [1, 0] rfl (ih _ (n + 1) _ (by omega) (by omega) (by omega) (by omega) (by omega) hW2 hB2 h32 hF2)
      ·
        rw [eV] at p41
        have hz := p41.1.2 rfl
        have hBn : bkQ (cv σ 1) (σ 1 4) (rdN (cv σ 1)).toNat s41 := bkQ_keep (bkQ_skip (b := (rdN (cv σ 1)).toNat) (by omega) (fun y y0 y1 => hz y y0 (by have := rd_pq hV; omega)) hB) (fun k _ _ => p41.2 83 k rfl) ((p41.2).row 84 (fun _ => rfl)) ((p41.2).row 85 (fun _ => rfl))
        refine z_if_eq hO 106 dX6_findBest_44 (by decide) (by decide) (fun c44 => ?_) (fun c44 => absurd c44 (by omega))
        exact z_retV hO hR dX6_findBest_106 (by first | exact ⟨by rw [← hrN]; exact hB, by rw [h3]; decide, hFm⟩ | exact ⟨hBn, by rw [p41.2 83 3 rfl, h3]; decide, (hFm.trans (p41.2.mono fWk_FB))⟩)

set_option maxHeartbeats 4000000 in
set_option maxRecDepth 100000 in
theorem t_X6_findBest {g : G} {σ : Sg} (hV : WV (cv σ 1)) (hB : BI σ) : MM g mX6_findBest [.ref (g.2.2.1 83)] σ (pV (fun σ' => bkQ (cv σ 1) (σ 1 4) (rdN (cv σ 1)).toNat σ' ∧ σ' 83 3 ≠ 0 ∧ Fm fFB σ σ')) := by
  refine mm_of rfl (by decide) rfl rfl (Nat.le_of_ble_eq_true rfl) (fun x hO hR => ?_)
  refine z_aload_n hO 0 dX6_findBest_0 rfl ?_
  refine z_getI hO 3 fl_X6_44 rfl rfl rfl dX6_findBest_1 (fun r1 => ?_)
  refine z_if_eq hO 8 dX6_findBest_4 (by decide) (by omega) (fun c4 => ?_) (fun c4 => ?_)
  ·
    refine z_aload_n hO 0 dX6_findBest_8 rfl ?_
    refine z_iconst hO dX6_findBest_9 ?_
    refine z_putI hO 3 fp_X6_44 rfl rfl rfl (by omega) (by decide) (by decide) dX6_findBest_10 ?_
    refine z_aload_n hO 0 dX6_findBest_13 rfl ?_
    refine z_iconst hO dX6_findBest_14 ?_
    refine z_putI hO 4 fp_X6_57 rfl rfl rfl (by omega) rfl rfl dX6_findBest_15 ?_
    refine z_aload_n hO 0 dX6_findBest_18 rfl ?_
    refine z_iconst hO dX6_findBest_19 ?_
    refine z_putI hO 5 fp_X6_61 rfl rfl rfl (by omega) rfl rfl dX6_findBest_20 ?_
    refine z_aload_n hO 0 dX6_findBest_23 rfl ?_
    refine z_getR hO (88) fl_X6_40 rfl rfl dX6_findBest_24 ?_
    refine z_cvV hO (t_X7_begin) cv_X6_105 rfl rfl rfl rfl (by decide) (Nat.le_of_ble_eq_true rfl) dX6_findBest_27 (fun s27 p27 => ?_)
    subst p27
    refine z_ldc hO k_X6_108 dX6_findBest_30 ?_
    refine z_istore_n hO (L' := [(1, _), (0, _)]) dX6_findBest_32 (by decide) rfl ?_
    refine z_pick [1, 0] rfl (lp_findBest (σ := σ) hO hR hV 65537 65536 0 _ (by omega) (by omega) (by omega) (by omega) (rdN_r hV).1 (WI_beg hV) ⟨?_, ?_, fun z => absurd rfl z⟩ ?_ ?_)
    · unfold begS; simp (disch := omega) only [fl_row_ne, fl_ne, up_row_ne, up_ne, up_eq, up_nk, up_up, up_self, ne_eq, Nat.reduceEqDiff, Int.reduceEq, reduceCtorEq, not_false_eq_true, not_true_eq_false]; rfl
    · unfold begS; simp (disch := omega) only [fl_row_ne, fl_ne, up_row_ne, up_ne, up_eq, up_nk, up_up, up_self, ne_eq, Nat.reduceEqDiff, Int.reduceEq, reduceCtorEq, not_false_eq_true, not_true_eq_false]; rfl
    · unfold begS; simp (disch := omega) only [fl_row_ne, fl_ne, up_row_ne, up_ne, up_eq, up_nk, up_up, up_self, ne_eq, Nat.reduceEqDiff, Int.reduceEq, reduceCtorEq, not_false_eq_true, not_true_eq_false]
    · exact (((Fm.rf.up rfl).up rfl).up rfl : Fm fFB σ _).trans ((Fm_beg Fm.rf).mono fWk_FB)
  ·
    exact z_retV hO hR dX6_findBest_7 (⟨hB (by omega), by omega, Fm.rf⟩)
