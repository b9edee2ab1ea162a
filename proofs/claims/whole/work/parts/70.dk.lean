theorem Fnd_congr {V : Hv} {r : Int} {τ τ' : Sg} (h : Fnd V r τ) (e : ∀ c : Nat, 88 ≤ c → c ≤ 96 → τ' c = τ c) : Fnd V r τ' := by
  unfold Fnd; rw [e 88 (by decide) (by decide), e 89 (by decide) (by decide), e 96 (by decide) (by decide)]; exact h
noncomputable def fcQ (σ σ' : Sg) : Prop := (ccA (cv σ 1) (σ 1 4) (σ 1 5) (rdN (cv σ 1)).toNat σ' ∧ nxA (cv σ 1) (σ 1 4) (rdN (cv σ 1)).toNat σ') ∧ bkQ (cv σ 1) (σ 1 4) (rdN (cv σ 1)).toNat σ' ∧ σ' 83 3 ≠ 0 ∧ σ' 97 0 ≠ 0 ∧ N4 σ' ∧ Fm fFC σ σ'
def fbQ (σ σ' : Sg) : Prop := bkQ (cv σ 1) (σ 1 4) (rdN (cv σ 1)).toNat σ' ∧ σ' 83 3 ≠ 0 ∧ Fm fFB σ σ'
theorem Fm_cv {p : Nat → Int → Bool} {σ τ : Sg} (h : Fm p σ τ) (hp : ∀ c k, c ≤ 4 → p c k = false) : cv τ 1 = cv σ 1 := cv_eq (h.row 1 (fun k => hp 1 k (by decide))) (h.row 2 (fun k => hp 2 k (by decide))) (h.row 3 (fun k => hp 3 k (by decide))) (h.row 4 (fun k => hp 4 k (by decide)))
theorem fFB_4 : ∀ (c : Nat) (k : Int), c ≤ 4 → fFB c k = false := by
  intro c k h; unfold fFB; simp; omega
theorem fFC_4 : ∀ (c : Nat) (k : Int), c ≤ 4 → fFC c k = false := by
  intro c k h; unfold fFC; simp; omega
theorem SI_FB {σ σ' : Sg} (h : SI σ) (p : fbQ σ σ') : SI σ' := by
  obtain ⟨h1, h2, h3, h4⟩ := h
  obtain ⟨p1, p2, p3⟩ := p
  have eV := Fm_cv p3 fFB_4
  have e1 : σ' 1 = σ 1 := p3.row 1 (fun k => fFB_4 1 k (by decide))
  refine ⟨fun _ => by rw [eV, e1]; exact p1, fun z => ?_, fun z => ?_, fun k k0 k1 => by rw [p3 100 k rfl]; exact h4 k k0 k1⟩
  · rw [p3 97 0 rfl] at z
    rw [eV, e1]
    exact ⟨ccA_keep (h2 z).1 (p3 97 1 rfl) (fun c c0 c1 => p3.row c (fun k => by unfold fFB; simp; omega)), by unfold nxA; rw [p3 83 8 rfl]; exact (h2 z).2⟩
  · rw [p3 83 13 rfl] at z
    rw [eV, e1, p3 83 14 rfl, p3 83 15 rfl, p3 83 16 rfl]; exact h3 z
theorem SI_FC {σ σ' : Sg} (h : SI σ) (p : fcQ σ σ') : SI σ' := by
  obtain ⟨h1, h2, h3, h4⟩ := h
  obtain ⟨p1, p2, p3, p4, p5, p6⟩ := p
  have eV := Fm_cv p6 fFC_4
  have e1 : σ' 1 = σ 1 := p6.row 1 (fun k => fFC_4 1 k (by decide))
  refine ⟨fun _ => by rw [eV, e1]; exact p2, fun _ => by rw [eV, e1]; exact p1, fun z => ?_, p5⟩
  rw [p6 83 13 rfl] at z
  rw [eV, e1, p6 83 14 rfl, p6 83 15 rfl, p6 83 16 rfl]; exact h3 z
theorem bR_ne {V : Hv} (hV : WV V) {K : Int} (h : nSnd V K (rdN V).toNat ≠ 0) : bR V K ≠ -4 := fun z => h ((bst_0 hV K _).mp z)
theorem best_r {V : Hv} (hV : WV V) {K : Int} (h : bR V K ≠ -4) : 0 ≤ bR V K ∧ bR V K < rdN V ∧ bC V K = cst V (bR V K) ∧ snd V K (bR V K) = true := by
  have hr := rdN_r hV
  rcases bst_r hV K (rdN V).toNat with q | q
  · exact absurd q.1 h
  · exact ⟨q.1, by have := q.2.1; unfold bR; omega, q.2.2.1, q.2.2.2⟩

set_option maxHeartbeats 4000000 in
set_option maxRecDepth 100000 in
theorem lp_findCounted {g : G} {x : Cx} {σ : Sg} (hO : Ok g x RX6 cX6_findCounted 2 5) (hR : Rt g x none (pV (fun σ' => fcQ σ σ'))) (hV : WV (cv σ 1)) (hS : 0 ≤ σ 1 5 ∧ σ 1 5 ≤ 20) (hbr : bR (cv σ 1) (σ 1 4) ≠ -4) : ∀ (f : Nat) (left : Int) (r : Nat) (τ : Sg), left < f → 0 ≤ left → left ≤ 65536 → 65536 ≤ left + r → (r : Int) ≤ rdN (cv σ 1) → WI (cv σ 1) τ r → ccA (cv σ 1) (σ 1 4) (σ 1 5) r τ → nxA (cv σ 1) (σ 1 4) r τ → bkQ (cv σ 1) (σ 1 4) (rdN (cv σ 1)).toNat τ → τ 83 3 ≠ 0 → τ 97 0 = 1 → N4 τ → Fm fFC σ τ → Z g x 2 46 [(0, .ref (g.2.2.1 83)), (1, vI left)] [] τ := by
  intro f
  induction f with
  | zero => intro left r τ hl h0; exact absurd hl (by omega)
  | succ f ih =>
    intro left r τ hl h0 hl2 hlr hr hW hA hX hB h3 h0k h4 hFm
    have e1 : τ 1 = σ 1 := hFm.row 1 (fun _ => rfl)
    have e2 : τ 2 = σ 2 := hFm.row 2 (fun _ => rfl)
    have e3 : τ 3 = σ 3 := hFm.row 3 (fun _ => rfl)
    have e4 : τ 4 = σ 4 := hFm.row 4 (fun _ => rfl)
    have eV : cv τ 1 = cv σ 1 := cv_eq e1 e2 e3 e4
    refine z_iload_n hO 1 dX6_findCounted_46 rfl ?_
    refine z_if_le hO 157 dX6_findCounted_47 (by decide) (by omega) (fun c47 => ?_) (fun c47 => ?_)
    ·
      have hrN : r = (rdN (cv σ 1)).toNat := by have := rdN_r hV; omega
      exact z_retV hO hR dX6_findCounted_157 (by first | exact ⟨⟨by rw [← hrN]; exact hA, by rw [← hrN]; exact hX⟩, hB, h3, by rw [h0k]; decide, h4, hFm⟩ | exact ⟨⟨ccA_skip (by omega) (fun y y0 y1 => snd_nsaid (hz y y0 (by have := rd_pq hV; omega))) hA1, nxA_skip (by omega) (fun y y0 y1 => snd_nsaid (hz y y0 (by have := rd_pq hV; omega))) hX1⟩, hB1, hk3, by rw [hk0]; decide, hk4, hF1⟩)
    ·
      refine z_aload_n hO 0 dX6_findCounted_50 rfl ?_
      refine z_getR hO (88) fl_X6_40 rfl rfl dX6_findCounted_51 ?_
      refine z_cvB hO (t_X7_step (r := r) (by rw [eV]; exact hV) (by rw [eV]; exact hW)) cv_X6_109 rfl rfl rfl rfl (by decide) (Nat.le_of_ble_eq_true rfl) dX6_findCounted_54 (fun s54 p54 => ?_) (fun s54 p54 => ?_)
      ·
        rw [eV] at p54
        have hB1 : bkQ (cv σ 1) (σ 1 4) (rdN (cv σ 1)).toNat s54 := bkQ_keep hB (fun k _ _ => p54.2 83 k rfl) ((p54.2).row 84 (fun _ => rfl)) ((p54.2).row 85 (fun _ => rfl))
        have hA1 : ccA (cv σ 1) (σ 1 4) (σ 1 5) r s54 := ccA_keep hA (p54.2 97 1 rfl) (fun c c0 c1 => (p54.2).row c (fun k => by unfold fWk; simp; omega))
        have hX1 : nxA (cv σ 1) (σ 1 4) r s54 := by unfold nxA; rw [p54.2 83 8 rfl]; exact hX
        have hk3 : s54 83 3 ≠ 0 := by rw [p54.2 83 3 rfl]; exact h3
        have hk0 : s54 97 0 = 1 := by rw [p54.2 97 0 rfl]; exact h0k
        have hk4 : N4 s54 := fun k k0 k1 => by rw [p54.2 100 k rfl]; exact h4 k k0 k1
        have hF1 : Fm fFC σ s54 := (hFm.trans (p54.2.mono fWk_FC))
        have u1 : s54 1 = σ 1 := ((p54.2).row 1 (fun _ => rfl)).trans e1
        obtain ⟨hb6, hb7, hb8, hb9⟩ := hB1.2.2 hbr
        obtain ⟨q0, ⟨hq0, hq1⟩, hq2, hq3, hq4, hq5⟩ := p54.1.1 rfl
        obtain ⟨n, rfl⟩ : ∃ n : Nat, q0 = n := ⟨q0.toNat, by omega⟩
        have hrd := rdN_r hV
        have hA5 : ccA (cv σ 1) (σ 1 4) (σ 1 5) n s54 := ccA_skip (by omega) (fun y y0 y1 => snd_nsaid (hq2 y y0 y1)) hA1
        have hX5 : nxA (cv σ 1) (σ 1 4) n s54 := nxA_skip (by omega) (fun y y0 y1 => snd_nsaid (hq2 y y0 y1)) hX1
        have hbr2 := best_r hV hbr
        have hcb := cst_r hV (bR (cv σ 1) (σ 1 4))
        have hcn := cst_r hV n
        have hcw := hq4.2.2.1
        have hlw := said_r hV hq3
        have hbl := said_r hV (snd_said hbr2.2.2.2)
        have hb6 : s54 83 6 = bC (cv σ 1) (σ 1 4) := hb6
        have hb7 : s54 83 7 = (nm (cv σ 1) (bR (cv σ 1) (σ 1 4))).length := hb7
        refine z_if_eq hO 157 dX6_findCounted_57 (by decide) (by decide) (fun c57 => absurd c57 (by omega)) (fun c57 => ?_)
        refine z_aload_n hO 0 dX6_findCounted_60 rfl ?_
        refine z_cvQ hO (t_X6_isSound (by exact Fnd_NR hV hq3 hq4)) cv_X6_135 rfl rfl rfl rfl (by decide) (Nat.le_of_ble_eq_true rfl) dX6_findCounted_61 (fun c61 => ?_) (fun c61 => ?_)
        ·
          try simp (disch := omega) only [fl_row_ne, fl_ne, up_row_ne, up_ne, up_eq, up_nk, up_up, up_self, ne_eq, Nat.reduceEqDiff, Int.reduceEq, reduceCtorEq, not_false_eq_true, not_true_eq_false, u1] at c61 ⊢
          have hsn := (Fnd_snd hV hq3 hq4).mp c61
          refine z_if_ne hO 70 dX6_findCounted_64 (by decide) (by decide) (fun c64 => ?_) (fun c64 => absurd c64 (by omega))
          refine z_aload_n hO 0 dX6_findCounted_70 rfl ?_
          refine z_getR hO (88) fl_X6_40 rfl rfl dX6_findCounted_71 ?_
          refine z_getI hO 11 fl_X6_120 rfl rfl rfl dX6_findCounted_74 (fun r74 => ?_)
          try simp (disch := omega) only [fl_row_ne, fl_ne, up_row_ne, up_ne, up_eq, up_nk, up_up, up_self, ne_eq, Nat.reduceEqDiff, Int.reduceEq, reduceCtorEq, not_false_eq_true, not_true_eq_false, u1] at r74 ⊢
          refine z_aload_n hO 0 dX6_findCounted_77 rfl ?_
          refine z_getI hO 6 fl_X6_64 rfl rfl rfl dX6_findCounted_78 (fun r78 => ?_)
          try simp (disch := omega) only [fl_row_ne, fl_ne, up_row_ne, up_ne, up_eq, up_nk, up_up, up_self, ne_eq, Nat.reduceEqDiff, Int.reduceEq, reduceCtorEq, not_false_eq_true, not_true_eq_false, u1] at r78 ⊢
          refine z_aload_n hO 0 dX6_findCounted_81 rfl ?_
          refine z_getR hO (1) fl_X6_31 rfl rfl dX6_findCounted_82 ?_
          refine z_getI hO 5 fl_X6_170 rfl rfl rfl dX6_findCounted_85 (fun r85 => ?_)
          try simp (disch := omega) only [fl_row_ne, fl_ne, up_row_ne, up_ne, up_eq, up_nk, up_up, up_self, ne_eq, Nat.reduceEqDiff, Int.reduceEq, reduceCtorEq, not_false_eq_true, not_true_eq_false, u1] at r85 ⊢
          refine z_iadd hO dX6_findCounted_88 ?_
          refine z_icmp_gt hO 110 dX6_findCounted_89 (by decide) (by omega) (by omega) (fun c89 => ?_) (fun c89 => ?_)
          ·
            have hct : ctd (cv σ 1) (σ 1 4) (σ 1 5) n = false := Bool.not_eq_true _ ▸ (fun z => by have := (ctd_iff.mp z).2; omega)
            have hUA : ccA (cv σ 1) (σ 1 4) (σ 1 5) (n + 1) s54 := ccA_f hA5 hct
            have hUF := hq4
            have hUW := hq5
            have hUX := hX5
            have hUB := hB1
            have hU3 := hk3
            have hU0 := hk0
            have hU4 := hk4
            have hUm := hF1
            have hU6 := hcw
            have hU7 := hb7
            have hU8 := hb8
            generalize s54 = U at *
            refine z_aload_n hO 0 dX6_findCounted_110 rfl ?_
            refine z_getI hO 8 fl_X6_92 rfl rfl rfl dX6_findCounted_111 (fun r111 => ?_)
            try simp (disch := omega) only [fl_row_ne, fl_ne, up_row_ne, up_ne, up_eq, up_nk, up_up, up_self, ne_eq, Nat.reduceEqDiff, Int.reduceEq, reduceCtorEq, not_false_eq_true, not_true_eq_false, u1] at r111 ⊢
            refine z_bipush hO dX6_findCounted_114 (by decide) ?_
            refine z_icmp_eq hO 133 dX6_findCounted_116 (by decide) (by omega) (by decide) (fun c116 => ?_) (fun c116 => ?_)
            ·
              have hnx : U 83 8 = -4 ∨ cst (cv σ 1) n < U 83 8 := Or.inl c116
              refine z_aload_n hO 0 dX6_findCounted_133 rfl ?_
              refine z_cvQ hO (t_X6_tellsBest (by rw [hU7]; omega)) cv_X6_186 rfl rfl rfl rfl (by decide) (Nat.le_of_ble_eq_true rfl) dX6_findCounted_134 (fun c134 => ?_) (fun c134 => ?_)
              ·
                try simp (disch := omega) only [fl_row_ne, fl_ne, up_row_ne, up_ne, up_eq, up_nk, up_up, up_self, ne_eq, Nat.reduceEqDiff, Int.reduceEq, reduceCtorEq, not_false_eq_true, not_true_eq_false, u1] at c134 ⊢
                have hte : nm (cv σ 1) n = nm (cv σ 1) (bR (cv σ 1) (σ 1 4)) := (rows_eq hUF.1 hU8).mp (by rw [hUF.2.1, hU7] at c134; exact c134)
                have hX2 : nxA (cv σ 1) (σ 1 4) (n + 1) U := (nxA_t hV hsn hUX).2 (fun z => z.2 hte)
                have hA2 := hUA
                have hW2 := hUW
                have hB2 := hUB
                have h32 := hU3
                have h02 := hU0
                have h42 := hU4
                have hF2 := hUm
                refine z_if_ne hO 151 dX6_findCounted_137 (by decide) (by decide) (fun c137 => ?_) (fun c137 => absurd c137 (by omega))
                refine z_iinc hO (L' := [(1, _), (0, _)]) 1 dX6_findCounted_151 rfl (by decide) rfl ?_
                refine z_goto hO 46 dX6_findCounted_154 (by decide) ?_
                exact z_pick [1, 0] rfl (ih _ (n + 1) _ (by omega) (by omega) (by omega) (by omega) (by omega) hW2 hA2 hX2 hB2 h32 h02 h42 hF2)
              ·
                try simp (disch := omega) only [fl_row_ne, fl_ne, up_row_ne, up_ne, up_eq, up_nk, up_up, up_self, ne_eq, Nat.reduceEqDiff, Int.reduceEq, reduceCtorEq, not_false_eq_true, not_true_eq_false, u1] at c134 ⊢
                have hte : nm (cv σ 1) n ≠ nm (cv σ 1) (bR (cv σ 1) (σ 1 4)) := fun z => c134 (by rw [hUF.2.1, hU7]; exact (rows_eq hUF.1 hU8).mpr z)
                have hxe := (nxA_t hV hsn hUX).1 ⟨hnx, hte⟩
                have hX2 : nxA (cv σ 1) (σ 1 4) (n + 1) (up U 83 8 (U 88 11)) := by unfold nxA; rw [up_eq, hxe, if_neg (by omega)]; exact hU6
                have hA2 : ccA (cv σ 1) (σ 1 4) (σ 1 5) (n + 1) (up U 83 8 (U 88 11)) := ccA_keep hUA (up_ne (by decide)) (fun c c0 c1 => by funext k; rw [up_ne (by omega)])
                have hW2 : WI (cv σ 1) (up U 83 8 (U 88 11)) ((n + 1 : Nat) : Int) := WI_congr hUW (fun c c0 c1 => by funext k; rw [up_ne (by omega)])
                have hB2 : bkQ (cv σ 1) (σ 1 4) (rdN (cv σ 1)).toNat (up U 83 8 (U 88 11)) := bkQ_keep hUB (fun k k0 k1 => up_nk (by omega)) (by funext k; rw [up_ne (by decide)]) (by funext k; rw [up_ne (by decide)])
                have h32 : (up U 83 8 (U 88 11)) 83 3 ≠ 0 := by rw [up_nk (by decide)]; exact hU3
                have h02 : (up U 83 8 (U 88 11)) 97 0 = 1 := by rw [up_ne (by decide)]; exact hU0
                have h42 : N4 (up U 83 8 (U 88 11)) := fun k k0 k1 => by rw [up_ne (by decide)]; exact hU4 k k0 k1
                have hF2 : Fm fFC σ (up U 83 8 (U 88 11)) := hUm.up rfl
                refine z_if_ne hO 151 dX6_findCounted_137 (by decide) (by decide) (fun c137 => absurd c137 (by omega)) (fun c137 => ?_)
                refine z_aload_n hO 0 dX6_findCounted_140 rfl ?_
                refine z_aload_n hO 0 dX6_findCounted_141 rfl ?_
                refine z_getR hO (88) fl_X6_40 rfl rfl dX6_findCounted_142 ?_
                refine z_getI hO 11 fl_X6_120 rfl rfl rfl dX6_findCounted_145 (fun r145 => ?_)
                try simp (disch := omega) only [fl_row_ne, fl_ne, up_row_ne, up_ne, up_eq, up_nk, up_up, up_self, ne_eq, Nat.reduceEqDiff, Int.reduceEq, reduceCtorEq, not_false_eq_true, not_true_eq_false, u1] at r145 ⊢
                refine z_putI hO 8 fp_X6_92 rfl rfl rfl (by omega) rfl rfl dX6_findCounted_148 ?_
                refine z_iinc hO (L' := [(1, _), (0, _)]) 1 dX6_findCounted_151 rfl (by decide) rfl ?_
                refine z_goto hO 46 dX6_findCounted_154 (by decide) ?_
                exact z_pick [1, 0] rfl (ih _ (n + 1) _ (by omega) (by omega) (by omega) (by omega) (by omega) hW2 hA2 hX2 hB2 h32 h02 h42 hF2)
            ·
              refine z_aload_n hO 0 dX6_findCounted_119 rfl ?_
              refine z_getR hO (88) fl_X6_40 rfl rfl dX6_findCounted_120 ?_
              refine z_getI hO 11 fl_X6_120 rfl rfl rfl dX6_findCounted_123 (fun r123 => ?_)
              try simp (disch := omega) only [fl_row_ne, fl_ne, up_row_ne, up_ne, up_eq, up_nk, up_up, up_self, ne_eq, Nat.reduceEqDiff, Int.reduceEq, reduceCtorEq, not_false_eq_true, not_true_eq_false, u1] at r123 ⊢
              refine z_aload_n hO 0 dX6_findCounted_126 rfl ?_
              refine z_getI hO 8 fl_X6_92 rfl rfl rfl dX6_findCounted_127 (fun r127 => ?_)
              try simp (disch := omega) only [fl_row_ne, fl_ne, up_row_ne, up_ne, up_eq, up_nk, up_up, up_self, ne_eq, Nat.reduceEqDiff, Int.reduceEq, reduceCtorEq, not_false_eq_true, not_true_eq_false, u1] at r127 ⊢
              refine z_icmp_ge hO 151 dX6_findCounted_130 (by decide) (by omega) (by omega) (fun c130 => ?_) (fun c130 => ?_)
              ·
                have hX2 : nxA (cv σ 1) (σ 1 4) (n + 1) U := (nxA_t hV hsn hUX).2 (fun z => by rcases z.1 with y | y; (exact c116 y); omega)
                have hA2 := hUA
                have hW2 := hUW
                have hB2 := hUB
                have h32 := hU3
                have h02 := hU0
                have h42 := hU4
                have hF2 := hUm
                refine z_iinc hO (L' := [(1, _), (0, _)]) 1 dX6_findCounted_151 rfl (by decide) rfl ?_
                refine z_goto hO 46 dX6_findCounted_154 (by decide) ?_
                exact z_pick [1, 0] rfl (ih _ (n + 1) _ (by omega) (by omega) (by omega) (by omega) (by omega) hW2 hA2 hX2 hB2 h32 h02 h42 hF2)
              ·
                have hnx : U 83 8 = -4 ∨ cst (cv σ 1) n < U 83 8 := Or.inr (by omega)
                refine z_aload_n hO 0 dX6_findCounted_133 rfl ?_
                refine z_cvQ hO (t_X6_tellsBest (by rw [hU7]; omega)) cv_X6_186 rfl rfl rfl rfl (by decide) (Nat.le_of_ble_eq_true rfl) dX6_findCounted_134 (fun c134 => ?_) (fun c134 => ?_)
                ·
                  try simp (disch := omega) only [fl_row_ne, fl_ne, up_row_ne, up_ne, up_eq, up_nk, up_up, up_self, ne_eq, Nat.reduceEqDiff, Int.reduceEq, reduceCtorEq, not_false_eq_true, not_true_eq_false, u1] at c134 ⊢
                  have hte : nm (cv σ 1) n = nm (cv σ 1) (bR (cv σ 1) (σ 1 4)) := (rows_eq hUF.1 hU8).mp (by rw [hUF.2.1, hU7] at c134; exact c134)
                  have hX2 : nxA (cv σ 1) (σ 1 4) (n + 1) U := (nxA_t hV hsn hUX).2 (fun z => z.2 hte)
                  have hA2 := hUA
                  have hW2 := hUW
                  have hB2 := hUB
                  have h32 := hU3
                  have h02 := hU0
                  have h42 := hU4
                  have hF2 := hUm
                  refine z_if_ne hO 151 dX6_findCounted_137 (by decide) (by decide) (fun c137 => ?_) (fun c137 => absurd c137 (by omega))
                  refine z_iinc hO (L' := [(1, _), (0, _)]) 1 dX6_findCounted_151 rfl (by decide) rfl ?_
                  refine z_goto hO 46 dX6_findCounted_154 (by decide) ?_
                  exact z_pick [1, 0] rfl (ih _ (n + 1) _ (by omega) (by omega) (by omega) (by omega) (by omega) hW2 hA2 hX2 hB2 h32 h02 h42 hF2)
                ·
                  try simp (disch := omega) only [fl_row_ne, fl_ne, up_row_ne, up_ne, up_eq, up_nk, up_up, up_self, ne_eq, Nat.reduceEqDiff, Int.reduceEq, reduceCtorEq, not_false_eq_true, not_true_eq_false, u1] at c134 ⊢
                  have hte : nm (cv σ 1) n ≠ nm (cv σ 1) (bR (cv σ 1) (σ 1 4)) := fun z => c134 (by rw [hUF.2.1, hU7]; exact (rows_eq hUF.1 hU8).mpr z)
                  have hxe := (nxA_t hV hsn hUX).1 ⟨hnx, hte⟩
                  have hX2 : nxA (cv σ 1) (σ 1 4) (n + 1) (up U 83 8 (U 88 11)) := by unfold nxA; rw [up_eq, hxe, if_neg (by omega)]; exact hU6
                  have hA2 : ccA (cv σ 1) (σ 1 4) (σ 1 5) (n + 1) (up U 83 8 (U 88 11)) := ccA_keep hUA (up_ne (by decide)) (fun c c0 c1 => by funext k; rw [up_ne (by omega)])
                  have hW2 : WI (cv σ 1) (up U 83 8 (U 88 11)) ((n + 1 : Nat) : Int) := WI_congr hUW (fun c c0 c1 => by funext k; rw [up_ne (by omega)])
                  have hB2 : bkQ (cv σ 1) (σ 1 4) (rdN (cv σ 1)).toNat (up U 83 8 (U 88 11)) := bkQ_keep hUB (fun k k0 k1 => up_nk (by omega)) (by funext k; rw [up_ne (by decide)]) (by funext k; rw [up_ne (by decide)])
                  have h32 : (up U 83 8 (U 88 11)) 83 3 ≠ 0 := by rw [up_nk (by decide)]; exact hU3
                  have h02 : (up U 83 8 (U 88 11)) 97 0 = 1 := by rw [up_ne (by decide)]; exact hU0
                  have h42 : N4 (up U 83 8 (U 88 11)) := fun k k0 k1 => by rw [up_ne (by decide)]; exact hU4 k k0 k1
                  have hF2 : Fm fFC σ (up U 83 8 (U 88 11)) := hUm.up rfl
                  refine z_if_ne hO 151 dX6_findCounted_137 (by decide) (by decide) (fun c137 => absurd c137 (by omega)) (fun c137 => ?_)
                  refine z_aload_n hO 0 dX6_findCounted_140 rfl ?_
                  refine z_aload_n hO 0 dX6_findCounted_141 rfl ?_
                  refine z_getR hO (88) fl_X6_40 rfl rfl dX6_findCounted_142 ?_
                  refine z_getI hO 11 fl_X6_120 rfl rfl rfl dX6_findCounted_145 (fun r145 => ?_)
                  try simp (disch := omega) only [fl_row_ne, fl_ne, up_row_ne, up_ne, up_eq, up_nk, up_up, up_self, ne_eq, Nat.reduceEqDiff, Int.reduceEq, reduceCtorEq, not_false_eq_true, not_true_eq_false, u1] at r145 ⊢
                  refine z_putI hO 8 fp_X6_92 rfl rfl rfl (by omega) rfl rfl dX6_findCounted_148 ?_
                  refine z_iinc hO (L' := [(1, _), (0, _)]) 1 dX6_findCounted_151 rfl (by decide) rfl ?_
                  refine z_goto hO 46 dX6_findCounted_154 (by decide) ?_
                  exact z_pick [1, 0] rfl (ih _ (n + 1) _ (by omega) (by omega) (by omega) (by omega) (by omega) hW2 hA2 hX2 hB2 h32 h02 h42 hF2)
          ·
            have hct : ctd (cv σ 1) (σ 1 4) (σ 1 5) n = true := ctd_iff.mpr ⟨hsn, by omega⟩
            have hnc := nCt_r (cv σ 1) (σ 1 4) (σ 1 5) n
            refine z_aload_n hO 0 dX6_findCounted_92 rfl ?_
            refine z_getR hO (97) fl_X6_12 rfl rfl dX6_findCounted_93 ?_
            refine z_aload_n hO 0 dX6_findCounted_96 rfl ?_
            refine z_getR hO (88) fl_X6_40 rfl rfl dX6_findCounted_97 ?_
            refine z_aload_n hO 0 dX6_findCounted_100 rfl ?_
            refine z_getR hO (1) fl_X6_31 rfl rfl dX6_findCounted_101 ?_
            refine z_getI hO 3 fl_X6_128 rfl rfl rfl dX6_findCounted_104 (fun r104 => ?_)
            try simp (disch := omega) only [fl_row_ne, fl_ne, up_row_ne, up_ne, up_eq, up_nk, up_up, up_self, ne_eq, Nat.reduceEqDiff, Int.reduceEq, reduceCtorEq, not_false_eq_true, not_true_eq_false, u1] at r104 ⊢
            refine z_cvV hO (t_X1_add (by rw [hA5.1]; omega) ⟨hV.1, hV.2.1⟩ (Fnd_89 hV hq4) (by rw [hq4.2.1]; omega) (fun i k i0 i1 k0 k1 => by have a := (hA5.2.1 i k i0 i1 k0 k1).1; have b := tal_r (cv σ 1) (σ 1 4) (σ 1 5) n i k; omega) (fun i k i0 i1 k0 k1 => ⟨_, (hA5.2.1 i k i0 i1 k0 k1).2, by rw [hA5.1]; exact tkg_lt _ _ _ _ _ _⟩)) cv_X6_182 rfl rfl rfl rfl (by decide) (Nat.le_of_ble_eq_true rfl) dX6_findCounted_107 (fun s107 p107 => ?_)
            have hUA : ccA (cv σ 1) (σ 1 4) (σ 1 5) (n + 1) s107 := ccA_t hV rfl hA5 hct hq4 p107
            have fU := p107.2.2.2.2.2
            have fUc : ∀ c : Nat, 88 ≤ c → c ≤ 96 → s107 c = s54 c := fun c c0 c1 => fU.row c (fun k => by unfold fAd; simp; omega)
            have hUF := Fnd_congr hq4 fUc
            have hUW := WI_congr hq5 fUc
            have hUX : nxA (cv σ 1) (σ 1 4) n s107 := by unfold nxA; rw [fU 83 8 rfl]; exact hX5
            have hUB : bkQ (cv σ 1) (σ 1 4) (rdN (cv σ 1)).toNat s107 := bkQ_keep hB1 (fun k _ _ => fU 83 k rfl) (fU.row 84 (fun _ => rfl)) (fU.row 85 (fun _ => rfl))
            have hU3 : s107 83 3 ≠ 0 := by rw [fU 83 3 rfl]; exact hk3
            have hU0 : s107 97 0 = 1 := by rw [fU 97 0 rfl]; exact hk0
            have hU4 : N4 s107 := N4_ad hk4 p107 (by rw [hq4.2.1]; omega)
            have hUm : Fm fFC σ s107 := hF1.trans (fU.mono fAd_FC)
            have hU6 := hUF.2.2.1
            have hU7 : s107 83 7 = (nm (cv σ 1) (bR (cv σ 1) (σ 1 4))).length := by rw [fU 83 7 rfl]; exact hb7
            have hU8 : rowIs (s107 84) (nm (cv σ 1) (bR (cv σ 1) (σ 1 4))) := by rw [fU.row 84 (fun _ => rfl)]; exact hb8
            generalize s107 = U at *
            refine z_aload_n hO 0 dX6_findCounted_110 rfl ?_
            refine z_getI hO 8 fl_X6_92 rfl rfl rfl dX6_findCounted_111 (fun r111 => ?_)
            refine z_bipush hO dX6_findCounted_114 (by decide) ?_
            refine z_icmp_eq hO 133 dX6_findCounted_116 (by decide) (by omega) (by decide) (fun c116 => ?_) (fun c116 => ?_)
            ·
              have hnx : U 83 8 = -4 ∨ cst (cv σ 1) n < U 83 8 := Or.inl c116
              refine z_aload_n hO 0 dX6_findCounted_133 rfl ?_
              refine z_cvQ hO (t_X6_tellsBest (by rw [hU7]; omega)) cv_X6_186 rfl rfl rfl rfl (by decide) (Nat.le_of_ble_eq_true rfl) dX6_findCounted_134 (fun c134 => ?_) (fun c134 => ?_)
              ·
                have hte : nm (cv σ 1) n = nm (cv σ 1) (bR (cv σ 1) (σ 1 4)) := (rows_eq hUF.1 hU8).mp (by rw [hUF.2.1, hU7] at c134; exact c134)
                have hX2 : nxA (cv σ 1) (σ 1 4) (n + 1) U := (nxA_t hV hsn hUX).2 (fun z => z.2 hte)
                have hA2 := hUA
                have hW2 := hUW
                have hB2 := hUB
                have h32 := hU3
                have h02 := hU0
                have h42 := hU4
                have hF2 := hUm
                refine z_if_ne hO 151 dX6_findCounted_137 (by decide) (by decide) (fun c137 => ?_) (fun c137 => absurd c137 (by omega))
                refine z_iinc hO (L' := [(1, _), (0, _)]) 1 dX6_findCounted_151 rfl (by decide) rfl ?_
                refine z_goto hO 46 dX6_findCounted_154 (by decide) ?_
                exact z_pick [1, 0] rfl (ih _ (n + 1) _ (by omega) (by omega) (by omega) (by omega) (by omega) hW2 hA2 hX2 hB2 h32 h02 h42 hF2)
              ·
                have hte : nm (cv σ 1) n ≠ nm (cv σ 1) (bR (cv σ 1) (σ 1 4)) := fun z => c134 (by rw [hUF.2.1, hU7]; exact (rows_eq hUF.1 hU8).mpr z)
                have hxe := (nxA_t hV hsn hUX).1 ⟨hnx, hte⟩
                have hX2 : nxA (cv σ 1) (σ 1 4) (n + 1) (up U 83 8 (U 88 11)) := by unfold nxA; rw [up_eq, hxe, if_neg (by omega)]; exact hU6
                have hA2 : ccA (cv σ 1) (σ 1 4) (σ 1 5) (n + 1) (up U 83 8 (U 88 11)) := ccA_keep hUA (up_ne (by decide)) (fun c c0 c1 => by funext k; rw [up_ne (by omega)])
                have hW2 : WI (cv σ 1) (up U 83 8 (U 88 11)) ((n + 1 : Nat) : Int) := WI_congr hUW (fun c c0 c1 => by funext k; rw [up_ne (by omega)])
                have hB2 : bkQ (cv σ 1) (σ 1 4) (rdN (cv σ 1)).toNat (up U 83 8 (U 88 11)) := bkQ_keep hUB (fun k k0 k1 => up_nk (by omega)) (by funext k; rw [up_ne (by decide)]) (by funext k; rw [up_ne (by decide)])
                have h32 : (up U 83 8 (U 88 11)) 83 3 ≠ 0 := by rw [up_nk (by decide)]; exact hU3
                have h02 : (up U 83 8 (U 88 11)) 97 0 = 1 := by rw [up_ne (by decide)]; exact hU0
                have h42 : N4 (up U 83 8 (U 88 11)) := fun k k0 k1 => by rw [up_ne (by decide)]; exact hU4 k k0 k1
                have hF2 : Fm fFC σ (up U 83 8 (U 88 11)) := hUm.up rfl
                refine z_if_ne hO 151 dX6_findCounted_137 (by decide) (by decide) (fun c137 => absurd c137 (by omega)) (fun c137 => ?_)
                refine z_aload_n hO 0 dX6_findCounted_140 rfl ?_
                refine z_aload_n hO 0 dX6_findCounted_141 rfl ?_
                refine z_getR hO (88) fl_X6_40 rfl rfl dX6_findCounted_142 ?_
                refine z_getI hO 11 fl_X6_120 rfl rfl rfl dX6_findCounted_145 (fun r145 => ?_)
                refine z_putI hO 8 fp_X6_92 rfl rfl rfl (by omega) rfl rfl dX6_findCounted_148 ?_
                refine z_iinc hO (L' := [(1, _), (0, _)]) 1 dX6_findCounted_151 rfl (by decide) rfl ?_
                refine z_goto hO 46 dX6_findCounted_154 (by decide) ?_
                exact z_pick [1, 0] rfl (ih _ (n + 1) _ (by omega) (by omega) (by omega) (by omega) (by omega) hW2 hA2 hX2 hB2 h32 h02 h42 hF2)
            ·
              refine z_aload_n hO 0 dX6_findCounted_119 rfl ?_
              refine z_getR hO (88) fl_X6_40 rfl rfl dX6_findCounted_120 ?_
              refine z_getI hO 11 fl_X6_120 rfl rfl rfl dX6_findCounted_123 (fun r123 => ?_)
              refine z_aload_n hO 0 dX6_findCounted_126 rfl ?_
              refine z_getI hO 8 fl_X6_92 rfl rfl rfl dX6_findCounted_127 (fun r127 => ?_)
              refine z_icmp_ge hO 151 dX6_findCounted_130 (by decide) (by omega) (by omega) (fun c130 => ?_) (fun c130 => ?_)
              ·
                have hX2 : nxA (cv σ 1) (σ 1 4) (n + 1) U := (nxA_t hV hsn hUX).2 (fun z => by rcases z.1 with y | y; (exact c116 y); omega)
                have hA2 := hUA
                have hW2 := hUW
                have hB2 := hUB
                have h32 := hU3
                have h02 := hU0
                have h42 := hU4
                have hF2 := hUm
                refine z_iinc hO (L' := [(1, _), (0, _)]) 1 dX6_findCounted_151 rfl (by decide) rfl ?_
                refine z_goto hO 46 dX6_findCounted_154 (by decide) ?_
                exact z_pick [1, 0] rfl (ih _ (n + 1) _ (by omega) (by omega) (by omega) (by omega) (by omega) hW2 hA2 hX2 hB2 h32 h02 h42 hF2)
              ·
                have hnx : U 83 8 = -4 ∨ cst (cv σ 1) n < U 83 8 := Or.inr (by omega)
                refine z_aload_n hO 0 dX6_findCounted_133 rfl ?_
                refine z_cvQ hO (t_X6_tellsBest (by rw [hU7]; omega)) cv_X6_186 rfl rfl rfl rfl (by decide) (Nat.le_of_ble_eq_true rfl) dX6_findCounted_134 (fun c134 => ?_) (fun c134 => ?_)
                ·
                  have hte : nm (cv σ 1) n = nm (cv σ 1) (bR (cv σ 1) (σ 1 4)) := (rows_eq hUF.1 hU8).mp (by rw [hUF.2.1, hU7] at c134; exact c134)
                  have hX2 : nxA (cv σ 1) (σ 1 4) (n + 1) U := (nxA_t hV hsn hUX).2 (fun z => z.2 hte)
                  have hA2 := hUA
                  have hW2 := hUW
                  have hB2 := hUB
                  have h32 := hU3
                  have h02 := hU0
                  have h42 := hU4
                  have hF2 := hUm
                  refine z_if_ne hO 151 dX6_findCounted_137 (by decide) (by decide) (fun c137 => ?_) (fun c137 => absurd c137 (by omega))
                  refine z_iinc hO (L' := [(1, _), (0, _)]) 1 dX6_findCounted_151 rfl (by decide) rfl ?_
                  refine z_goto hO 46 dX6_findCounted_154 (by decide) ?_
                  exact z_pick [1, 0] rfl (ih _ (n + 1) _ (by omega) (by omega) (by omega) (by omega) (by omega) hW2 hA2 hX2 hB2 h32 h02 h42 hF2)
                ·
                  have hte : nm (cv σ 1) n ≠ nm (cv σ 1) (bR (cv σ 1) (σ 1 4)) := fun z => c134 (by rw [hUF.2.1, hU7]; exact (rows_eq hUF.1 hU8).mpr z)
                  have hxe := (nxA_t hV hsn hUX).1 ⟨hnx, hte⟩
                  have hX2 : nxA (cv σ 1) (σ 1 4) (n + 1) (up U 83 8 (U 88 11)) := by unfold nxA; rw [up_eq, hxe, if_neg (by omega)]; exact hU6
                  have hA2 : ccA (cv σ 1) (σ 1 4) (σ 1 5) (n + 1) (up U 83 8 (U 88 11)) := ccA_keep hUA (up_ne (by decide)) (fun c c0 c1 => by funext k; rw [up_ne (by omega)])
                  have hW2 : WI (cv σ 1) (up U 83 8 (U 88 11)) ((n + 1 : Nat) : Int) := WI_congr hUW (fun c c0 c1 => by funext k; rw [up_ne (by omega)])
                  have hB2 : bkQ (cv σ 1) (σ 1 4) (rdN (cv σ 1)).toNat (up U 83 8 (U 88 11)) := bkQ_keep hUB (fun k k0 k1 => up_nk (by omega)) (by funext k; rw [up_ne (by decide)]) (by funext k; rw [up_ne (by decide)])
                  have h32 : (up U 83 8 (U 88 11)) 83 3 ≠ 0 := by rw [up_nk (by decide)]; exact hU3
                  have h02 : (up U 83 8 (U 88 11)) 97 0 = 1 := by rw [up_ne (by decide)]; exact hU0
                  have h42 : N4 (up U 83 8 (U 88 11)) := fun k k0 k1 => by rw [up_ne (by decide)]; exact hU4 k k0 k1
                  have hF2 : Fm fFC σ (up U 83 8 (U 88 11)) := hUm.up rfl
                  refine z_if_ne hO 151 dX6_findCounted_137 (by decide) (by decide) (fun c137 => absurd c137 (by omega)) (fun c137 => ?_)
                  refine z_aload_n hO 0 dX6_findCounted_140 rfl ?_
                  refine z_aload_n hO 0 dX6_findCounted_141 rfl ?_
                  refine z_getR hO (88) fl_X6_40 rfl rfl dX6_findCounted_142 ?_
                  refine z_getI hO 11 fl_X6_120 rfl rfl rfl dX6_findCounted_145 (fun r145 => ?_)
                  refine z_putI hO 8 fp_X6_92 rfl rfl rfl (by omega) rfl rfl dX6_findCounted_148 ?_
                  refine z_iinc hO (L' := [(1, _), (0, _)]) 1 dX6_findCounted_151 rfl (by decide) rfl ?_
                  refine z_goto hO 46 dX6_findCounted_154 (by decide) ?_
                  exact z_pick [1, 0] rfl (ih _ (n + 1) _ (by omega) (by omega) (by omega) (by omega) (by omega) hW2 hA2 hX2 hB2 h32 h02 h42 hF2)
        ·
          try simp (disch := omega) only [fl_row_ne, fl_ne, up_row_ne, up_ne, up_eq, up_nk, up_up, up_self, ne_eq, Nat.reduceEqDiff, Int.reduceEq, reduceCtorEq, not_false_eq_true, not_true_eq_false, u1] at c61 ⊢
          have hsn : snd (cv σ 1) (σ 1 4) n = false := Bool.not_eq_true _ ▸ (fun z => c61 ((Fnd_snd hV hq3 hq4).mpr z))
          have hA2 : ccA (cv σ 1) (σ 1 4) (σ 1 5) (n + 1) s54 := ccA_f hA5 (ctd_nsnd hsn)
          have hX2 : nxA (cv σ 1) (σ 1 4) (n + 1) s54 := nxA_skip (a := n) (by omega) (fun y y0 y1 => by obtain rfl : y = n := (by omega); exact hsn) hX5
          have hW2 : WI (cv σ 1) s54 ((n + 1 : Nat) : Int) := hq5
          have hB2 := hB1
          have h32 := hk3
          have h02 := hk0
          have h42 := hk4
          have hF2 := hF1
          refine z_if_ne hO 70 dX6_findCounted_64 (by decide) (by decide) (fun c64 => absurd c64 (by omega)) (fun c64 => ?_)
          refine z_goto hO 151 dX6_findCounted_67 (by decide) ?_
          refine z_iinc hO (L' := [(1, _), (0, _)]) 1 dX6_findCounted_151 rfl (by decide) rfl ?_
          refine z_goto hO 46 dX6_findCounted_154 (by decide) ?_
          exact z_pick [1, 0] rfl (ih _ (n + 1) _ (by omega) (by omega) (by omega) (by omega) (by omega) hW2 hA2 hX2 hB2 h32 h02 h42 hF2)
      ·
        rw [eV] at p54
        have hB1 : bkQ (cv σ 1) (σ 1 4) (rdN (cv σ 1)).toNat s54 := bkQ_keep hB (fun k _ _ => p54.2 83 k rfl) ((p54.2).row 84 (fun _ => rfl)) ((p54.2).row 85 (fun _ => rfl))
        have hA1 : ccA (cv σ 1) (σ 1 4) (σ 1 5) r s54 := ccA_keep hA (p54.2 97 1 rfl) (fun c c0 c1 => (p54.2).row c (fun k => by unfold fWk; simp; omega))
        have hX1 : nxA (cv σ 1) (σ 1 4) r s54 := by unfold nxA; rw [p54.2 83 8 rfl]; exact hX
        have hk3 : s54 83 3 ≠ 0 := by rw [p54.2 83 3 rfl]; exact h3
        have hk0 : s54 97 0 = 1 := by rw [p54.2 97 0 rfl]; exact h0k
        have hk4 : N4 s54 := fun k k0 k1 => by rw [p54.2 100 k rfl]; exact h4 k k0 k1
        have hF1 : Fm fFC σ s54 := (hFm.trans (p54.2.mono fWk_FC))
        have u1 : s54 1 = σ 1 := ((p54.2).row 1 (fun _ => rfl)).trans e1
        obtain ⟨hb6, hb7, hb8, hb9⟩ := hB1.2.2 hbr
        have hz := p54.1.2 rfl
        refine z_if_eq hO 157 dX6_findCounted_57 (by decide) (by decide) (fun c57 => ?_) (fun c57 => absurd c57 (by omega))
        exact z_retV hO hR dX6_findCounted_157 (by first | exact ⟨⟨by rw [← hrN]; exact hA, by rw [← hrN]; exact hX⟩, hB, h3, by rw [h0k]; decide, h4, hFm⟩ | exact ⟨⟨ccA_skip (by omega) (fun y y0 y1 => snd_nsaid (hz y y0 (by have := rd_pq hV; omega))) hA1, nxA_skip (by omega) (fun y y0 y1 => snd_nsaid (hz y y0 (by have := rd_pq hV; omega))) hX1⟩, hB1, hk3, by rw [hk0]; decide, hk4, hF1⟩)

set_option maxHeartbeats 4000000 in
set_option maxRecDepth 100000 in
theorem t_X6_findCounted {g : G} {σ : Sg} (hV : WV (cv σ 1)) (hI : SI σ) (hS : 0 ≤ σ 1 5 ∧ σ 1 5 ≤ 20) : MM g mX6_findCounted [.ref (g.2.2.1 83)] σ (pV (fun σ' => fcQ σ σ')) := by
  refine mm_of rfl (by decide) rfl rfl (Nat.le_of_ble_eq_true rfl) (fun x hO hR => ?_)
  refine z_aload_n hO 0 dX6_findCounted_0 rfl ?_
  refine z_cvV hO (t_X6_findBest hV hI.1) cv_X6_54 rfl rfl rfl rfl (by decide) (Nat.le_of_ble_eq_true rfl) dX6_findCounted_1 (fun s1 p1 => ?_)
  obtain ⟨a1, a2, a3⟩ := p1
  have hSI := SI_FB hI ⟨a1, a2, a3⟩
  have eV := Fm_cv a3 fFB_4
  have e1 : s1 1 = σ 1 := a3.row 1 (fun k => fFB_4 1 k (by decide))
  refine z_aload_n hO 0 dX6_findCounted_4 rfl ?_
  refine z_getR hO (97) fl_X6_12 rfl rfl dX6_findCounted_5 ?_
  refine z_getI hO 0 fl_X6_48 rfl rfl rfl dX6_findCounted_8 (fun r8 => ?_)
  refine z_if_eq hO 15 dX6_findCounted_11 (by decide) (by omega) (fun c11 => ?_) (fun c11 => ?_)
  ·
    refine z_aload_n hO 0 dX6_findCounted_15 rfl ?_
    refine z_getR hO (97) fl_X6_12 rfl rfl dX6_findCounted_16 ?_
    refine z_cvV hO (t_X1_clear) cv_X6_179 rfl rfl rfl rfl (by decide) (Nat.le_of_ble_eq_true rfl) dX6_findCounted_19 (fun s19 p19 => ?_)
    obtain ⟨b1, b2, b3, b4⟩ := p19
    have b5 : s19 83 5 = s1 83 5 := b4 83 5 rfl
    have b6 : bkQ (cv σ 1) (σ 1 4) (rdN (cv σ 1)).toNat s19 := bkQ_keep a1 (fun k _ _ => b4 83 k rfl) (b4.row 84 (fun _ => rfl)) (b4.row 85 (fun _ => rfl))
    have b7 := b6.2.1
    have b8 : s19 83 3 ≠ 0 := by rw [b4 83 3 rfl]; exact a2
    refine z_aload_n hO 0 dX6_findCounted_22 rfl ?_
    refine z_bipush hO dX6_findCounted_23 (by decide) ?_
    refine z_putI hO 8 fp_X6_92 rfl rfl rfl (by omega) rfl rfl dX6_findCounted_25 ?_
    refine z_aload_n hO 0 dX6_findCounted_28 rfl ?_
    refine z_getI hO 5 fl_X6_61 rfl rfl rfl dX6_findCounted_29 (fun r29 => ?_)
    try simp (disch := omega) only [fl_row_ne, fl_ne, up_row_ne, up_ne, up_eq, up_nk, up_up, up_self, ne_eq, Nat.reduceEqDiff, Int.reduceEq, reduceCtorEq, not_false_eq_true, not_true_eq_false] at r29 ⊢
    refine z_if_ne hO 36 dX6_findCounted_32 (by decide) (by omega) (fun c32 => ?_) (fun c32 => ?_)
    ·
      refine z_aload_n hO 0 dX6_findCounted_36 rfl ?_
      refine z_getR hO (88) fl_X6_40 rfl rfl dX6_findCounted_37 ?_
      refine z_cvV hO (t_X7_begin) cv_X6_105 rfl rfl rfl rfl (by decide) (Nat.le_of_ble_eq_true rfl) dX6_findCounted_40 (fun s40 p40 => ?_)
      subst p40
      refine z_ldc hO k_X6_108 dX6_findCounted_43 ?_
      refine z_istore_n hO (L' := [(1, _), (0, _)]) dX6_findCounted_45 (by decide) rfl ?_
      have hbe : ∀ (c : Nat) (k : Int), (c < 88 ∨ 96 < c) → (begS (up s19 83 8 (-4))) c k = up s19 83 8 (-4) c k := fun c k hc => by unfold begS; simp (disch := omega) only [up_ne]
      refine z_pick [1, 0] rfl (lp_findCounted (σ := σ) hO hR hV hS (bR_ne hV (by omega)) 65537 65536 0 _ (by omega) (by omega) (by omega) (by omega) (rdN_r hV).1 (WI_beg hV) ?_ ?_ ?_ ?_ ?_ ?_ ?_)
      · exact ccA_0 (by rw [hbe _ _ (by omega), up_ne (by decide)]; exact b3) (fun c c0 c1 => by rw [hbe _ _ (by omega), hbe _ _ (by omega), up_ne (by decide), up_ne (by decide)]; exact b1 c c0 c1)
      · unfold nxA; rw [hbe _ _ (by omega), up_eq]; rfl
      · exact bkQ_keep b6 (fun k k0 k1 => by rw [hbe _ _ (by omega)]; exact up_nk (by omega)) (by funext k; rw [hbe _ _ (by omega), up_ne (by decide)]) (by funext k; rw [hbe _ _ (by omega), up_ne (by decide)])
      · rw [hbe _ _ (by omega), up_nk (by decide)]; exact b8
      · rw [hbe _ _ (by omega), up_ne (by decide)]; exact b2
      · exact fun k k0 k1 => by rw [hbe _ _ (by omega), up_ne (by decide), b4 100 k rfl]; exact hSI.2.2.2 k k0 k1
      · exact (((a3.mono fFB_FC).trans (b4.mono fCl_FC)).up rfl).trans ((Fm_beg Fm.rf).mono fWk_FC)
    ·
      exact z_retV hO hR dX6_findCounted_35 (by
          have hbz : bR (cv σ 1) (σ 1 4) = -4 := (bst_0 hV _ _).mpr (by omega)
          have hno : ∀ y : Int, (0 : Nat) ≤ y → y < ((rdN (cv σ 1)).toNat : Nat) → snd (cv σ 1) (σ 1 4) y = false := fun y y0 y1 => by
            have h := bst_none hV (K := (σ 1 4)) (rdN (cv σ 1)).toNat hbz y.toNat (by omega)
            rwa [show ((y.toNat : Nat) : Int) = y by omega] at h
          refine ⟨⟨ccA_skip (Nat.zero_le _) hno (ccA_0 (by rw [up_ne (by decide)]; exact b3) (fun c c0 c1 => by rw [up_ne (by decide), up_ne (by decide)]; exact b1 c c0 c1)), nxA_skip (Nat.zero_le _) hno (by unfold nxA; rw [up_eq]; rfl)⟩, ?_, ?_, ?_, ?_, ?_⟩
          · exact bkQ_keep b6 (fun k k0 k1 => up_nk (by omega)) (by funext k; rw [up_ne (by decide)]) (by funext k; rw [up_ne (by decide)])
          · rw [up_nk (by decide)]; exact b8
          · rw [up_ne (by decide), b2]; decide
          · exact fun k k0 k1 => by rw [up_ne (by decide), b4 100 k rfl]; exact hSI.2.2.2 k k0 k1
          · exact ((a3.mono fFB_FC).trans (b4.mono fCl_FC)).up rfl)
  ·
    exact z_retV hO hR dX6_findCounted_14 (by have z := hSI.2.1 (by omega); rw [eV, e1] at z; exact ⟨z, a1, a2, by omega, hSI.2.2.2, a3.mono fFB_FC⟩)
