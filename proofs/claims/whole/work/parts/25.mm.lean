/-! ===== storms ===== -/
def drw (d : Int) : Int := (d * 1103515245 + 12345) % 2147483648
def comS (τ : Sg) (s w q : Int) : Sg := up (up (up τ 114 (4 + 9 * s + 1 + τ 114 (4 + 9 * s)) w) 114 (4 + 9 * s + 5 + τ 114 (4 + 9 * s)) q) 114 (4 + 9 * s) (τ 114 (4 + 9 * s) + 1)
def trnC (σ : Sg) (x : Int) : Prop := 0 < σ 114 0 ∧ σ 114 (4 + 9 * (x % σ 114 0)) < 4 ∧ ∀ k, 0 ≤ k → k < σ 114 (4 + 9 * (x % σ 114 0)) → (mv (σ 114)).2.2.1 (x % σ 114 0) k ≠ x / 8 % 32
def trn0 (σ : Sg) : Sg := up (noteS σ) 114 3 (drw (σ 114 3))
noncomputable def turnS (σ : Sg) : Sg := @ite _ (trnC σ (drw (σ 114 3) / 65536)) (Classical.propDecidable _) (comS (trn0 σ) (drw (σ 114 3) / 65536 % σ 114 0) (drw (σ 114 3) / 65536 / 8 % 32) (drw (σ 114 3) / 65536 / 256 % 10)) (trn0 σ)
noncomputable def stormS (σ : Sg) : Nat → Sg
  | 0 => σ
  | n + 1 => turnS (stormS σ n)
/-- what a turn needs and keeps -/
def TI (σ : Sg) : Prop := WV (mv (σ 114)) ∧ (0 ≤ σ 113 29 ∧ σ 113 29 ≤ 8) ∧ (0 ≤ σ 114 3 ∧ σ 114 3 ≤ 2147483647)
theorem note_u {σ : Sg} (h : 0 ≤ σ 113 29 ∧ σ 113 29 ≤ 8) : 0 ≤ noteS σ 113 29 ∧ noteS σ 113 29 ≤ 8 := by
  unfold noteS; rw [up_eq]
  unfold note1; split
  · rw [up_eq]; omega
  · omega
theorem trn0_n (σ : Sg) {k : Int} (h : k ≠ 3) : trn0 σ 114 k = σ 114 k := by
  unfold trn0; rw [up_nk h, noteS_row (by decide) (by decide)]
theorem WV_com {τ : Sg} {s w q : Int} (h : WV (mv (τ 114))) (hs : 0 ≤ s ∧ s < τ 114 0) (hc : τ 114 (4 + 9 * s) < 4) (hw : 0 ≤ w ∧ w ≤ 31) (hq : 0 ≤ q ∧ q ≤ 9) : WV (mv (comS τ s w q 114)) := by
  have h0 := h.1; have h8 := h.2.1
  rw [mv_n] at h0 h8
  have hW := h.2.2 s hs.1 hs.2
  rw [mv_c] at hW
  have e0 : comS τ s w q 114 0 = τ 114 0 := by unfold comS; rw [up_nk (by omega), up_nk (by omega), up_nk (by omega)]
  have ec : ∀ i, 0 ≤ i → i ≠ s → comS τ s w q 114 (4 + 9 * i) = τ 114 (4 + 9 * i) := by
    intro i hi hne; unfold comS; rw [up_nk (by omega), up_nk (by omega), up_nk (by omega)]
  have es : comS τ s w q 114 (4 + 9 * s) = τ 114 (4 + 9 * s) + 1 := by unfold comS; rw [up_eq]
  refine ⟨by rw [mv_n, e0]; exact h0, by rw [mv_n, e0]; exact h8, fun i hi hi2 => ?_⟩
  rw [mv_n, e0] at hi2
  have hI := h.2.2 i hi hi2
  rw [mv_c] at hI
  by_cases e : i = s
  · subst e
    rw [mv_c, es]
    refine ⟨by omega, by omega, fun k k0 k1 => ?_⟩
    rw [mv_w, mv_q]
    by_cases ek : k = τ 114 (4 + 9 * i)
    · subst ek
      unfold comS
      rw [up_nk (by omega), up_nk (by omega), up_eq, up_nk (by omega), up_eq]; omega
    · have := hI.2.2 k k0 (by omega)
      rw [mv_w, mv_q] at this
      unfold comS
      rw [up_nk (by omega), up_nk (by omega), up_nk (by omega), up_nk (by omega), up_nk (by omega), up_nk (by omega)]; exact this
  · rw [mv_c, ec i hi e]
    refine ⟨hI.1, hI.2.1, fun k k0 k1 => ?_⟩
    have := hI.2.2 k k0 k1
    rw [mv_w, mv_q] at this ⊢
    unfold comS
    rw [up_nk (by omega), up_nk (by omega), up_nk (by omega), up_nk (by omega), up_nk (by omega), up_nk (by omega)]; exact this
theorem WV_row {N N' : Int → Int} (h : WV (mv N)) (e : ∀ k, k ≠ 1 → k ≠ 2 → k ≠ 3 → N' k = N k) : WV (mv N') := by
  have e0 := e 0 (by decide) (by decide) (by decide)
  refine ⟨by rw [mv_n, e0]; exact h.1, by rw [mv_n, e0]; exact h.2.1, fun i hi hi2 => ?_⟩
  rw [mv_n, e0] at hi2
  have hI := h.2.2 i hi hi2
  rw [mv_c] at hI ⊢
  rw [e _ (by omega) (by omega) (by omega)]
  refine ⟨hI.1, hI.2.1, fun k k0 k1 => ?_⟩
  have := hI.2.2 k k0 k1
  rw [mv_w, mv_q] at this ⊢
  rw [e _ (by omega) (by omega) (by omega), e _ (by omega) (by omega) (by omega)]; exact this
theorem drw_r (d : Int) : 0 ≤ drw d ∧ drw d ≤ 2147483647 := by unfold drw; omega
theorem TI_turn {σ : Sg} (h : TI σ) : TI (turnS σ) := by
  have hd := drw_r (σ 114 3)
  have h1 : WV (mv (trn0 σ 114)) := WV_row h.1 (fun k _ _ h3 => trn0_n σ h3)
  have hu : 0 ≤ trn0 σ 113 29 ∧ trn0 σ 113 29 ≤ 8 := by unfold trn0; rw [up_ne (by decide)]; exact note_u h.2.1
  have h3 : trn0 σ 114 3 = drw (σ 114 3) := by unfold trn0; rw [up_eq]
  have h0 := h.1.1
  rw [mv_n] at h0
  unfold turnS
  split
  · rename_i hc
    obtain ⟨c1, c2, c3⟩ := hc
    have hx : 0 ≤ drw (σ 114 3) / 65536 % σ 114 0 ∧ drw (σ 114 3) / 65536 % σ 114 0 < σ 114 0 := ⟨Int.emod_nonneg _ (by omega), Int.emod_lt_of_pos _ c1⟩
    refine ⟨WV_com h1 (by rw [trn0_n σ (by decide)]; exact hx) (by rw [trn0_n σ (by omega)]; exact c2) (by omega) (by omega), ?_, ?_⟩
    · unfold comS; rw [up_ne (by decide), up_ne (by decide), up_ne (by decide)]; exact hu
    · have hW := h.1.2.2 _ hx.1 hx.2
      rw [mv_c] at hW
      have e := trn0_n σ (k := 4 + 9 * (drw (σ 114 3) / 65536 % σ 114 0)) (by omega)
      unfold comS; rw [up_nk (by omega), up_nk (by omega), up_nk (by omega), h3]; exact hd
  · exact ⟨h1, hu, by rw [h3]; exact hd⟩
theorem TI_storm {σ : Sg} (h : TI σ) (n : Nat) : TI (stormS σ n) := by
  induction n with
  | zero => exact h
  | succ n ih => exact TI_turn ih

set_option maxHeartbeats 4000000 in
set_option maxRecDepth 100000 in
theorem lp_storm {g : G} {x : Cx} {σ : Sg} {n : Nat} (hO : Ok g x RX9 cX9_storm 7 3) (hT0 : TI σ) (hn40 : n ≤ 40) (hE : Z g x 7 148 [(0, .ref (g.2.2.1 113)), (1, vI n), (2, vI n)] [] (stormS σ n)) : ∀ (k i : Nat) (τ : Sg), τ = stormS σ i → i ≤ n → n - i < k → Z g x 7 16 [(0, .ref (g.2.2.1 113)), (1, vI n), (2, vI i)] [] τ := by
  intro k
  induction k with
  | zero => intro i τ hτ h1 h2; exact absurd h2 (by omega)
  | succ k ih =>
    intro i τ hτ h1 h2
    have hT : TI τ := by rw [hτ]; exact TI_storm hT0 i
    have hd3 := hT.2.2
    have e0 : trn0 τ 114 0 = τ 114 0 := trn0_n τ (by decide)
    have e3 : trn0 τ 114 3 = drw (τ 114 3) := by unfold trn0; rw [up_eq]
    have hd := drw_r (τ 114 3)
    have hn0 := hT.1.1
    have hn8 := hT.1.2.1
    rw [mv_n] at hn0 hn8
    refine z_iload_n hO 2 dX9_storm_16 rfl ?_
    refine z_iload_n hO 1 dX9_storm_17 rfl ?_
    refine z_icmp_ge hO 148 dX9_storm_18 (by decide) (by omega) (by omega) (fun c18 => ?_) (fun c18 => ?_)
    ·
      have hi3 : i = n := by omega
      subst hi3
      rw [hτ]
      exact z_pick [0, 1, 2] rfl hE
    ·
      refine z_aload_n hO 0 dX9_storm_21 rfl ?_
      refine z_cvV hO (t_X9_notes hT.2.1) cv_X9_251 rfl rfl rfl rfl (by decide) (Nat.le_of_ble_eq_true rfl) dX9_storm_22 (fun s22 p22 => ?_)
      subst p22
      refine z_aload_n hO 0 dX9_storm_25 rfl ?_
      refine z_getR hO (114) fl_X9_7 rfl rfl dX9_storm_26 ?_
      refine z_iconst hO dX9_storm_29 ?_
      refine z_iald hO rfl (by omega) (by decide) dX9_storm_30 (fun r30 => ?_)
      try simp (disch := omega) only [fl_row_ne, fl_ne, up_row_ne, up_ne, up_eq, up_nk, up_up, up_self, ne_eq, Nat.reduceEqDiff, Int.reduceEq, reduceCtorEq, not_false_eq_true, not_true_eq_false, noteS_row] at r30 ⊢
      refine z_i2l hO dX9_storm_31 (by omega) ?_
      refine z_ldc2 hO k_X9_266 dX9_storm_32 ?_
      refine z_lmul hO dX9_storm_35 ?_
      refine z_ldc2 hO k_X9_268 dX9_storm_36 ?_
      refine z_ladd hO dX9_storm_39 ?_
      refine z_ldc2 hO k_X9_270 dX9_storm_40 ?_
      refine z_lrem hO dX9_storm_43 (by omega) (by omega) ?_
      rw [show (τ 114 3 * 1103515245 + 12345) % 2147483648 = drw (τ 114 3) from rfl]
      refine z_lstore_n hO (L' := [(3, _), (0, _), (1, _), (2, _)]) dX9_storm_44 (by decide) rfl ?_
      refine z_aload_n hO 1 dX9_storm_45 rfl ?_
      refine z_getR hO (114) fl_X9_7 rfl rfl dX9_storm_46 ?_
      refine z_iconst hO dX9_storm_49 ?_
      refine z_lload_n hO 0 dX9_storm_50 rfl ?_
      refine z_l2i hO dX9_storm_51 ?_
      refine z_iast hO rfl (by omega) (by decide) (by omega) dX9_storm_52 ?_
      refine z_sg (show _ = trn0 τ from rfl) ?_
      refine z_aload_n hO 1 dX9_storm_53 rfl ?_
      refine z_getR hO (114) fl_X9_7 rfl rfl dX9_storm_54 ?_
      refine z_iconst hO dX9_storm_57 ?_
      refine z_iald hO rfl (by omega) (by decide) dX9_storm_58 (fun r58 => ?_)
      rw [e3] at r58 ⊢
      refine z_ldcw hO k_X9_272 dX9_storm_59 ?_
      refine z_idiv hO dX9_storm_62 (by omega) (by omega) ?_
      refine z_istore hO (L' := [(5, _), (3, _), (0, _), (1, _), (2, _)]) dX9_storm_63 (by decide) rfl ?_
      refine z_aload_n hO 2 dX9_storm_65 rfl ?_
      refine z_getR hO (114) fl_X9_7 rfl rfl dX9_storm_66 ?_
      refine z_iconst hO dX9_storm_69 ?_
      refine z_iald hO rfl (by omega) (by decide) dX9_storm_70 (fun r70 => ?_)
      rw [e0] at r70 ⊢
      refine z_if_le hO 142 dX9_storm_71 (by decide) (by omega) (fun c71 => ?_) (fun c71 => ?_)
      ·
        have hc : ¬ trnC τ (drw (τ 114 3) / 65536) := fun z => by have := z.1; omega
        refine z_iinc hO (L' := [(2, _), (5, _), (3, _), (0, _), (1, _)]) 4 dX9_storm_142 rfl (by decide) rfl ?_
        refine z_goto hO 16 dX9_storm_145 (by decide) ?_
        first | exact z_pick [3, 4, 0] rfl (ih (i + 1) (turnS τ) (by rw [hτ]; rfl) (by omega) (by omega)) | (refine z_sg (show _ = turnS τ by unfold turnS; rw [if_neg hc]) ?_; exact z_pick [3, 4, 0] rfl (ih (i + 1) (turnS τ) (by rw [hτ]; rfl) (by omega) (by omega)))
      ·
        have hx0 : 0 ≤ drw (τ 114 3) / 65536 % τ 114 0 ∧ drw (τ 114 3) / 65536 % τ 114 0 < τ 114 0 := ⟨Int.emod_nonneg _ (by omega), Int.emod_lt_of_pos _ (by omega)⟩
        have hW := hT.1.2.2 _ hx0.1 hx0.2
        rw [mv_c] at hW
        have ecx := trn0_n τ (k := 4 + 9 * (drw (τ 114 3) / 65536 % τ 114 0)) (by omega)
        refine z_iload hO 0 dX9_storm_74 rfl ?_
        refine z_aload_n hO 2 dX9_storm_76 rfl ?_
        refine z_getR hO (114) fl_X9_7 rfl rfl dX9_storm_77 ?_
        refine z_iconst hO dX9_storm_80 ?_
        refine z_iald hO rfl (by omega) (by decide) dX9_storm_81 (fun r81 => ?_)
        rw [e0] at r81 ⊢
        refine z_irem hO dX9_storm_82 (by omega) (by omega) ?_
        refine z_istore hO (L' := [(6, _), (5, _), (3, _), (0, _), (1, _), (2, _)]) dX9_storm_83 (by decide) rfl ?_
        refine z_aload_n hO 3 dX9_storm_85 rfl ?_
        refine z_getR hO (114) fl_X9_7 rfl rfl dX9_storm_86 ?_
        refine z_aload_n hO 3 dX9_storm_89 rfl ?_
        refine z_iload hO 0 dX9_storm_90 rfl ?_
        refine z_cvE hO (t_X9_at) cv_X9_79 rfl rfl rfl rfl (by decide) (Nat.le_of_ble_eq_true rfl) dX9_storm_92 ?_
        try simp (disch := omega) only [fl_row_ne, fl_ne, up_row_ne, up_ne, up_eq, up_nk, up_up, up_self, ne_eq, Nat.reduceEqDiff, Int.reduceEq, reduceCtorEq, not_false_eq_true, not_true_eq_false, noteS_row]
        refine z_iald hO rfl (by omega) (by decide) dX9_storm_95 (fun r95 => ?_)
        rw [ecx] at r95 ⊢
        refine z_iconst hO dX9_storm_96 ?_
        refine z_icmp_ge hO 142 dX9_storm_97 (by decide) (by omega) (by decide) (fun c97 => ?_) (fun c97 => ?_)
        ·
          have hc : ¬ trnC τ (drw (τ 114 3) / 65536) := fun z => by have := z.2.1; omega
          refine z_iinc hO (L' := [(2, _), (6, _), (5, _), (3, _), (0, _), (1, _)]) 5 dX9_storm_142 rfl (by decide) rfl ?_
          refine z_goto hO 16 dX9_storm_145 (by decide) ?_
          first | exact z_pick [4, 5, 0] rfl (ih (i + 1) (turnS τ) (by rw [hτ]; rfl) (by omega) (by omega)) | (refine z_sg (show _ = turnS τ by unfold turnS; rw [if_neg hc]) ?_; exact z_pick [4, 5, 0] rfl (ih (i + 1) (turnS τ) (by rw [hτ]; rfl) (by omega) (by omega)))
        ·
          refine z_aload_n hO 3 dX9_storm_100 rfl ?_
          refine z_iload hO 0 dX9_storm_101 rfl ?_
          refine z_iload hO 1 dX9_storm_103 rfl ?_
          refine z_bipush hO dX9_storm_105 (by decide) ?_
          refine z_idiv hO dX9_storm_107 (by omega) (by omega) ?_
          refine z_bipush hO dX9_storm_108 (by decide) ?_
          refine z_irem hO dX9_storm_110 (by omega) (by omega) ?_
          refine z_cvI hO (t_X9_placeOf (WV_row hT.1 (fun k _ _ h3 => trn0_n τ h3)) (by rw [e0]; exact hx0) (by omega)) cv_X9_254 rfl rfl rfl rfl (by decide) (Nat.le_of_ble_eq_true rfl) dX9_storm_111 (fun v111 s111 p111 => ?_)
          obtain ⟨pq, e111⟩ := p111
          rw [e111]
          rw [ecx] at pq
          have hvr : -4 ≤ v111 ∧ v111 ≤ 4 := by rcases pq with q | q <;> omega
          have hmv : ∀ k, 0 ≤ k → (mv (trn0 τ 114)).2.2.1 (drw (τ 114 3) / 65536 % τ 114 0) k = (mv (τ 114)).2.2.1 (drw (τ 114 3) / 65536 % τ 114 0) k := fun k k0 => by rw [mv_w, mv_w]; exact trn0_n τ (by omega)
          refine z_bipush hO dX9_storm_114 (by decide) ?_
          refine z_icmp_ne hO 142 dX9_storm_116 (by decide) (by omega) (by decide) (fun c116 => ?_) (fun c116 => ?_)
          ·
            have hc : ¬ trnC τ (drw (τ 114 3) / 65536) := by
              rintro ⟨z1, z2, z3⟩
              rcases pq with q | q
              · omega
              · exact z3 _ q.1 q.2.1 ((hmv _ q.1).symm.trans q.2.2.1)
            refine z_iinc hO (L' := [(2, _), (6, _), (5, _), (3, _), (0, _), (1, _)]) 5 dX9_storm_142 rfl (by decide) rfl ?_
            refine z_goto hO 16 dX9_storm_145 (by decide) ?_
            first | exact z_pick [4, 5, 0] rfl (ih (i + 1) (turnS τ) (by rw [hτ]; rfl) (by omega) (by omega)) | (refine z_sg (show _ = turnS τ by unfold turnS; rw [if_neg hc]) ?_; exact z_pick [4, 5, 0] rfl (ih (i + 1) (turnS τ) (by rw [hτ]; rfl) (by omega) (by omega)))
          ·
            have hc : trnC τ (drw (τ 114 3) / 65536) := by
              refine ⟨by omega, by omega, fun k k0 k1 => ?_⟩
              rcases pq with q | q
              · rw [← hmv k k0]; exact q.2 k k0 k1
              · omega
            refine z_aload_n hO 3 dX9_storm_119 rfl ?_
            refine z_iload hO 0 dX9_storm_120 rfl ?_
            refine z_iload hO 1 dX9_storm_122 rfl ?_
            refine z_bipush hO dX9_storm_124 (by decide) ?_
            refine z_idiv hO dX9_storm_126 (by omega) (by omega) ?_
            refine z_bipush hO dX9_storm_127 (by decide) ?_
            refine z_irem hO dX9_storm_129 (by omega) (by omega) ?_
            refine z_iload hO 1 dX9_storm_130 rfl ?_
            refine z_sipush hO dX9_storm_132 (by decide) ?_
            refine z_idiv hO dX9_storm_135 (by omega) (by omega) ?_
            refine z_bipush hO dX9_storm_136 (by decide) ?_
            refine z_irem hO dX9_storm_138 (by omega) (by omega) ?_
            refine z_cvV hO (t_X9_comes (by omega) (by omega) (by omega) (by rw [ecx]; omega)) cv_X9_258 rfl rfl rfl rfl (by decide) (Nat.le_of_ble_eq_true rfl) dX9_storm_139 (fun s139 p139 => ?_)
            have e139 : s139 = turnS τ := by rw [p139]; unfold turnS; rw [if_pos hc]; rfl
            rw [e139]
            refine z_iinc hO (L' := [(2, _), (6, _), (5, _), (3, _), (0, _), (1, _)]) 5 dX9_storm_142 rfl (by decide) rfl ?_
            refine z_goto hO 16 dX9_storm_145 (by decide) ?_
            first | exact z_pick [4, 5, 0] rfl (ih (i + 1) (turnS τ) (by rw [hτ]; rfl) (by omega) (by omega)) | (refine z_sg (show _ = turnS τ by unfold turnS; rw [if_neg hc]) ?_; exact z_pick [4, 5, 0] rfl (ih (i + 1) (turnS τ) (by rw [hτ]; rfl) (by omega) (by omega)))

/-- candidates of the first m slots -/
def cntA (V : Hv) : Nat → Int
  | 0 => 0
  | m + 1 => cntA V m + V.2.1 m
theorem cntA_s (V : Hv) (m : Nat) : cntA V (m + 1) = cntA V m + V.2.1 m := rfl
theorem cntA_r {V : Hv} (hV : WV V) (m : Nat) (hm : (m : Int) ≤ V.1) : 0 ≤ cntA V m ∧ cntA V m ≤ 4 * m := by
  induction m with
  | zero => exact ⟨Int.le_refl 0, Int.le_refl 0⟩
  | succ m ih => have := ih (by omega); have := hV.2.2 m (by omega) (by omega); rw [cntA_s]; omega

set_option maxHeartbeats 4000000 in
set_option maxRecDepth 100000 in
theorem lp_storm2 {g : G} {x : Cx} {σ : Sg} {P : Int → Sg → Prop} (hO : Ok g x RX9 cX9_storm 7 3) (hR : Rt g x (some .int) (pI P)) (hV : WV (mv (σ 114))) (hP : P (cntA (mv (σ 114)) (σ 114 0).toNat) σ) : ∀ (k i : Nat) (v : Int), v = cntA (mv (σ 114)) i → (i : Int) ≤ σ 114 0 → σ 114 0 - i < k → Z g x 7 152 [(0, .ref (g.2.2.1 113)), (2, vI v), (3, vI i)] [] σ := by
  have hn0 := hV.1
  have hn8 := hV.2.1
  rw [mv_n] at hn0 hn8
  intro k
  induction k with
  | zero => intro i v hv h1 h2; exact absurd h2 (by omega)
  | succ k ih =>
    intro i v hv h1 h2
    have hcr := cntA_r hV i (show (i : Int) ≤ σ 114 0 by omega)
    refine z_iload_n hO 2 dX9_storm_152 rfl ?_
    refine z_aload_n hO 0 dX9_storm_153 rfl ?_
    refine z_getR hO (114) fl_X9_7 rfl rfl dX9_storm_154 ?_
    refine z_iconst hO dX9_storm_157 ?_
    refine z_iald hO rfl (by omega) (by decide) dX9_storm_158 (fun r158 => ?_)
    refine z_icmp_ge hO 181 dX9_storm_159 (by decide) (by omega) (by omega) (fun c159 => ?_) (fun c159 => ?_)
    ·
      have hi3 : i = (σ 114 0).toNat := by omega
      subst hi3
      refine z_iload_n hO 1 dX9_storm_181 rfl ?_
      exact z_retI hO hR dX9_storm_182 (by rw [hv]; exact hP)
    ·
      have hW := hV.2.2 i (by omega) (show (i : Int) < σ 114 0 by omega)
      rw [mv_c] at hW
      refine z_iload_n hO 1 dX9_storm_162 rfl ?_
      refine z_aload_n hO 0 dX9_storm_163 rfl ?_
      refine z_getR hO (114) fl_X9_7 rfl rfl dX9_storm_164 ?_
      refine z_aload_n hO 0 dX9_storm_167 rfl ?_
      refine z_iload_n hO 2 dX9_storm_168 rfl ?_
      refine z_cvE hO (t_X9_at) cv_X9_79 rfl rfl rfl rfl (by decide) (Nat.le_of_ble_eq_true rfl) dX9_storm_169 ?_
      refine z_iald hO rfl (by omega) (by decide) dX9_storm_172 (fun r172 => ?_)
      refine z_iadd hO dX9_storm_173 ?_
      refine z_istore_n hO (L' := [(2, _), (0, _), (3, _)]) dX9_storm_174 (by decide) rfl ?_
      refine z_iinc hO (L' := [(3, _), (2, _), (0, _)]) 2 dX9_storm_175 rfl (by decide) rfl ?_
      refine z_goto hO 152 dX9_storm_178 (by decide) ?_
      exact z_pick [2, 1, 0] rfl (ih (i + 1) _ (by rw [cntA_s, mv_c, ← hv]) (by omega) (by omega))

set_option maxHeartbeats 4000000 in
set_option maxRecDepth 100000 in
theorem t_X9_storm {g : G} {σ : Sg} {v : Int} (rv : -2147483648 ≤ v ∧ v ≤ 2147483647) (hT : TI σ) : MM g mX9_storm [.ref (g.2.2.1 113), vI v] σ (pI (fun r σ' => (r, σ') = if ¬ (1 ≤ v ∧ v ≤ 40) then (-1, σ) else (cntA (mv (stormS σ v.toNat 114)) (stormS σ v.toNat 114 0).toNat, stormS σ v.toNat))) := by
  refine mm_of rfl (by decide) rfl rfl (Nat.le_of_ble_eq_true rfl) (fun x hO hR => ?_)
  refine z_iload_n hO 1 dX9_storm_0 rfl ?_
  refine z_i2l hO dX9_storm_1 (by omega) ?_
  refine z_lconst hO 1 dX9_storm_2 (by decide) ?_
  refine z_ldc2 hO k_X9_264 dX9_storm_3 ?_
  refine z_csQ hO (t_X9_in (by omega) (by omega) (by omega)) cs_X9_75 rfl rfl (by decide) (Nat.le_of_ble_eq_true rfl) dX9_storm_6 (fun c6 => ?_) (fun c6 => ?_)
  ·
    refine z_if_ne hO 14 dX9_storm_9 (by decide) (by decide) (fun c9 => ?_) (fun c9 => absurd c9 (by omega))
    refine z_iconst hO dX9_storm_14 ?_
    refine z_istore_n hO (L' := [(2, _), (0, _), (1, _)]) dX9_storm_15 (by decide) rfl ?_
    obtain ⟨n, hn⟩ : ∃ n : Nat, v = n := ⟨v.toNat, by omega⟩
    subst hn
    refine z_pick [1, 2, 0] rfl (lp_storm (n := n) hO hT (by omega) ?_ 41 0 σ rfl (by omega) (by omega))
    have hTn := TI_storm hT n
    refine z_iconst hO dX9_storm_148 ?_
    refine z_istore_n hO (L' := [(2, _), (0, _), (1, _)]) dX9_storm_149 (by decide) rfl ?_
    refine z_iconst hO dX9_storm_150 ?_
    refine z_istore_n hO (L' := [(3, _), (2, _), (0, _), (1, _)]) dX9_storm_151 (by decide) rfl ?_
    have hn0 := hTn.1.1
    have hn8 := hTn.1.2.1
    rw [mv_n] at hn0 hn8
    refine z_pick [2, 1, 0] rfl (lp_storm2 hO hR hTn.1 ?_ 9 0 0 rfl (by omega) (by omega))
    rw [if_neg (by omega), show ((n : Int)).toNat = n by omega]
  ·
    refine z_if_ne hO 14 dX9_storm_9 (by decide) (by decide) (fun c9 => absurd c9 (by omega)) (fun c9 => ?_)
    refine z_iconst hO dX9_storm_12 ?_
    exact z_retI hO hR dX9_storm_13 (by rw [if_pos (by omega)])
