set_option maxHeartbeats 4000000 in
set_option maxRecDepth 100000 in
theorem lp_counts1 {g : G} {x : Cx} {σ : Sg}  (hO : Ok g x RX9 cX9_counts 5 11)  (hE : Z g x 5 38 [(0, .ref (g.2.2.1 113)), (1, vI (256))] [] (fl σ 119 (0) (0 + (256 - 0)) (fun _ => 0))) : ∀ (k : Nat) (i : Int), 0 ≤ i → i ≤ 256 → 256 - i < k → Z g x 5 18 [(0, .ref (g.2.2.1 113)), (1, vI i)] [] (fl σ 119 (0) (0 + (i - 0)) (fun _ => 0)) := by
  intro k
  induction k with
  | zero => intro i h0 h1 h2; exact absurd h2 (by omega)
  | succ k ih =>
    intro i h0 h1 h2
    refine z_iload_n hO 1 dX9_counts_18 rfl ?_
    refine z_sipush hO dX9_counts_19 (by decide) ?_
    refine z_icmp_ge hO 38 dX9_counts_22 (by decide) (by omega) (by decide) (fun c22 => ?_) (fun c22 => ?_)
    ·
      have ei : i = 256 := by omega
      rw [ei]
      exact z_pick [0, 1] rfl hE
    ·
      refine z_aload_n hO 0 dX9_counts_25 rfl ?_
      refine z_getR hO (119) fl_X9_25 rfl rfl dX9_counts_26 ?_
      refine z_iload_n hO 1 dX9_counts_29 rfl ?_
      refine z_iconst hO dX9_counts_30 ?_
      refine z_iast hO rfl (by omega) (by decide) (by omega) dX9_counts_31 ?_
      refine z_iinc hO (L' := [(1, _), (0, _)]) 1 dX9_counts_32 rfl (by decide) rfl ?_
      refine z_goto hO 18 dX9_counts_35 (by decide) ?_
      refine z_sg (fl_s (by omega) (by omega) (by first | rfl | (congr 1; omega) | (dsimp only; congr 1; omega) | (simp only []; omega)) (show 0 + (i + 1 - 0) = _ by omega)) ?_
      exact z_pick [1, 0] rfl (ih (i + 1) (by omega) (by omega) (by omega))

/-- where the count stands behind the first i readings -/
noncomputable def ctI (σ : Sg) (i : Nat) (τ : Sg) : Prop := τ 113 15 = nCt (mv (σ 114)) (σ 114 1) (σ 114 2) i ∧ τ 113 14 = nxt (mv (σ 114)) (σ 114 1) i ∧ (∀ a w', 0 ≤ a → a < σ 114 0 → 0 ≤ w' → w' < 32 →  τ 119 (32 * a + w') = hvn (mv (σ 114)) (σ 114 1) (σ 114 2) i a w') ∧ (∀ q : Nat, q < i → ctd (mv (σ 114)) (σ 114 1) (σ 114 2) q = true → nCt (mv (σ 114)) (σ 114 1) (σ 114 2) q < 60 → τ 120 (nCt (mv (σ 114)) (σ 114 1) (σ 114 2) q) = q) ∧ Fm fCt σ τ ∧ τ 113 11 = bC (mv (σ 114)) (σ 114 1) ∧ τ 113 13 = (nm (mv (σ 114)) (bR (mv (σ 114)) (σ 114 1))).length ∧ rowIs (τ 118) (nm (mv (σ 114)) (bR (mv (σ 114)) (σ 114 1))) ∧ τ 113 8 = nSaid (mv (σ 114)) (rdN (mv (σ 114))).toNat ∧ τ 113 9 = nSnd (mv (σ 114)) (σ 114 1) (rdN (mv (σ 114))).toNat ∧ τ 113 10 = (bR (mv (σ 114)) (σ 114 1))

theorem z_gen {g : G} {x : Cx} {nL pc : Nat} {L : List (Nat × Value)} {S : List Value} {σ : Sg} (k : ∀ υ : Sg, υ = σ → Z g x nL pc L S υ) : Z g x nL pc L S σ := k σ rfl

set_option maxHeartbeats 4000000 in
set_option maxRecDepth 100000 in
theorem lp_counts2 {g : G} {x : Cx} {σ : Sg} (hO : Ok g x RX9 cX9_counts 5 11) (hV : WV (mv (σ 114))) (h2 : 0 ≤ (σ 114 2) ∧ (σ 114 2) ≤ 20) (hbs : snd (mv (σ 114)) (σ 114 1) (bR (mv (σ 114)) (σ 114 1)) = true) (hbc : 0 ≤ bC (mv (σ 114)) (σ 114 1) ∧ bC (mv (σ 114)) (σ 114 1) ≤ 9999) (hE : ∀ τ, ctI σ (rdN (mv (σ 114))).toNat τ → Z g x 5 234 [(0, .ref (g.2.2.1 113))] [] τ) : ∀ (f i : Nat) (τ : Sg), (i : Int) ≤ rdN (mv (σ 114)) → rdN (mv (σ 114)) - i < f → ctI σ i τ → Z g x 5 58 [(0, .ref (g.2.2.1 113)), (1, vI (rdN (mv (σ 114)))), (2, vI i)] [] τ := by
  have hn0 := hV.1
  have hn8 := hV.2.1
  rw [mv_n] at hn0 hn8
  intro f
  induction f with
  | zero => intro i τ h0 hk; exact absurd hk (by omega)
  | succ f ih =>
    intro i τ hi hf hI
    obtain ⟨e15, e14, hhv, hls, hFm, e11, e13, r118, e8, e9, e10⟩ := hI
    have e114 : τ 114 = σ 114 := hFm.row 114 (fun _ => rfl)
    refine z_iload_n hO 2 dX9_counts_58 rfl ?_
    refine z_iload_n hO 1 dX9_counts_59 rfl ?_
    refine z_icmp_ge hO 234 dX9_counts_60 (by decide) (by have := rdN_r hV; omega) (by have := rdN_r hV; omega) (fun c60 => ?_) (fun c60 => ?_)
    ·
      have hi3 : i = (rdN (mv (σ 114))).toNat := by have := rdN_r hV; omega
      subst hi3
      exact z_pick [0] rfl (hE τ ⟨e15, e14, hhv, hls, hFm, e11, e13, r118, e8, e9, e10⟩)
    ·
      have hrd := rdN_r hV
      have hcr := cst_r hV i
      have hnr := nCt_r (mv (σ 114)) (σ 114 1) (σ 114 2) i
      have hxr := nxt_r hV (σ 114 1) i
      have hln := said_r hV (snd_said hbs)
      refine z_aload_n hO 0 dX9_counts_63 rfl ?_
      refine z_iload_n hO 2 dX9_counts_64 rfl ?_
      refine z_cvB hO (t_X9_takes (r := i) (by rw [e114]; exact hV) (by omega)) cv_X9_144 rfl rfl rfl rfl (by decide) (Nat.le_of_ble_eq_true rfl) dX9_counts_65 (fun s65 p65 => ?_) (fun s65 p65 => ?_)
      ·
        rw [e114] at p65
        have q15 : s65 113 15 = _ := (p65.2.2 113 15 rfl).trans e15
        have q14 : s65 113 14 = _ := (p65.2.2 113 14 rfl).trans e14
        have q11 : s65 113 11 = _ := (p65.2.2 113 11 rfl).trans e11
        have q13 : s65 113 13 = _ := (p65.2.2 113 13 rfl).trans e13
        have q114 : s65 114 = σ 114 := (p65.2.2.row 114 (fun _ => rfl)).trans e114
        have q119 : s65 119 = τ 119 := p65.2.2.row 119 (fun _ => rfl)
        have q120 : s65 120 = τ 120 := p65.2.2.row 120 (fun _ => rfl)
        have q118 : s65 118 = τ 118 := p65.2.2.row 118 (fun _ => rfl)
        have hF2 : Fm fCt σ s65 := hFm.trans (p65.2.2.mono fTk_Ct)
        have q8 : s65 113 8 = _ := (p65.2.2 113 8 rfl).trans e8
        have q9 : s65 113 9 = _ := (p65.2.2 113 9 rfl).trans e9
        have q10 : s65 113 10 = _ := (p65.2.2 113 10 rfl).trans e10
        have hsd : said (mv (σ 114)) i = true := p65.1.1.symm
        have q6 : s65 113 6 = (nm (mv (σ 114)) i).length := p65.1.2.1
        have q117 : rowIs (s65 117) (nm (mv (σ 114)) i) := p65.1.2.2.1
        have q4 : s65 113 4 = cst (mv (σ 114)) i := p65.1.2.2.2
        have hsr := said_r hV hsd
        refine z_if_eq hO 82 dX9_counts_68 (by decide) (by decide) (fun c68 => absurd c68 (by omega)) (fun c68 => ?_)
        refine z_aload_n hO 0 dX9_counts_71 rfl ?_
        refine z_cvQ hO (t_X9_holds (by rw [q6]; exact row_NR q117 hsr)) cv_X9_148 rfl rfl rfl rfl (by decide) (Nat.le_of_ble_eq_true rfl) dX9_counts_72 (fun c72 => ?_) (fun c72 => ?_)
        ·
          try simp only [fl_row_ne, fl_ne, up_row_ne, up_ne, up_eq, up_nk, up_up, up_self, ne_eq, Nat.reduceEqDiff, Int.reduceEq, reduceCtorEq, not_false_eq_true, not_true_eq_false, e114, q15, q14, q11, q13, q114, q6, q4] at c72 ⊢
          have c72 : hld (σ 114 1) (lrow (nm (mv (σ 114)) i)) (nm (mv (σ 114)) i).length := (hld_row q117 hsr.1).mp c72
          have hsn : snd (mv (σ 114)) (σ 114 1) i = true := snd_hld hsd c72
          refine z_if_eq hO 82 dX9_counts_75 (by decide) (by decide) (fun c75 => absurd c75 (by omega)) (fun c75 => ?_)
          refine z_iconst hO dX9_counts_78 ?_
          refine z_goto hO 83 dX9_counts_79 (by decide) ?_
          refine z_istore_n hO (L' := [(3, _), (0, _), (1, _), (2, _)]) dX9_counts_83 (by decide) rfl ?_
          refine z_aload_n hO 1 dX9_counts_84 rfl ?_
          refine z_iload_n hO 0 dX9_counts_85 rfl ?_
          refine z_if_eq hO 114 dX9_counts_86 (by decide) (by decide) (fun c86 => absurd c86 (by omega)) (fun c86 => ?_)
          refine z_aload_n hO 1 dX9_counts_89 rfl ?_
          refine z_getI hO 4 fl_X9_123 rfl rfl rfl dX9_counts_90 (fun r90 => ?_)
          try simp only [fl_row_ne, fl_ne, up_row_ne, up_ne, up_eq, up_nk, up_up, up_self, ne_eq, Nat.reduceEqDiff, Int.reduceEq, reduceCtorEq, not_false_eq_true, not_true_eq_false, e114, q15, q14, q11, q13, q114, q6, q4] at r90 ⊢
          refine z_aload_n hO 1 dX9_counts_93 rfl ?_
          refine z_getI hO 14 fl_X9_160 rfl rfl rfl dX9_counts_94 (fun r94 => ?_)
          try simp only [fl_row_ne, fl_ne, up_row_ne, up_ne, up_eq, up_nk, up_up, up_self, ne_eq, Nat.reduceEqDiff, Int.reduceEq, reduceCtorEq, not_false_eq_true, not_true_eq_false, e114, q15, q14, q11, q13, q114, q6, q4] at r94 ⊢
          refine z_icmp_ge hO 114 dX9_counts_97 (by decide) (by omega) (by omega) (fun c97 => ?_) (fun c97 => ?_)
          ·
            have hnx := nxt_f (V := mv (σ 114)) (K := σ 114 1) (m := i) (fun z => by have := z.2.1; omega)
            refine z_aload_n hO 1 dX9_counts_114 rfl ?_
            refine z_getI hO 14 fl_X9_160 rfl rfl rfl dX9_counts_115 (fun r115 => ?_)
            try simp only [fl_row_ne, fl_ne, up_row_ne, up_ne, up_eq, up_nk, up_up, up_self, ne_eq, Nat.reduceEqDiff, Int.reduceEq, reduceCtorEq, not_false_eq_true, not_true_eq_false, e114, q15, q14, q11, q13, q114, q6, q4] at r115 ⊢
            refine z_putI hO 14 fp_X9_160 rfl rfl rfl (by omega) rfl rfl dX9_counts_118 ?_
            refine z_iload_n hO 0 dX9_counts_121 rfl ?_
            refine z_if_eq hO 228 dX9_counts_122 (by decide) (by decide) (fun c122 => absurd c122 (by omega)) (fun c122 => ?_)
            refine z_aload_n hO 1 dX9_counts_125 rfl ?_
            refine z_getI hO 4 fl_X9_123 rfl rfl rfl dX9_counts_126 (fun r126 => ?_)
            try simp only [fl_row_ne, fl_ne, up_row_ne, up_ne, up_eq, up_nk, up_up, up_self, ne_eq, Nat.reduceEqDiff, Int.reduceEq, reduceCtorEq, not_false_eq_true, not_true_eq_false, e114, q15, q14, q11, q13, q114, q6, q4] at r126 ⊢
            refine z_aload_n hO 1 dX9_counts_129 rfl ?_
            refine z_getI hO 11 fl_X9_138 rfl rfl rfl dX9_counts_130 (fun r130 => ?_)
            try simp only [fl_row_ne, fl_ne, up_row_ne, up_ne, up_eq, up_nk, up_up, up_self, ne_eq, Nat.reduceEqDiff, Int.reduceEq, reduceCtorEq, not_false_eq_true, not_true_eq_false, e114, q15, q14, q11, q13, q114, q6, q4] at r130 ⊢
            refine z_aload_n hO 1 dX9_counts_133 rfl ?_
            refine z_getR hO (114) fl_X9_7 rfl rfl dX9_counts_134 ?_
            refine z_iconst hO dX9_counts_137 ?_
            refine z_iald hO rfl (by omega) (by decide) dX9_counts_138 (fun r138 => ?_)
            try simp only [fl_row_ne, fl_ne, up_row_ne, up_ne, up_eq, up_nk, up_up, up_self, ne_eq, Nat.reduceEqDiff, Int.reduceEq, reduceCtorEq, not_false_eq_true, not_true_eq_false, e114, q15, q14, q11, q13, q114, q6, q4] at r138 ⊢
            refine z_iadd hO dX9_counts_139 ?_
            refine z_icmp_gt hO 228 dX9_counts_140 (by decide) (by omega) (by omega) (fun c140 => ?_) (fun c140 => ?_)
            ·
              have hct : ctd (mv (σ 114)) (σ 114 1) (σ 114 2) i = false := by
                cases hx : ctd (mv (σ 114)) (σ 114 1) (σ 114 2) i
                · rfl
                · exfalso; have := (ctd_iff.mp hx).2; omega
              refine z_iinc hO (L' := [(2, _), (3, _), (0, _), (1, _)]) 3 dX9_counts_228 rfl (by decide) rfl ?_
              refine z_goto hO 58 dX9_counts_231 (by decide) ?_
              refine z_pick [2, 3, 0] rfl (ih (i + 1) _ (by omega) (by omega) ⟨?_, ?_, ?_, ?_, ?_, ?_, ?_, ?_, ?_, ?_, ?_⟩)
              · rw [nCt_s, hct]; simp only [fl_row_ne, fl_ne, up_row_ne, up_ne, up_eq, up_nk, up_up, up_self, ne_eq, Nat.reduceEqDiff, Int.reduceEq, reduceCtorEq, not_false_eq_true, not_true_eq_false, q15, q14, q11, q13, q8, q9, q10]; simp [b2i]
              · rw [hnx]; simp only [fl_row_ne, fl_ne, up_row_ne, up_ne, up_eq, up_nk, up_up, up_self, ne_eq, Nat.reduceEqDiff, Int.reduceEq, reduceCtorEq, not_false_eq_true, not_true_eq_false]
              · intro a w' h0 h1 h2 h3; rw [hvn_f hct]; simp only [fl_row_ne, fl_ne, up_row_ne, up_ne, up_eq, up_nk, up_up, up_self, ne_eq, Nat.reduceEqDiff, Int.reduceEq, reduceCtorEq, not_false_eq_true, not_true_eq_false]; rw [q119]; exact hhv a w' h0 h1 h2 h3
              · intro q h0 h1 h2; simp only [fl_row_ne, fl_ne, up_row_ne, up_ne, up_eq, up_nk, up_up, up_self, ne_eq, Nat.reduceEqDiff, Int.reduceEq, reduceCtorEq, not_false_eq_true, not_true_eq_false]; rw [q120]; refine hls q ?_ h1 h2; by_cases e : q = i; (subst e; rw [hct] at h1; cases h1); omega
              · exact hF2.up rfl
              · simp only [fl_row_ne, fl_ne, up_row_ne, up_ne, up_eq, up_nk, up_up, up_self, ne_eq, Nat.reduceEqDiff, Int.reduceEq, reduceCtorEq, not_false_eq_true, not_true_eq_false, q15, q14, q11, q13, q8, q9, q10]
              · simp only [fl_row_ne, fl_ne, up_row_ne, up_ne, up_eq, up_nk, up_up, up_self, ne_eq, Nat.reduceEqDiff, Int.reduceEq, reduceCtorEq, not_false_eq_true, not_true_eq_false, q15, q14, q11, q13, q8, q9, q10]
              · simp only [fl_row_ne, fl_ne, up_row_ne, up_ne, up_eq, up_nk, up_up, up_self, ne_eq, Nat.reduceEqDiff, Int.reduceEq, reduceCtorEq, not_false_eq_true, not_true_eq_false]; rw [q118]; exact r118
              · simp only [fl_row_ne, fl_ne, up_row_ne, up_ne, up_eq, up_nk, up_up, up_self, ne_eq, Nat.reduceEqDiff, Int.reduceEq, reduceCtorEq, not_false_eq_true, not_true_eq_false, q15, q14, q11, q13, q8, q9, q10]
              · simp only [fl_row_ne, fl_ne, up_row_ne, up_ne, up_eq, up_nk, up_up, up_self, ne_eq, Nat.reduceEqDiff, Int.reduceEq, reduceCtorEq, not_false_eq_true, not_true_eq_false, q15, q14, q11, q13, q8, q9, q10]
              · simp only [fl_row_ne, fl_ne, up_row_ne, up_ne, up_eq, up_nk, up_up, up_self, ne_eq, Nat.reduceEqDiff, Int.reduceEq, reduceCtorEq, not_false_eq_true, not_true_eq_false, q15, q14, q11, q13, q8, q9, q10]
            ·
              have hct : ctd (mv (σ 114)) (σ 114 1) (σ 114 2) i = true := ctd_iff.mpr ⟨hsn, by omega⟩
              refine z_aload_n hO 1 dX9_counts_143 rfl ?_
              refine z_getI hO 15 fl_X9_157 rfl rfl rfl dX9_counts_144 (fun r144 => ?_)
              try simp only [fl_row_ne, fl_ne, up_row_ne, up_ne, up_eq, up_nk, up_up, up_self, ne_eq, Nat.reduceEqDiff, Int.reduceEq, reduceCtorEq, not_false_eq_true, not_true_eq_false, e114, q15, q14, q11, q13, q114, q6, q4] at r144 ⊢
              refine z_bipush hO dX9_counts_147 (by decide) ?_
              refine z_icmp_ge hO 162 dX9_counts_149 (by decide) (by omega) (by decide) (fun c149 => ?_) (fun c149 => ?_)
              ·
                refine z_aload_n hO 1 dX9_counts_162 rfl ?_
                refine z_dup hO dX9_counts_163 rfl ?_
                refine z_getI hO 15 fl_X9_157 rfl rfl rfl dX9_counts_164 (fun r164 => ?_)
                try simp only [fl_row_ne, fl_ne, up_row_ne, up_ne, up_eq, up_nk, up_up, up_self, ne_eq, Nat.reduceEqDiff, Int.reduceEq, reduceCtorEq, not_false_eq_true, not_true_eq_false, e114, q15, q14, q11, q13, q114, q6, q4] at r164 ⊢
                refine z_iconst hO dX9_counts_167 ?_
                refine z_iadd hO dX9_counts_168 ?_
                refine z_putI hO 15 fp_X9_157 rfl rfl rfl (by omega) rfl rfl dX9_counts_169 ?_
                refine z_iconst hO dX9_counts_172 ?_
                refine z_istore hO (L' := [(4, _), (3, _), (0, _), (1, _), (2, _)]) dX9_counts_173 (by decide) rfl ?_
                refine z_gen (fun υ hυ => ?_)
                have v114 : υ 114 = σ 114 := by rw [hυ]; simp only [fl_row_ne, fl_ne, up_row_ne, up_ne, up_eq, up_nk, up_up, up_self, ne_eq, Nat.reduceEqDiff, Int.reduceEq, reduceCtorEq, not_false_eq_true, not_true_eq_false]; exact q114
                have v115 : ∀ j, 0 ≤ j → j < σ 114 0 → υ 115 j = pk (mv (σ 114)) i j := by intro j h0 h1; rw [hυ]; simp only [fl_row_ne, fl_ne, up_row_ne, up_ne, up_eq, up_nk, up_up, up_self, ne_eq, Nat.reduceEqDiff, Int.reduceEq, reduceCtorEq, not_false_eq_true, not_true_eq_false]; exact p65.2.1 j h0 h1
                have v119 : υ 119 = τ 119 := by rw [hυ]; simp only [fl_row_ne, fl_ne, up_row_ne, up_ne, up_eq, up_nk, up_up, up_self, ne_eq, Nat.reduceEqDiff, Int.reduceEq, reduceCtorEq, not_false_eq_true, not_true_eq_false]; exact q119
                refine z_pick [2, 3, 4, 0] rfl (lp_counts3 (σ := υ) hO (by rw [v114]; exact hV) (by rw [v114]; intro j h0 h1; rw [v115 j h0 h1]; exact pk_WP hV i j h0 h1) (by rw [v114, v119]; intro a w' h0 h1 h2 h3; rw [hhv a w' h0 h1 h2 h3]; have := hvn_r (mv (σ 114)) (σ 114 1) (σ 114 2) i a w'; omega) ?_ 9 0 υ (by rw [v114]; omega) (by rw [v114]; omega) Fm.rf (fun a w' _ _ _ _ => by rw [if_neg (fun q => by omega)]; omega))
                rw [v114, v119]
                intro ω g1 g2
                refine z_iinc hO (L' := [(2, _), (0, _), (1, _)]) 2 dX9_counts_228 rfl (by decide) rfl ?_
                refine z_goto hO 58 dX9_counts_231 (by decide) ?_
                refine z_pick [1, 2, 0] rfl (ih (i + 1) ω (by omega) (by omega) ⟨?_, ?_, ?_, ?_, ?_, ?_, ?_, ?_, ?_, ?_, ?_⟩)
                · rw [nCt_s, hct, g1 113 15 rfl, hυ]; simp only [fl_row_ne, fl_ne, up_row_ne, up_ne, up_eq, up_nk, up_up, up_self, ne_eq, Nat.reduceEqDiff, Int.reduceEq, reduceCtorEq, not_false_eq_true, not_true_eq_false, q15, q14, q11, q13, q8, q9, q10]; simp [b2i]
                · rw [hnx, g1 113 14 rfl, hυ]; simp only [fl_row_ne, fl_ne, up_row_ne, up_ne, up_eq, up_nk, up_up, up_self, ne_eq, Nat.reduceEqDiff, Int.reduceEq, reduceCtorEq, not_false_eq_true, not_true_eq_false]
                · intro a w' h0 h1 h2 h3; rw [hvn_t hct, g2 a w' h0 h1 h2 h3, hhv a w' h0 h1 h2 h3, v115 a h0 h1]
                · intro q h0 h1 h2; rw [g1 120 _ rfl, hυ]
                  by_cases e : q = i
                  · subst e; simp only [fl_row_ne, fl_ne, up_row_ne, up_ne, up_eq, up_nk, up_up, up_self, ne_eq, Nat.reduceEqDiff, Int.reduceEq, reduceCtorEq, not_false_eq_true, not_true_eq_false]; first | (exfalso; omega) | skip
                  · have hlt : nCt (mv (σ 114)) (σ 114 1) (σ 114 2) q < nCt (mv (σ 114)) (σ 114 1) (σ 114 2) i := by
                      have h5 := nCt_mono (mv (σ 114)) (σ 114 1) (σ 114 2) (show q + 1 ≤ i by omega)
                      rw [nCt_s, h1] at h5
                      have e1 : b2i true = 1 := rfl
                      omega
                    have := hls q (by omega) h1 h2
                    first | (simp only [fl_row_ne, fl_ne, up_row_ne, up_ne, up_eq, up_nk, up_up, up_self, ne_eq, Nat.reduceEqDiff, Int.reduceEq, reduceCtorEq, not_false_eq_true, not_true_eq_false]; rw [q120]; exact this) | (rw [up_ne (by decide), up_nk (by omega), up_ne (by decide), q120]; exact this)
                · refine Fm.trans ?_ (g1.mono f119_Ct); rw [hυ]; first | exact (hF2.up rfl).up rfl | exact ((hF2.up rfl).up rfl).up rfl
                · rw [g1 113 11 rfl, hυ]; simp only [fl_row_ne, fl_ne, up_row_ne, up_ne, up_eq, up_nk, up_up, up_self, ne_eq, Nat.reduceEqDiff, Int.reduceEq, reduceCtorEq, not_false_eq_true, not_true_eq_false, q15, q14, q11, q13, q8, q9, q10]
                · rw [g1 113 13 rfl, hυ]; simp only [fl_row_ne, fl_ne, up_row_ne, up_ne, up_eq, up_nk, up_up, up_self, ne_eq, Nat.reduceEqDiff, Int.reduceEq, reduceCtorEq, not_false_eq_true, not_true_eq_false, q15, q14, q11, q13, q8, q9, q10]
                · rw [g1.row 118 (fun _ => rfl), hυ]; simp only [fl_row_ne, fl_ne, up_row_ne, up_ne, up_eq, up_nk, up_up, up_self, ne_eq, Nat.reduceEqDiff, Int.reduceEq, reduceCtorEq, not_false_eq_true, not_true_eq_false]; rw [q118]; exact r118
                · rw [g1 113 8 rfl, hυ]; simp only [fl_row_ne, fl_ne, up_row_ne, up_ne, up_eq, up_nk, up_up, up_self, ne_eq, Nat.reduceEqDiff, Int.reduceEq, reduceCtorEq, not_false_eq_true, not_true_eq_false, q15, q14, q11, q13, q8, q9, q10]
                · rw [g1 113 9 rfl, hυ]; simp only [fl_row_ne, fl_ne, up_row_ne, up_ne, up_eq, up_nk, up_up, up_self, ne_eq, Nat.reduceEqDiff, Int.reduceEq, reduceCtorEq, not_false_eq_true, not_true_eq_false, q15, q14, q11, q13, q8, q9, q10]
                · rw [g1 113 10 rfl, hυ]; simp only [fl_row_ne, fl_ne, up_row_ne, up_ne, up_eq, up_nk, up_up, up_self, ne_eq, Nat.reduceEqDiff, Int.reduceEq, reduceCtorEq, not_false_eq_true, not_true_eq_false, q15, q14, q11, q13, q8, q9, q10]
              ·
                refine z_aload_n hO 1 dX9_counts_152 rfl ?_
                refine z_getR hO (120) fl_X9_28 rfl rfl dX9_counts_153 ?_
                refine z_aload_n hO 1 dX9_counts_156 rfl ?_
                refine z_getI hO 15 fl_X9_157 rfl rfl rfl dX9_counts_157 (fun r157 => ?_)
                try simp only [fl_row_ne, fl_ne, up_row_ne, up_ne, up_eq, up_nk, up_up, up_self, ne_eq, Nat.reduceEqDiff, Int.reduceEq, reduceCtorEq, not_false_eq_true, not_true_eq_false, e114, q15, q14, q11, q13, q114, q6, q4] at r157 ⊢
                refine z_iload_n hO 3 dX9_counts_160 rfl ?_
                refine z_iast hO rfl (by omega) (by decide) (by omega) dX9_counts_161 ?_
                refine z_aload_n hO 1 dX9_counts_162 rfl ?_
                refine z_dup hO dX9_counts_163 rfl ?_
                refine z_getI hO 15 fl_X9_157 rfl rfl rfl dX9_counts_164 (fun r164 => ?_)
                try simp only [fl_row_ne, fl_ne, up_row_ne, up_ne, up_eq, up_nk, up_up, up_self, ne_eq, Nat.reduceEqDiff, Int.reduceEq, reduceCtorEq, not_false_eq_true, not_true_eq_false, e114, q15, q14, q11, q13, q114, q6, q4] at r164 ⊢
                refine z_iconst hO dX9_counts_167 ?_
                refine z_iadd hO dX9_counts_168 ?_
                refine z_putI hO 15 fp_X9_157 rfl rfl rfl (by omega) rfl rfl dX9_counts_169 ?_
                refine z_iconst hO dX9_counts_172 ?_
                refine z_istore hO (L' := [(4, _), (3, _), (0, _), (1, _), (2, _)]) dX9_counts_173 (by decide) rfl ?_
                refine z_gen (fun υ hυ => ?_)
                have v114 : υ 114 = σ 114 := by rw [hυ]; simp only [fl_row_ne, fl_ne, up_row_ne, up_ne, up_eq, up_nk, up_up, up_self, ne_eq, Nat.reduceEqDiff, Int.reduceEq, reduceCtorEq, not_false_eq_true, not_true_eq_false]; exact q114
                have v115 : ∀ j, 0 ≤ j → j < σ 114 0 → υ 115 j = pk (mv (σ 114)) i j := by intro j h0 h1; rw [hυ]; simp only [fl_row_ne, fl_ne, up_row_ne, up_ne, up_eq, up_nk, up_up, up_self, ne_eq, Nat.reduceEqDiff, Int.reduceEq, reduceCtorEq, not_false_eq_true, not_true_eq_false]; exact p65.2.1 j h0 h1
                have v119 : υ 119 = τ 119 := by rw [hυ]; simp only [fl_row_ne, fl_ne, up_row_ne, up_ne, up_eq, up_nk, up_up, up_self, ne_eq, Nat.reduceEqDiff, Int.reduceEq, reduceCtorEq, not_false_eq_true, not_true_eq_false]; exact q119
                refine z_pick [2, 3, 4, 0] rfl (lp_counts3 (σ := υ) hO (by rw [v114]; exact hV) (by rw [v114]; intro j h0 h1; rw [v115 j h0 h1]; exact pk_WP hV i j h0 h1) (by rw [v114, v119]; intro a w' h0 h1 h2 h3; rw [hhv a w' h0 h1 h2 h3]; have := hvn_r (mv (σ 114)) (σ 114 1) (σ 114 2) i a w'; omega) ?_ 9 0 υ (by rw [v114]; omega) (by rw [v114]; omega) Fm.rf (fun a w' _ _ _ _ => by rw [if_neg (fun q => by omega)]; omega))
                rw [v114, v119]
                intro ω g1 g2
                refine z_iinc hO (L' := [(2, _), (0, _), (1, _)]) 2 dX9_counts_228 rfl (by decide) rfl ?_
                refine z_goto hO 58 dX9_counts_231 (by decide) ?_
                refine z_pick [1, 2, 0] rfl (ih (i + 1) ω (by omega) (by omega) ⟨?_, ?_, ?_, ?_, ?_, ?_, ?_, ?_, ?_, ?_, ?_⟩)
                · rw [nCt_s, hct, g1 113 15 rfl, hυ]; simp only [fl_row_ne, fl_ne, up_row_ne, up_ne, up_eq, up_nk, up_up, up_self, ne_eq, Nat.reduceEqDiff, Int.reduceEq, reduceCtorEq, not_false_eq_true, not_true_eq_false, q15, q14, q11, q13, q8, q9, q10]; simp [b2i]
                · rw [hnx, g1 113 14 rfl, hυ]; simp only [fl_row_ne, fl_ne, up_row_ne, up_ne, up_eq, up_nk, up_up, up_self, ne_eq, Nat.reduceEqDiff, Int.reduceEq, reduceCtorEq, not_false_eq_true, not_true_eq_false]
                · intro a w' h0 h1 h2 h3; rw [hvn_t hct, g2 a w' h0 h1 h2 h3, hhv a w' h0 h1 h2 h3, v115 a h0 h1]
                · intro q h0 h1 h2; rw [g1 120 _ rfl, hυ]
                  by_cases e : q = i
                  · subst e; simp only [fl_row_ne, fl_ne, up_row_ne, up_ne, up_eq, up_nk, up_up, up_self, ne_eq, Nat.reduceEqDiff, Int.reduceEq, reduceCtorEq, not_false_eq_true, not_true_eq_false]; first | (exfalso; omega) | skip
                  · have hlt : nCt (mv (σ 114)) (σ 114 1) (σ 114 2) q < nCt (mv (σ 114)) (σ 114 1) (σ 114 2) i := by
                      have h5 := nCt_mono (mv (σ 114)) (σ 114 1) (σ 114 2) (show q + 1 ≤ i by omega)
                      rw [nCt_s, h1] at h5
                      have e1 : b2i true = 1 := rfl
                      omega
                    have := hls q (by omega) h1 h2
                    first | (simp only [fl_row_ne, fl_ne, up_row_ne, up_ne, up_eq, up_nk, up_up, up_self, ne_eq, Nat.reduceEqDiff, Int.reduceEq, reduceCtorEq, not_false_eq_true, not_true_eq_false]; rw [q120]; exact this) | (rw [up_ne (by decide), up_nk (by omega), up_ne (by decide), q120]; exact this)
                · refine Fm.trans ?_ (g1.mono f119_Ct); rw [hυ]; first | exact (hF2.up rfl).up rfl | exact ((hF2.up rfl).up rfl).up rfl
                · rw [g1 113 11 rfl, hυ]; simp only [fl_row_ne, fl_ne, up_row_ne, up_ne, up_eq, up_nk, up_up, up_self, ne_eq, Nat.reduceEqDiff, Int.reduceEq, reduceCtorEq, not_false_eq_true, not_true_eq_false, q15, q14, q11, q13, q8, q9, q10]
                · rw [g1 113 13 rfl, hυ]; simp only [fl_row_ne, fl_ne, up_row_ne, up_ne, up_eq, up_nk, up_up, up_self, ne_eq, Nat.reduceEqDiff, Int.reduceEq, reduceCtorEq, not_false_eq_true, not_true_eq_false, q15, q14, q11, q13, q8, q9, q10]
                · rw [g1.row 118 (fun _ => rfl), hυ]; simp only [fl_row_ne, fl_ne, up_row_ne, up_ne, up_eq, up_nk, up_up, up_self, ne_eq, Nat.reduceEqDiff, Int.reduceEq, reduceCtorEq, not_false_eq_true, not_true_eq_false]; rw [q118]; exact r118
                · rw [g1 113 8 rfl, hυ]; simp only [fl_row_ne, fl_ne, up_row_ne, up_ne, up_eq, up_nk, up_up, up_self, ne_eq, Nat.reduceEqDiff, Int.reduceEq, reduceCtorEq, not_false_eq_true, not_true_eq_false, q15, q14, q11, q13, q8, q9, q10]
                · rw [g1 113 9 rfl, hυ]; simp only [fl_row_ne, fl_ne, up_row_ne, up_ne, up_eq, up_nk, up_up, up_self, ne_eq, Nat.reduceEqDiff, Int.reduceEq, reduceCtorEq, not_false_eq_true, not_true_eq_false, q15, q14, q11, q13, q8, q9, q10]
                · rw [g1 113 10 rfl, hυ]; simp only [fl_row_ne, fl_ne, up_row_ne, up_ne, up_eq, up_nk, up_up, up_self, ne_eq, Nat.reduceEqDiff, Int.reduceEq, reduceCtorEq, not_false_eq_true, not_true_eq_false, q15, q14, q11, q13, q8, q9, q10]
          ·
            refine z_aload_n hO 1 dX9_counts_100 rfl ?_
            refine z_cvQ hO (t_X9_isAsBest (by rw [q13]; omega)) cv_X9_163 rfl rfl rfl rfl (by decide) (Nat.le_of_ble_eq_true rfl) dX9_counts_101 (fun c101 => ?_) (fun c101 => ?_)
            ·
              try simp only [fl_row_ne, fl_ne, up_row_ne, up_ne, up_eq, up_nk, up_up, up_self, ne_eq, Nat.reduceEqDiff, Int.reduceEq, reduceCtorEq, not_false_eq_true, not_true_eq_false, e114, q15, q14, q11, q13, q114, q6, q4] at c101 ⊢
              have hsame : nm (mv (σ 114)) i = nm (mv (σ 114)) (bR (mv (σ 114)) (σ 114 1)) := (rows_eq (r' := s65 118) q117 (by rw [q118]; exact r118)).mp c101
              have hnx := nxt_f (V := mv (σ 114)) (K := σ 114 1) (m := i) (fun z => z.2.2 hsame)
              refine z_if_ne hO 114 dX9_counts_104 (by decide) (by decide) (fun c104 => ?_) (fun c104 => absurd c104 (by omega))
              refine z_aload_n hO 1 dX9_counts_114 rfl ?_
              refine z_getI hO 14 fl_X9_160 rfl rfl rfl dX9_counts_115 (fun r115 => ?_)
              try simp only [fl_row_ne, fl_ne, up_row_ne, up_ne, up_eq, up_nk, up_up, up_self, ne_eq, Nat.reduceEqDiff, Int.reduceEq, reduceCtorEq, not_false_eq_true, not_true_eq_false, e114, q15, q14, q11, q13, q114, q6, q4] at r115 ⊢
              refine z_putI hO 14 fp_X9_160 rfl rfl rfl (by omega) rfl rfl dX9_counts_118 ?_
              refine z_iload_n hO 0 dX9_counts_121 rfl ?_
              refine z_if_eq hO 228 dX9_counts_122 (by decide) (by decide) (fun c122 => absurd c122 (by omega)) (fun c122 => ?_)
              refine z_aload_n hO 1 dX9_counts_125 rfl ?_
              refine z_getI hO 4 fl_X9_123 rfl rfl rfl dX9_counts_126 (fun r126 => ?_)
              try simp only [fl_row_ne, fl_ne, up_row_ne, up_ne, up_eq, up_nk, up_up, up_self, ne_eq, Nat.reduceEqDiff, Int.reduceEq, reduceCtorEq, not_false_eq_true, not_true_eq_false, e114, q15, q14, q11, q13, q114, q6, q4] at r126 ⊢
              refine z_aload_n hO 1 dX9_counts_129 rfl ?_
              refine z_getI hO 11 fl_X9_138 rfl rfl rfl dX9_counts_130 (fun r130 => ?_)
              try simp only [fl_row_ne, fl_ne, up_row_ne, up_ne, up_eq, up_nk, up_up, up_self, ne_eq, Nat.reduceEqDiff, Int.reduceEq, reduceCtorEq, not_false_eq_true, not_true_eq_false, e114, q15, q14, q11, q13, q114, q6, q4] at r130 ⊢
              refine z_aload_n hO 1 dX9_counts_133 rfl ?_
              refine z_getR hO (114) fl_X9_7 rfl rfl dX9_counts_134 ?_
              refine z_iconst hO dX9_counts_137 ?_
              refine z_iald hO rfl (by omega) (by decide) dX9_counts_138 (fun r138 => ?_)
              try simp only [fl_row_ne, fl_ne, up_row_ne, up_ne, up_eq, up_nk, up_up, up_self, ne_eq, Nat.reduceEqDiff, Int.reduceEq, reduceCtorEq, not_false_eq_true, not_true_eq_false, e114, q15, q14, q11, q13, q114, q6, q4] at r138 ⊢
              refine z_iadd hO dX9_counts_139 ?_
              refine z_icmp_gt hO 228 dX9_counts_140 (by decide) (by omega) (by omega) (fun c140 => ?_) (fun c140 => ?_)
              ·
                have hct : ctd (mv (σ 114)) (σ 114 1) (σ 114 2) i = false := by
                  cases hx : ctd (mv (σ 114)) (σ 114 1) (σ 114 2) i
                  · rfl
                  · exfalso; have := (ctd_iff.mp hx).2; omega
                refine z_iinc hO (L' := [(2, _), (3, _), (0, _), (1, _)]) 3 dX9_counts_228 rfl (by decide) rfl ?_
                refine z_goto hO 58 dX9_counts_231 (by decide) ?_
                refine z_pick [2, 3, 0] rfl (ih (i + 1) _ (by omega) (by omega) ⟨?_, ?_, ?_, ?_, ?_, ?_, ?_, ?_, ?_, ?_, ?_⟩)
                · rw [nCt_s, hct]; simp only [fl_row_ne, fl_ne, up_row_ne, up_ne, up_eq, up_nk, up_up, up_self, ne_eq, Nat.reduceEqDiff, Int.reduceEq, reduceCtorEq, not_false_eq_true, not_true_eq_false, q15, q14, q11, q13, q8, q9, q10]; simp [b2i]
                · rw [hnx]; simp only [fl_row_ne, fl_ne, up_row_ne, up_ne, up_eq, up_nk, up_up, up_self, ne_eq, Nat.reduceEqDiff, Int.reduceEq, reduceCtorEq, not_false_eq_true, not_true_eq_false]
                · intro a w' h0 h1 h2 h3; rw [hvn_f hct]; simp only [fl_row_ne, fl_ne, up_row_ne, up_ne, up_eq, up_nk, up_up, up_self, ne_eq, Nat.reduceEqDiff, Int.reduceEq, reduceCtorEq, not_false_eq_true, not_true_eq_false]; rw [q119]; exact hhv a w' h0 h1 h2 h3
                · intro q h0 h1 h2; simp only [fl_row_ne, fl_ne, up_row_ne, up_ne, up_eq, up_nk, up_up, up_self, ne_eq, Nat.reduceEqDiff, Int.reduceEq, reduceCtorEq, not_false_eq_true, not_true_eq_false]; rw [q120]; refine hls q ?_ h1 h2; by_cases e : q = i; (subst e; rw [hct] at h1; cases h1); omega
                · exact hF2.up rfl
                · simp only [fl_row_ne, fl_ne, up_row_ne, up_ne, up_eq, up_nk, up_up, up_self, ne_eq, Nat.reduceEqDiff, Int.reduceEq, reduceCtorEq, not_false_eq_true, not_true_eq_false, q15, q14, q11, q13, q8, q9, q10]
                · simp only [fl_row_ne, fl_ne, up_row_ne, up_ne, up_eq, up_nk, up_up, up_self, ne_eq, Nat.reduceEqDiff, Int.reduceEq, reduceCtorEq, not_false_eq_true, not_true_eq_false, q15, q14, q11, q13, q8, q9, q10]
                · simp only [fl_row_ne, fl_ne, up_row_ne, up_ne, up_eq, up_nk, up_up, up_self, ne_eq, Nat.reduceEqDiff, Int.reduceEq, reduceCtorEq, not_false_eq_true, not_true_eq_false]; rw [q118]; exact r118
                · simp only [fl_row_ne, fl_ne, up_row_ne, up_ne, up_eq, up_nk, up_up, up_self, ne_eq, Nat.reduceEqDiff, Int.reduceEq, reduceCtorEq, not_false_eq_true, not_true_eq_false, q15, q14, q11, q13, q8, q9, q10]
                · simp only [fl_row_ne, fl_ne, up_row_ne, up_ne, up_eq, up_nk, up_up, up_self, ne_eq, Nat.reduceEqDiff, Int.reduceEq, reduceCtorEq, not_false_eq_true, not_true_eq_false, q15, q14, q11, q13, q8, q9, q10]
                · simp only [fl_row_ne, fl_ne, up_row_ne, up_ne, up_eq, up_nk, up_up, up_self, ne_eq, Nat.reduceEqDiff, Int.reduceEq, reduceCtorEq, not_false_eq_true, not_true_eq_false, q15, q14, q11, q13, q8, q9, q10]
              ·
                have hct : ctd (mv (σ 114)) (σ 114 1) (σ 114 2) i = true := ctd_iff.mpr ⟨hsn, by omega⟩
                refine z_aload_n hO 1 dX9_counts_143 rfl ?_
                refine z_getI hO 15 fl_X9_157 rfl rfl rfl dX9_counts_144 (fun r144 => ?_)
                try simp only [fl_row_ne, fl_ne, up_row_ne, up_ne, up_eq, up_nk, up_up, up_self, ne_eq, Nat.reduceEqDiff, Int.reduceEq, reduceCtorEq, not_false_eq_true, not_true_eq_false, e114, q15, q14, q11, q13, q114, q6, q4] at r144 ⊢
                refine z_bipush hO dX9_counts_147 (by decide) ?_
                refine z_icmp_ge hO 162 dX9_counts_149 (by decide) (by omega) (by decide) (fun c149 => ?_) (fun c149 => ?_)
                ·
                  refine z_aload_n hO 1 dX9_counts_162 rfl ?_
                  refine z_dup hO dX9_counts_163 rfl ?_
                  refine z_getI hO 15 fl_X9_157 rfl rfl rfl dX9_counts_164 (fun r164 => ?_)
                  try simp only [fl_row_ne, fl_ne, up_row_ne, up_ne, up_eq, up_nk, up_up, up_self, ne_eq, Nat.reduceEqDiff, Int.reduceEq, reduceCtorEq, not_false_eq_true, not_true_eq_false, e114, q15, q14, q11, q13, q114, q6, q4] at r164 ⊢
                  refine z_iconst hO dX9_counts_167 ?_
                  refine z_iadd hO dX9_counts_168 ?_
                  refine z_putI hO 15 fp_X9_157 rfl rfl rfl (by omega) rfl rfl dX9_counts_169 ?_
                  refine z_iconst hO dX9_counts_172 ?_
                  refine z_istore hO (L' := [(4, _), (3, _), (0, _), (1, _), (2, _)]) dX9_counts_173 (by decide) rfl ?_
                  refine z_gen (fun υ hυ => ?_)
                  have v114 : υ 114 = σ 114 := by rw [hυ]; simp only [fl_row_ne, fl_ne, up_row_ne, up_ne, up_eq, up_nk, up_up, up_self, ne_eq, Nat.reduceEqDiff, Int.reduceEq, reduceCtorEq, not_false_eq_true, not_true_eq_false]; exact q114
                  have v115 : ∀ j, 0 ≤ j → j < σ 114 0 → υ 115 j = pk (mv (σ 114)) i j := by intro j h0 h1; rw [hυ]; simp only [fl_row_ne, fl_ne, up_row_ne, up_ne, up_eq, up_nk, up_up, up_self, ne_eq, Nat.reduceEqDiff, Int.reduceEq, reduceCtorEq, not_false_eq_true, not_true_eq_false]; exact p65.2.1 j h0 h1
                  have v119 : υ 119 = τ 119 := by rw [hυ]; simp only [fl_row_ne, fl_ne, up_row_ne, up_ne, up_eq, up_nk, up_up, up_self, ne_eq, Nat.reduceEqDiff, Int.reduceEq, reduceCtorEq, not_false_eq_true, not_true_eq_false]; exact q119
                  refine z_pick [2, 3, 4, 0] rfl (lp_counts3 (σ := υ) hO (by rw [v114]; exact hV) (by rw [v114]; intro j h0 h1; rw [v115 j h0 h1]; exact pk_WP hV i j h0 h1) (by rw [v114, v119]; intro a w' h0 h1 h2 h3; rw [hhv a w' h0 h1 h2 h3]; have := hvn_r (mv (σ 114)) (σ 114 1) (σ 114 2) i a w'; omega) ?_ 9 0 υ (by rw [v114]; omega) (by rw [v114]; omega) Fm.rf (fun a w' _ _ _ _ => by rw [if_neg (fun q => by omega)]; omega))
                  rw [v114, v119]
                  intro ω g1 g2
                  refine z_iinc hO (L' := [(2, _), (0, _), (1, _)]) 2 dX9_counts_228 rfl (by decide) rfl ?_
                  refine z_goto hO 58 dX9_counts_231 (by decide) ?_
                  refine z_pick [1, 2, 0] rfl (ih (i + 1) ω (by omega) (by omega) ⟨?_, ?_, ?_, ?_, ?_, ?_, ?_, ?_, ?_, ?_, ?_⟩)
                  · rw [nCt_s, hct, g1 113 15 rfl, hυ]; simp only [fl_row_ne, fl_ne, up_row_ne, up_ne, up_eq, up_nk, up_up, up_self, ne_eq, Nat.reduceEqDiff, Int.reduceEq, reduceCtorEq, not_false_eq_true, not_true_eq_false, q15, q14, q11, q13, q8, q9, q10]; simp [b2i]
                  · rw [hnx, g1 113 14 rfl, hυ]; simp only [fl_row_ne, fl_ne, up_row_ne, up_ne, up_eq, up_nk, up_up, up_self, ne_eq, Nat.reduceEqDiff, Int.reduceEq, reduceCtorEq, not_false_eq_true, not_true_eq_false]
                  · intro a w' h0 h1 h2 h3; rw [hvn_t hct, g2 a w' h0 h1 h2 h3, hhv a w' h0 h1 h2 h3, v115 a h0 h1]
                  · intro q h0 h1 h2; rw [g1 120 _ rfl, hυ]
                    by_cases e : q = i
                    · subst e; simp only [fl_row_ne, fl_ne, up_row_ne, up_ne, up_eq, up_nk, up_up, up_self, ne_eq, Nat.reduceEqDiff, Int.reduceEq, reduceCtorEq, not_false_eq_true, not_true_eq_false]; first | (exfalso; omega) | skip
                    · have hlt : nCt (mv (σ 114)) (σ 114 1) (σ 114 2) q < nCt (mv (σ 114)) (σ 114 1) (σ 114 2) i := by
                        have h5 := nCt_mono (mv (σ 114)) (σ 114 1) (σ 114 2) (show q + 1 ≤ i by omega)
                        rw [nCt_s, h1] at h5
                        have e1 : b2i true = 1 := rfl
                        omega
                      have := hls q (by omega) h1 h2
                      first | (simp only [fl_row_ne, fl_ne, up_row_ne, up_ne, up_eq, up_nk, up_up, up_self, ne_eq, Nat.reduceEqDiff, Int.reduceEq, reduceCtorEq, not_false_eq_true, not_true_eq_false]; rw [q120]; exact this) | (rw [up_ne (by decide), up_nk (by omega), up_ne (by decide), q120]; exact this)
                  · refine Fm.trans ?_ (g1.mono f119_Ct); rw [hυ]; first | exact (hF2.up rfl).up rfl | exact ((hF2.up rfl).up rfl).up rfl
                  · rw [g1 113 11 rfl, hυ]; simp only [fl_row_ne, fl_ne, up_row_ne, up_ne, up_eq, up_nk, up_up, up_self, ne_eq, Nat.reduceEqDiff, Int.reduceEq, reduceCtorEq, not_false_eq_true, not_true_eq_false, q15, q14, q11, q13, q8, q9, q10]
                  · rw [g1 113 13 rfl, hυ]; simp only [fl_row_ne, fl_ne, up_row_ne, up_ne, up_eq, up_nk, up_up, up_self, ne_eq, Nat.reduceEqDiff, Int.reduceEq, reduceCtorEq, not_false_eq_true, not_true_eq_false, q15, q14, q11, q13, q8, q9, q10]
                  · rw [g1.row 118 (fun _ => rfl), hυ]; simp only [fl_row_ne, fl_ne, up_row_ne, up_ne, up_eq, up_nk, up_up, up_self, ne_eq, Nat.reduceEqDiff, Int.reduceEq, reduceCtorEq, not_false_eq_true, not_true_eq_false]; rw [q118]; exact r118
                  · rw [g1 113 8 rfl, hυ]; simp only [fl_row_ne, fl_ne, up_row_ne, up_ne, up_eq, up_nk, up_up, up_self, ne_eq, Nat.reduceEqDiff, Int.reduceEq, reduceCtorEq, not_false_eq_true, not_true_eq_false, q15, q14, q11, q13, q8, q9, q10]
                  · rw [g1 113 9 rfl, hυ]; simp only [fl_row_ne, fl_ne, up_row_ne, up_ne, up_eq, up_nk, up_up, up_self, ne_eq, Nat.reduceEqDiff, Int.reduceEq, reduceCtorEq, not_false_eq_true, not_true_eq_false, q15, q14, q11, q13, q8, q9, q10]
                  · rw [g1 113 10 rfl, hυ]; simp only [fl_row_ne, fl_ne, up_row_ne, up_ne, up_eq, up_nk, up_up, up_self, ne_eq, Nat.reduceEqDiff, Int.reduceEq, reduceCtorEq, not_false_eq_true, not_true_eq_false, q15, q14, q11, q13, q8, q9, q10]
                ·
                  refine z_aload_n hO 1 dX9_counts_152 rfl ?_
                  refine z_getR hO (120) fl_X9_28 rfl rfl dX9_counts_153 ?_
                  refine z_aload_n hO 1 dX9_counts_156 rfl ?_
                  refine z_getI hO 15 fl_X9_157 rfl rfl rfl dX9_counts_157 (fun r157 => ?_)
                  try simp only [fl_row_ne, fl_ne, up_row_ne, up_ne, up_eq, up_nk, up_up, up_self, ne_eq, Nat.reduceEqDiff, Int.reduceEq, reduceCtorEq, not_false_eq_true, not_true_eq_false, e114, q15, q14, q11, q13, q114, q6, q4] at r157 ⊢
                  refine z_iload_n hO 3 dX9_counts_160 rfl ?_
                  refine z_iast hO rfl (by omega) (by decide) (by omega) dX9_counts_161 ?_
                  refine z_aload_n hO 1 dX9_counts_162 rfl ?_
                  refine z_dup hO dX9_counts_163 rfl ?_
                  refine z_getI hO 15 fl_X9_157 rfl rfl rfl dX9_counts_164 (fun r164 => ?_)
                  try simp only [fl_row_ne, fl_ne, up_row_ne, up_ne, up_eq, up_nk, up_up, up_self, ne_eq, Nat.reduceEqDiff, Int.reduceEq, reduceCtorEq, not_false_eq_true, not_true_eq_false, e114, q15, q14, q11, q13, q114, q6, q4] at r164 ⊢
                  refine z_iconst hO dX9_counts_167 ?_
                  refine z_iadd hO dX9_counts_168 ?_
                  refine z_putI hO 15 fp_X9_157 rfl rfl rfl (by omega) rfl rfl dX9_counts_169 ?_
                  refine z_iconst hO dX9_counts_172 ?_
                  refine z_istore hO (L' := [(4, _), (3, _), (0, _), (1, _), (2, _)]) dX9_counts_173 (by decide) rfl ?_
                  refine z_gen (fun υ hυ => ?_)
                  have v114 : υ 114 = σ 114 := by rw [hυ]; simp only [fl_row_ne, fl_ne, up_row_ne, up_ne, up_eq, up_nk, up_up, up_self, ne_eq, Nat.reduceEqDiff, Int.reduceEq, reduceCtorEq, not_false_eq_true, not_true_eq_false]; exact q114
                  have v115 : ∀ j, 0 ≤ j → j < σ 114 0 → υ 115 j = pk (mv (σ 114)) i j := by intro j h0 h1; rw [hυ]; simp only [fl_row_ne, fl_ne, up_row_ne, up_ne, up_eq, up_nk, up_up, up_self, ne_eq, Nat.reduceEqDiff, Int.reduceEq, reduceCtorEq, not_false_eq_true, not_true_eq_false]; exact p65.2.1 j h0 h1
                  have v119 : υ 119 = τ 119 := by rw [hυ]; simp only [fl_row_ne, fl_ne, up_row_ne, up_ne, up_eq, up_nk, up_up, up_self, ne_eq, Nat.reduceEqDiff, Int.reduceEq, reduceCtorEq, not_false_eq_true, not_true_eq_false]; exact q119
                  refine z_pick [2, 3, 4, 0] rfl (lp_counts3 (σ := υ) hO (by rw [v114]; exact hV) (by rw [v114]; intro j h0 h1; rw [v115 j h0 h1]; exact pk_WP hV i j h0 h1) (by rw [v114, v119]; intro a w' h0 h1 h2 h3; rw [hhv a w' h0 h1 h2 h3]; have := hvn_r (mv (σ 114)) (σ 114 1) (σ 114 2) i a w'; omega) ?_ 9 0 υ (by rw [v114]; omega) (by rw [v114]; omega) Fm.rf (fun a w' _ _ _ _ => by rw [if_neg (fun q => by omega)]; omega))
                  rw [v114, v119]
                  intro ω g1 g2
                  refine z_iinc hO (L' := [(2, _), (0, _), (1, _)]) 2 dX9_counts_228 rfl (by decide) rfl ?_
                  refine z_goto hO 58 dX9_counts_231 (by decide) ?_
                  refine z_pick [1, 2, 0] rfl (ih (i + 1) ω (by omega) (by omega) ⟨?_, ?_, ?_, ?_, ?_, ?_, ?_, ?_, ?_, ?_, ?_⟩)
                  · rw [nCt_s, hct, g1 113 15 rfl, hυ]; simp only [fl_row_ne, fl_ne, up_row_ne, up_ne, up_eq, up_nk, up_up, up_self, ne_eq, Nat.reduceEqDiff, Int.reduceEq, reduceCtorEq, not_false_eq_true, not_true_eq_false, q15, q14, q11, q13, q8, q9, q10]; simp [b2i]
                  · rw [hnx, g1 113 14 rfl, hυ]; simp only [fl_row_ne, fl_ne, up_row_ne, up_ne, up_eq, up_nk, up_up, up_self, ne_eq, Nat.reduceEqDiff, Int.reduceEq, reduceCtorEq, not_false_eq_true, not_true_eq_false]
                  · intro a w' h0 h1 h2 h3; rw [hvn_t hct, g2 a w' h0 h1 h2 h3, hhv a w' h0 h1 h2 h3, v115 a h0 h1]
                  · intro q h0 h1 h2; rw [g1 120 _ rfl, hυ]
                    by_cases e : q = i
                    · subst e; simp only [fl_row_ne, fl_ne, up_row_ne, up_ne, up_eq, up_nk, up_up, up_self, ne_eq, Nat.reduceEqDiff, Int.reduceEq, reduceCtorEq, not_false_eq_true, not_true_eq_false]; first | (exfalso; omega) | skip
                    · have hlt : nCt (mv (σ 114)) (σ 114 1) (σ 114 2) q < nCt (mv (σ 114)) (σ 114 1) (σ 114 2) i := by
                        have h5 := nCt_mono (mv (σ 114)) (σ 114 1) (σ 114 2) (show q + 1 ≤ i by omega)
                        rw [nCt_s, h1] at h5
                        have e1 : b2i true = 1 := rfl
                        omega
                      have := hls q (by omega) h1 h2
                      first | (simp only [fl_row_ne, fl_ne, up_row_ne, up_ne, up_eq, up_nk, up_up, up_self, ne_eq, Nat.reduceEqDiff, Int.reduceEq, reduceCtorEq, not_false_eq_true, not_true_eq_false]; rw [q120]; exact this) | (rw [up_ne (by decide), up_nk (by omega), up_ne (by decide), q120]; exact this)
                  · refine Fm.trans ?_ (g1.mono f119_Ct); rw [hυ]; first | exact (hF2.up rfl).up rfl | exact ((hF2.up rfl).up rfl).up rfl
                  · rw [g1 113 11 rfl, hυ]; simp only [fl_row_ne, fl_ne, up_row_ne, up_ne, up_eq, up_nk, up_up, up_self, ne_eq, Nat.reduceEqDiff, Int.reduceEq, reduceCtorEq, not_false_eq_true, not_true_eq_false, q15, q14, q11, q13, q8, q9, q10]
                  · rw [g1 113 13 rfl, hυ]; simp only [fl_row_ne, fl_ne, up_row_ne, up_ne, up_eq, up_nk, up_up, up_self, ne_eq, Nat.reduceEqDiff, Int.reduceEq, reduceCtorEq, not_false_eq_true, not_true_eq_false, q15, q14, q11, q13, q8, q9, q10]
                  · rw [g1.row 118 (fun _ => rfl), hυ]; simp only [fl_row_ne, fl_ne, up_row_ne, up_ne, up_eq, up_nk, up_up, up_self, ne_eq, Nat.reduceEqDiff, Int.reduceEq, reduceCtorEq, not_false_eq_true, not_true_eq_false]; rw [q118]; exact r118
                  · rw [g1 113 8 rfl, hυ]; simp only [fl_row_ne, fl_ne, up_row_ne, up_ne, up_eq, up_nk, up_up, up_self, ne_eq, Nat.reduceEqDiff, Int.reduceEq, reduceCtorEq, not_false_eq_true, not_true_eq_false, q15, q14, q11, q13, q8, q9, q10]
                  · rw [g1 113 9 rfl, hυ]; simp only [fl_row_ne, fl_ne, up_row_ne, up_ne, up_eq, up_nk, up_up, up_self, ne_eq, Nat.reduceEqDiff, Int.reduceEq, reduceCtorEq, not_false_eq_true, not_true_eq_false, q15, q14, q11, q13, q8, q9, q10]
                  · rw [g1 113 10 rfl, hυ]; simp only [fl_row_ne, fl_ne, up_row_ne, up_ne, up_eq, up_nk, up_up, up_self, ne_eq, Nat.reduceEqDiff, Int.reduceEq, reduceCtorEq, not_false_eq_true, not_true_eq_false, q15, q14, q11, q13, q8, q9, q10]
            ·
              try simp only [fl_row_ne, fl_ne, up_row_ne, up_ne, up_eq, up_nk, up_up, up_self, ne_eq, Nat.reduceEqDiff, Int.reduceEq, reduceCtorEq, not_false_eq_true, not_true_eq_false, e114, q15, q14, q11, q13, q114, q6, q4] at c101 ⊢
              have hdiff : nm (mv (σ 114)) i ≠ nm (mv (σ 114)) (bR (mv (σ 114)) (σ 114 1)) := fun z => c101 ((rows_eq (r' := s65 118) q117 (by rw [q118]; exact r118)).mpr z)
              have hnx := nxt_t (V := mv (σ 114)) (K := σ 114 1) (m := i) ⟨hsn, by omega, hdiff⟩
              refine z_if_ne hO 114 dX9_counts_104 (by decide) (by decide) (fun c104 => absurd c104 (by omega)) (fun c104 => ?_)
              refine z_aload_n hO 1 dX9_counts_107 rfl ?_
              refine z_getI hO 4 fl_X9_123 rfl rfl rfl dX9_counts_108 (fun r108 => ?_)
              try simp only [fl_row_ne, fl_ne, up_row_ne, up_ne, up_eq, up_nk, up_up, up_self, ne_eq, Nat.reduceEqDiff, Int.reduceEq, reduceCtorEq, not_false_eq_true, not_true_eq_false, e114, q15, q14, q11, q13, q114, q6, q4] at r108 ⊢
              refine z_goto hO 118 dX9_counts_111 (by decide) ?_
              refine z_putI hO 14 fp_X9_160 rfl rfl rfl (by omega) rfl rfl dX9_counts_118 ?_
              refine z_iload_n hO 0 dX9_counts_121 rfl ?_
              refine z_if_eq hO 228 dX9_counts_122 (by decide) (by decide) (fun c122 => absurd c122 (by omega)) (fun c122 => ?_)
              refine z_aload_n hO 1 dX9_counts_125 rfl ?_
              refine z_getI hO 4 fl_X9_123 rfl rfl rfl dX9_counts_126 (fun r126 => ?_)
              try simp only [fl_row_ne, fl_ne, up_row_ne, up_ne, up_eq, up_nk, up_up, up_self, ne_eq, Nat.reduceEqDiff, Int.reduceEq, reduceCtorEq, not_false_eq_true, not_true_eq_false, e114, q15, q14, q11, q13, q114, q6, q4] at r126 ⊢
              refine z_aload_n hO 1 dX9_counts_129 rfl ?_
              refine z_getI hO 11 fl_X9_138 rfl rfl rfl dX9_counts_130 (fun r130 => ?_)
              try simp only [fl_row_ne, fl_ne, up_row_ne, up_ne, up_eq, up_nk, up_up, up_self, ne_eq, Nat.reduceEqDiff, Int.reduceEq, reduceCtorEq, not_false_eq_true, not_true_eq_false, e114, q15, q14, q11, q13, q114, q6, q4] at r130 ⊢
              refine z_aload_n hO 1 dX9_counts_133 rfl ?_
              refine z_getR hO (114) fl_X9_7 rfl rfl dX9_counts_134 ?_
              refine z_iconst hO dX9_counts_137 ?_
              refine z_iald hO rfl (by omega) (by decide) dX9_counts_138 (fun r138 => ?_)
              try simp only [fl_row_ne, fl_ne, up_row_ne, up_ne, up_eq, up_nk, up_up, up_self, ne_eq, Nat.reduceEqDiff, Int.reduceEq, reduceCtorEq, not_false_eq_true, not_true_eq_false, e114, q15, q14, q11, q13, q114, q6, q4] at r138 ⊢
              refine z_iadd hO dX9_counts_139 ?_
              refine z_icmp_gt hO 228 dX9_counts_140 (by decide) (by omega) (by omega) (fun c140 => ?_) (fun c140 => ?_)
              ·
                have hct : ctd (mv (σ 114)) (σ 114 1) (σ 114 2) i = false := by
                  cases hx : ctd (mv (σ 114)) (σ 114 1) (σ 114 2) i
                  · rfl
                  · exfalso; have := (ctd_iff.mp hx).2; omega
                refine z_iinc hO (L' := [(2, _), (3, _), (0, _), (1, _)]) 3 dX9_counts_228 rfl (by decide) rfl ?_
                refine z_goto hO 58 dX9_counts_231 (by decide) ?_
                refine z_pick [2, 3, 0] rfl (ih (i + 1) _ (by omega) (by omega) ⟨?_, ?_, ?_, ?_, ?_, ?_, ?_, ?_, ?_, ?_, ?_⟩)
                · rw [nCt_s, hct]; simp only [fl_row_ne, fl_ne, up_row_ne, up_ne, up_eq, up_nk, up_up, up_self, ne_eq, Nat.reduceEqDiff, Int.reduceEq, reduceCtorEq, not_false_eq_true, not_true_eq_false, q15, q14, q11, q13, q8, q9, q10]; simp [b2i]
                · rw [hnx]; simp only [fl_row_ne, fl_ne, up_row_ne, up_ne, up_eq, up_nk, up_up, up_self, ne_eq, Nat.reduceEqDiff, Int.reduceEq, reduceCtorEq, not_false_eq_true, not_true_eq_false]
                · intro a w' h0 h1 h2 h3; rw [hvn_f hct]; simp only [fl_row_ne, fl_ne, up_row_ne, up_ne, up_eq, up_nk, up_up, up_self, ne_eq, Nat.reduceEqDiff, Int.reduceEq, reduceCtorEq, not_false_eq_true, not_true_eq_false]; rw [q119]; exact hhv a w' h0 h1 h2 h3
                · intro q h0 h1 h2; simp only [fl_row_ne, fl_ne, up_row_ne, up_ne, up_eq, up_nk, up_up, up_self, ne_eq, Nat.reduceEqDiff, Int.reduceEq, reduceCtorEq, not_false_eq_true, not_true_eq_false]; rw [q120]; refine hls q ?_ h1 h2; by_cases e : q = i; (subst e; rw [hct] at h1; cases h1); omega
                · exact hF2.up rfl
                · simp only [fl_row_ne, fl_ne, up_row_ne, up_ne, up_eq, up_nk, up_up, up_self, ne_eq, Nat.reduceEqDiff, Int.reduceEq, reduceCtorEq, not_false_eq_true, not_true_eq_false, q15, q14, q11, q13, q8, q9, q10]
                · simp only [fl_row_ne, fl_ne, up_row_ne, up_ne, up_eq, up_nk, up_up, up_self, ne_eq, Nat.reduceEqDiff, Int.reduceEq, reduceCtorEq, not_false_eq_true, not_true_eq_false, q15, q14, q11, q13, q8, q9, q10]
                · simp only [fl_row_ne, fl_ne, up_row_ne, up_ne, up_eq, up_nk, up_up, up_self, ne_eq, Nat.reduceEqDiff, Int.reduceEq, reduceCtorEq, not_false_eq_true, not_true_eq_false]; rw [q118]; exact r118
                · simp only [fl_row_ne, fl_ne, up_row_ne, up_ne, up_eq, up_nk, up_up, up_self, ne_eq, Nat.reduceEqDiff, Int.reduceEq, reduceCtorEq, not_false_eq_true, not_true_eq_false, q15, q14, q11, q13, q8, q9, q10]
                · simp only [fl_row_ne, fl_ne, up_row_ne, up_ne, up_eq, up_nk, up_up, up_self, ne_eq, Nat.reduceEqDiff, Int.reduceEq, reduceCtorEq, not_false_eq_true, not_true_eq_false, q15, q14, q11, q13, q8, q9, q10]
                · simp only [fl_row_ne, fl_ne, up_row_ne, up_ne, up_eq, up_nk, up_up, up_self, ne_eq, Nat.reduceEqDiff, Int.reduceEq, reduceCtorEq, not_false_eq_true, not_true_eq_false, q15, q14, q11, q13, q8, q9, q10]
              ·
                have hct : ctd (mv (σ 114)) (σ 114 1) (σ 114 2) i = true := ctd_iff.mpr ⟨hsn, by omega⟩
                refine z_aload_n hO 1 dX9_counts_143 rfl ?_
                refine z_getI hO 15 fl_X9_157 rfl rfl rfl dX9_counts_144 (fun r144 => ?_)
                try simp only [fl_row_ne, fl_ne, up_row_ne, up_ne, up_eq, up_nk, up_up, up_self, ne_eq, Nat.reduceEqDiff, Int.reduceEq, reduceCtorEq, not_false_eq_true, not_true_eq_false, e114, q15, q14, q11, q13, q114, q6, q4] at r144 ⊢
                refine z_bipush hO dX9_counts_147 (by decide) ?_
                refine z_icmp_ge hO 162 dX9_counts_149 (by decide) (by omega) (by decide) (fun c149 => ?_) (fun c149 => ?_)
                ·
                  refine z_aload_n hO 1 dX9_counts_162 rfl ?_
                  refine z_dup hO dX9_counts_163 rfl ?_
                  refine z_getI hO 15 fl_X9_157 rfl rfl rfl dX9_counts_164 (fun r164 => ?_)
                  try simp only [fl_row_ne, fl_ne, up_row_ne, up_ne, up_eq, up_nk, up_up, up_self, ne_eq, Nat.reduceEqDiff, Int.reduceEq, reduceCtorEq, not_false_eq_true, not_true_eq_false, e114, q15, q14, q11, q13, q114, q6, q4] at r164 ⊢
                  refine z_iconst hO dX9_counts_167 ?_
                  refine z_iadd hO dX9_counts_168 ?_
                  refine z_putI hO 15 fp_X9_157 rfl rfl rfl (by omega) rfl rfl dX9_counts_169 ?_
                  refine z_iconst hO dX9_counts_172 ?_
                  refine z_istore hO (L' := [(4, _), (3, _), (0, _), (1, _), (2, _)]) dX9_counts_173 (by decide) rfl ?_
                  refine z_gen (fun υ hυ => ?_)
                  have v114 : υ 114 = σ 114 := by rw [hυ]; simp only [fl_row_ne, fl_ne, up_row_ne, up_ne, up_eq, up_nk, up_up, up_self, ne_eq, Nat.reduceEqDiff, Int.reduceEq, reduceCtorEq, not_false_eq_true, not_true_eq_false]; exact q114
                  have v115 : ∀ j, 0 ≤ j → j < σ 114 0 → υ 115 j = pk (mv (σ 114)) i j := by intro j h0 h1; rw [hυ]; simp only [fl_row_ne, fl_ne, up_row_ne, up_ne, up_eq, up_nk, up_up, up_self, ne_eq, Nat.reduceEqDiff, Int.reduceEq, reduceCtorEq, not_false_eq_true, not_true_eq_false]; exact p65.2.1 j h0 h1
                  have v119 : υ 119 = τ 119 := by rw [hυ]; simp only [fl_row_ne, fl_ne, up_row_ne, up_ne, up_eq, up_nk, up_up, up_self, ne_eq, Nat.reduceEqDiff, Int.reduceEq, reduceCtorEq, not_false_eq_true, not_true_eq_false]; exact q119
                  refine z_pick [2, 3, 4, 0] rfl (lp_counts3 (σ := υ) hO (by rw [v114]; exact hV) (by rw [v114]; intro j h0 h1; rw [v115 j h0 h1]; exact pk_WP hV i j h0 h1) (by rw [v114, v119]; intro a w' h0 h1 h2 h3; rw [hhv a w' h0 h1 h2 h3]; have := hvn_r (mv (σ 114)) (σ 114 1) (σ 114 2) i a w'; omega) ?_ 9 0 υ (by rw [v114]; omega) (by rw [v114]; omega) Fm.rf (fun a w' _ _ _ _ => by rw [if_neg (fun q => by omega)]; omega))
                  rw [v114, v119]
                  intro ω g1 g2
                  refine z_iinc hO (L' := [(2, _), (0, _), (1, _)]) 2 dX9_counts_228 rfl (by decide) rfl ?_
                  refine z_goto hO 58 dX9_counts_231 (by decide) ?_
                  refine z_pick [1, 2, 0] rfl (ih (i + 1) ω (by omega) (by omega) ⟨?_, ?_, ?_, ?_, ?_, ?_, ?_, ?_, ?_, ?_, ?_⟩)
                  · rw [nCt_s, hct, g1 113 15 rfl, hυ]; simp only [fl_row_ne, fl_ne, up_row_ne, up_ne, up_eq, up_nk, up_up, up_self, ne_eq, Nat.reduceEqDiff, Int.reduceEq, reduceCtorEq, not_false_eq_true, not_true_eq_false, q15, q14, q11, q13, q8, q9, q10]; simp [b2i]
                  · rw [hnx, g1 113 14 rfl, hυ]; simp only [fl_row_ne, fl_ne, up_row_ne, up_ne, up_eq, up_nk, up_up, up_self, ne_eq, Nat.reduceEqDiff, Int.reduceEq, reduceCtorEq, not_false_eq_true, not_true_eq_false]
                  · intro a w' h0 h1 h2 h3; rw [hvn_t hct, g2 a w' h0 h1 h2 h3, hhv a w' h0 h1 h2 h3, v115 a h0 h1]
                  · intro q h0 h1 h2; rw [g1 120 _ rfl, hυ]
                    by_cases e : q = i
                    · subst e; simp only [fl_row_ne, fl_ne, up_row_ne, up_ne, up_eq, up_nk, up_up, up_self, ne_eq, Nat.reduceEqDiff, Int.reduceEq, reduceCtorEq, not_false_eq_true, not_true_eq_false]; first | (exfalso; omega) | skip
                    · have hlt : nCt (mv (σ 114)) (σ 114 1) (σ 114 2) q < nCt (mv (σ 114)) (σ 114 1) (σ 114 2) i := by
                        have h5 := nCt_mono (mv (σ 114)) (σ 114 1) (σ 114 2) (show q + 1 ≤ i by omega)
                        rw [nCt_s, h1] at h5
                        have e1 : b2i true = 1 := rfl
                        omega
                      have := hls q (by omega) h1 h2
                      first | (simp only [fl_row_ne, fl_ne, up_row_ne, up_ne, up_eq, up_nk, up_up, up_self, ne_eq, Nat.reduceEqDiff, Int.reduceEq, reduceCtorEq, not_false_eq_true, not_true_eq_false]; rw [q120]; exact this) | (rw [up_ne (by decide), up_nk (by omega), up_ne (by decide), q120]; exact this)
                  · refine Fm.trans ?_ (g1.mono f119_Ct); rw [hυ]; first | exact (hF2.up rfl).up rfl | exact ((hF2.up rfl).up rfl).up rfl
                  · rw [g1 113 11 rfl, hυ]; simp only [fl_row_ne, fl_ne, up_row_ne, up_ne, up_eq, up_nk, up_up, up_self, ne_eq, Nat.reduceEqDiff, Int.reduceEq, reduceCtorEq, not_false_eq_true, not_true_eq_false, q15, q14, q11, q13, q8, q9, q10]
                  · rw [g1 113 13 rfl, hυ]; simp only [fl_row_ne, fl_ne, up_row_ne, up_ne, up_eq, up_nk, up_up, up_self, ne_eq, Nat.reduceEqDiff, Int.reduceEq, reduceCtorEq, not_false_eq_true, not_true_eq_false, q15, q14, q11, q13, q8, q9, q10]
                  · rw [g1.row 118 (fun _ => rfl), hυ]; simp only [fl_row_ne, fl_ne, up_row_ne, up_ne, up_eq, up_nk, up_up, up_self, ne_eq, Nat.reduceEqDiff, Int.reduceEq, reduceCtorEq, not_false_eq_true, not_true_eq_false]; rw [q118]; exact r118
                  · rw [g1 113 8 rfl, hυ]; simp only [fl_row_ne, fl_ne, up_row_ne, up_ne, up_eq, up_nk, up_up, up_self, ne_eq, Nat.reduceEqDiff, Int.reduceEq, reduceCtorEq, not_false_eq_true, not_true_eq_false, q15, q14, q11, q13, q8, q9, q10]
                  · rw [g1 113 9 rfl, hυ]; simp only [fl_row_ne, fl_ne, up_row_ne, up_ne, up_eq, up_nk, up_up, up_self, ne_eq, Nat.reduceEqDiff, Int.reduceEq, reduceCtorEq, not_false_eq_true, not_true_eq_false, q15, q14, q11, q13, q8, q9, q10]
                  · rw [g1 113 10 rfl, hυ]; simp only [fl_row_ne, fl_ne, up_row_ne, up_ne, up_eq, up_nk, up_up, up_self, ne_eq, Nat.reduceEqDiff, Int.reduceEq, reduceCtorEq, not_false_eq_true, not_true_eq_false, q15, q14, q11, q13, q8, q9, q10]
                ·
                  refine z_aload_n hO 1 dX9_counts_152 rfl ?_
                  refine z_getR hO (120) fl_X9_28 rfl rfl dX9_counts_153 ?_
                  refine z_aload_n hO 1 dX9_counts_156 rfl ?_
                  refine z_getI hO 15 fl_X9_157 rfl rfl rfl dX9_counts_157 (fun r157 => ?_)
                  try simp only [fl_row_ne, fl_ne, up_row_ne, up_ne, up_eq, up_nk, up_up, up_self, ne_eq, Nat.reduceEqDiff, Int.reduceEq, reduceCtorEq, not_false_eq_true, not_true_eq_false, e114, q15, q14, q11, q13, q114, q6, q4] at r157 ⊢
                  refine z_iload_n hO 3 dX9_counts_160 rfl ?_
                  refine z_iast hO rfl (by omega) (by decide) (by omega) dX9_counts_161 ?_
                  refine z_aload_n hO 1 dX9_counts_162 rfl ?_
                  refine z_dup hO dX9_counts_163 rfl ?_
                  refine z_getI hO 15 fl_X9_157 rfl rfl rfl dX9_counts_164 (fun r164 => ?_)
                  try simp only [fl_row_ne, fl_ne, up_row_ne, up_ne, up_eq, up_nk, up_up, up_self, ne_eq, Nat.reduceEqDiff, Int.reduceEq, reduceCtorEq, not_false_eq_true, not_true_eq_false, e114, q15, q14, q11, q13, q114, q6, q4] at r164 ⊢
                  refine z_iconst hO dX9_counts_167 ?_
                  refine z_iadd hO dX9_counts_168 ?_
                  refine z_putI hO 15 fp_X9_157 rfl rfl rfl (by omega) rfl rfl dX9_counts_169 ?_
                  refine z_iconst hO dX9_counts_172 ?_
                  refine z_istore hO (L' := [(4, _), (3, _), (0, _), (1, _), (2, _)]) dX9_counts_173 (by decide) rfl ?_
                  refine z_gen (fun υ hυ => ?_)
                  have v114 : υ 114 = σ 114 := by rw [hυ]; simp only [fl_row_ne, fl_ne, up_row_ne, up_ne, up_eq, up_nk, up_up, up_self, ne_eq, Nat.reduceEqDiff, Int.reduceEq, reduceCtorEq, not_false_eq_true, not_true_eq_false]; exact q114
                  have v115 : ∀ j, 0 ≤ j → j < σ 114 0 → υ 115 j = pk (mv (σ 114)) i j := by intro j h0 h1; rw [hυ]; simp only [fl_row_ne, fl_ne, up_row_ne, up_ne, up_eq, up_nk, up_up, up_self, ne_eq, Nat.reduceEqDiff, Int.reduceEq, reduceCtorEq, not_false_eq_true, not_true_eq_false]; exact p65.2.1 j h0 h1
                  have v119 : υ 119 = τ 119 := by rw [hυ]; simp only [fl_row_ne, fl_ne, up_row_ne, up_ne, up_eq, up_nk, up_up, up_self, ne_eq, Nat.reduceEqDiff, Int.reduceEq, reduceCtorEq, not_false_eq_true, not_true_eq_false]; exact q119
                  refine z_pick [2, 3, 4, 0] rfl (lp_counts3 (σ := υ) hO (by rw [v114]; exact hV) (by rw [v114]; intro j h0 h1; rw [v115 j h0 h1]; exact pk_WP hV i j h0 h1) (by rw [v114, v119]; intro a w' h0 h1 h2 h3; rw [hhv a w' h0 h1 h2 h3]; have := hvn_r (mv (σ 114)) (σ 114 1) (σ 114 2) i a w'; omega) ?_ 9 0 υ (by rw [v114]; omega) (by rw [v114]; omega) Fm.rf (fun a w' _ _ _ _ => by rw [if_neg (fun q => by omega)]; omega))
                  rw [v114, v119]
                  intro ω g1 g2
                  refine z_iinc hO (L' := [(2, _), (0, _), (1, _)]) 2 dX9_counts_228 rfl (by decide) rfl ?_
                  refine z_goto hO 58 dX9_counts_231 (by decide) ?_
                  refine z_pick [1, 2, 0] rfl (ih (i + 1) ω (by omega) (by omega) ⟨?_, ?_, ?_, ?_, ?_, ?_, ?_, ?_, ?_, ?_, ?_⟩)
                  · rw [nCt_s, hct, g1 113 15 rfl, hυ]; simp only [fl_row_ne, fl_ne, up_row_ne, up_ne, up_eq, up_nk, up_up, up_self, ne_eq, Nat.reduceEqDiff, Int.reduceEq, reduceCtorEq, not_false_eq_true, not_true_eq_false, q15, q14, q11, q13, q8, q9, q10]; simp [b2i]
                  · rw [hnx, g1 113 14 rfl, hυ]; simp only [fl_row_ne, fl_ne, up_row_ne, up_ne, up_eq, up_nk, up_up, up_self, ne_eq, Nat.reduceEqDiff, Int.reduceEq, reduceCtorEq, not_false_eq_true, not_true_eq_false]
                  · intro a w' h0 h1 h2 h3; rw [hvn_t hct, g2 a w' h0 h1 h2 h3, hhv a w' h0 h1 h2 h3, v115 a h0 h1]
                  · intro q h0 h1 h2; rw [g1 120 _ rfl, hυ]
                    by_cases e : q = i
                    · subst e; simp only [fl_row_ne, fl_ne, up_row_ne, up_ne, up_eq, up_nk, up_up, up_self, ne_eq, Nat.reduceEqDiff, Int.reduceEq, reduceCtorEq, not_false_eq_true, not_true_eq_false]; first | (exfalso; omega) | skip
                    · have hlt : nCt (mv (σ 114)) (σ 114 1) (σ 114 2) q < nCt (mv (σ 114)) (σ 114 1) (σ 114 2) i := by
                        have h5 := nCt_mono (mv (σ 114)) (σ 114 1) (σ 114 2) (show q + 1 ≤ i by omega)
                        rw [nCt_s, h1] at h5
                        have e1 : b2i true = 1 := rfl
                        omega
                      have := hls q (by omega) h1 h2
                      first | (simp only [fl_row_ne, fl_ne, up_row_ne, up_ne, up_eq, up_nk, up_up, up_self, ne_eq, Nat.reduceEqDiff, Int.reduceEq, reduceCtorEq, not_false_eq_true, not_true_eq_false]; rw [q120]; exact this) | (rw [up_ne (by decide), up_nk (by omega), up_ne (by decide), q120]; exact this)
                  · refine Fm.trans ?_ (g1.mono f119_Ct); rw [hυ]; first | exact (hF2.up rfl).up rfl | exact ((hF2.up rfl).up rfl).up rfl
                  · rw [g1 113 11 rfl, hυ]; simp only [fl_row_ne, fl_ne, up_row_ne, up_ne, up_eq, up_nk, up_up, up_self, ne_eq, Nat.reduceEqDiff, Int.reduceEq, reduceCtorEq, not_false_eq_true, not_true_eq_false, q15, q14, q11, q13, q8, q9, q10]
                  · rw [g1 113 13 rfl, hυ]; simp only [fl_row_ne, fl_ne, up_row_ne, up_ne, up_eq, up_nk, up_up, up_self, ne_eq, Nat.reduceEqDiff, Int.reduceEq, reduceCtorEq, not_false_eq_true, not_true_eq_false, q15, q14, q11, q13, q8, q9, q10]
                  · rw [g1.row 118 (fun _ => rfl), hυ]; simp only [fl_row_ne, fl_ne, up_row_ne, up_ne, up_eq, up_nk, up_up, up_self, ne_eq, Nat.reduceEqDiff, Int.reduceEq, reduceCtorEq, not_false_eq_true, not_true_eq_false]; rw [q118]; exact r118
                  · rw [g1 113 8 rfl, hυ]; simp only [fl_row_ne, fl_ne, up_row_ne, up_ne, up_eq, up_nk, up_up, up_self, ne_eq, Nat.reduceEqDiff, Int.reduceEq, reduceCtorEq, not_false_eq_true, not_true_eq_false, q15, q14, q11, q13, q8, q9, q10]
                  · rw [g1 113 9 rfl, hυ]; simp only [fl_row_ne, fl_ne, up_row_ne, up_ne, up_eq, up_nk, up_up, up_self, ne_eq, Nat.reduceEqDiff, Int.reduceEq, reduceCtorEq, not_false_eq_true, not_true_eq_false, q15, q14, q11, q13, q8, q9, q10]
                  · rw [g1 113 10 rfl, hυ]; simp only [fl_row_ne, fl_ne, up_row_ne, up_ne, up_eq, up_nk, up_up, up_self, ne_eq, Nat.reduceEqDiff, Int.reduceEq, reduceCtorEq, not_false_eq_true, not_true_eq_false, q15, q14, q11, q13, q8, q9, q10]
        ·
          try simp only [fl_row_ne, fl_ne, up_row_ne, up_ne, up_eq, up_nk, up_up, up_self, ne_eq, Nat.reduceEqDiff, Int.reduceEq, reduceCtorEq, not_false_eq_true, not_true_eq_false, e114, q15, q14, q11, q13, q114, q6, q4] at c72 ⊢
          have c72 : ¬ hld (σ 114 1) (lrow (nm (mv (σ 114)) i)) (nm (mv (σ 114)) i).length := fun z => c72 ((hld_row q117 hsr.1).mpr z)
          have hsn : snd (mv (σ 114)) (σ 114 1) i = false := snd_nhld c72
          have hct : ctd (mv (σ 114)) (σ 114 1) (σ 114 2) i = false := by unfold ctd; rw [hsn]; rfl
          have hnx := nxt_f (V := mv (σ 114)) (K := σ 114 1) (m := i) (fun z => by rw [hsn] at z; exact absurd z.1 (by decide))
          refine z_if_eq hO 82 dX9_counts_75 (by decide) (by decide) (fun c75 => ?_) (fun c75 => absurd c75 (by omega))
          refine z_iconst hO dX9_counts_82 ?_
          refine z_istore_n hO (L' := [(3, _), (0, _), (1, _), (2, _)]) dX9_counts_83 (by decide) rfl ?_
          refine z_aload_n hO 1 dX9_counts_84 rfl ?_
          refine z_iload_n hO 0 dX9_counts_85 rfl ?_
          refine z_if_eq hO 114 dX9_counts_86 (by decide) (by decide) (fun c86 => ?_) (fun c86 => absurd c86 (by omega))
          refine z_aload_n hO 1 dX9_counts_114 rfl ?_
          refine z_getI hO 14 fl_X9_160 rfl rfl rfl dX9_counts_115 (fun r115 => ?_)
          try simp only [fl_row_ne, fl_ne, up_row_ne, up_ne, up_eq, up_nk, up_up, up_self, ne_eq, Nat.reduceEqDiff, Int.reduceEq, reduceCtorEq, not_false_eq_true, not_true_eq_false, e114, q15, q14, q11, q13, q114, q6, q4] at r115 ⊢
          refine z_putI hO 14 fp_X9_160 rfl rfl rfl (by omega) rfl rfl dX9_counts_118 ?_
          refine z_iload_n hO 0 dX9_counts_121 rfl ?_
          refine z_if_eq hO 228 dX9_counts_122 (by decide) (by decide) (fun c122 => ?_) (fun c122 => absurd c122 (by omega))
          refine z_iinc hO (L' := [(2, _), (3, _), (0, _), (1, _)]) 3 dX9_counts_228 rfl (by decide) rfl ?_
          refine z_goto hO 58 dX9_counts_231 (by decide) ?_
          refine z_pick [2, 3, 0] rfl (ih (i + 1) _ (by omega) (by omega) ⟨?_, ?_, ?_, ?_, ?_, ?_, ?_, ?_, ?_, ?_, ?_⟩)
          · rw [nCt_s, hct]; simp only [fl_row_ne, fl_ne, up_row_ne, up_ne, up_eq, up_nk, up_up, up_self, ne_eq, Nat.reduceEqDiff, Int.reduceEq, reduceCtorEq, not_false_eq_true, not_true_eq_false, q15, q14, q11, q13, q8, q9, q10]; simp [b2i]
          · rw [hnx]; simp only [fl_row_ne, fl_ne, up_row_ne, up_ne, up_eq, up_nk, up_up, up_self, ne_eq, Nat.reduceEqDiff, Int.reduceEq, reduceCtorEq, not_false_eq_true, not_true_eq_false]
          · intro a w' h0 h1 h2 h3; rw [hvn_f hct]; simp only [fl_row_ne, fl_ne, up_row_ne, up_ne, up_eq, up_nk, up_up, up_self, ne_eq, Nat.reduceEqDiff, Int.reduceEq, reduceCtorEq, not_false_eq_true, not_true_eq_false]; rw [q119]; exact hhv a w' h0 h1 h2 h3
          · intro q h0 h1 h2; simp only [fl_row_ne, fl_ne, up_row_ne, up_ne, up_eq, up_nk, up_up, up_self, ne_eq, Nat.reduceEqDiff, Int.reduceEq, reduceCtorEq, not_false_eq_true, not_true_eq_false]; rw [q120]; refine hls q ?_ h1 h2; by_cases e : q = i; (subst e; rw [hct] at h1; cases h1); omega
          · exact hF2.up rfl
          · simp only [fl_row_ne, fl_ne, up_row_ne, up_ne, up_eq, up_nk, up_up, up_self, ne_eq, Nat.reduceEqDiff, Int.reduceEq, reduceCtorEq, not_false_eq_true, not_true_eq_false, q15, q14, q11, q13, q8, q9, q10]
          · simp only [fl_row_ne, fl_ne, up_row_ne, up_ne, up_eq, up_nk, up_up, up_self, ne_eq, Nat.reduceEqDiff, Int.reduceEq, reduceCtorEq, not_false_eq_true, not_true_eq_false, q15, q14, q11, q13, q8, q9, q10]
          · simp only [fl_row_ne, fl_ne, up_row_ne, up_ne, up_eq, up_nk, up_up, up_self, ne_eq, Nat.reduceEqDiff, Int.reduceEq, reduceCtorEq, not_false_eq_true, not_true_eq_false]; rw [q118]; exact r118
          · simp only [fl_row_ne, fl_ne, up_row_ne, up_ne, up_eq, up_nk, up_up, up_self, ne_eq, Nat.reduceEqDiff, Int.reduceEq, reduceCtorEq, not_false_eq_true, not_true_eq_false, q15, q14, q11, q13, q8, q9, q10]
          · simp only [fl_row_ne, fl_ne, up_row_ne, up_ne, up_eq, up_nk, up_up, up_self, ne_eq, Nat.reduceEqDiff, Int.reduceEq, reduceCtorEq, not_false_eq_true, not_true_eq_false, q15, q14, q11, q13, q8, q9, q10]
          · simp only [fl_row_ne, fl_ne, up_row_ne, up_ne, up_eq, up_nk, up_up, up_self, ne_eq, Nat.reduceEqDiff, Int.reduceEq, reduceCtorEq, not_false_eq_true, not_true_eq_false, q15, q14, q11, q13, q8, q9, q10]
      ·
        rw [e114] at p65
        have q15 : s65 113 15 = _ := (p65.2.2 113 15 rfl).trans e15
        have q14 : s65 113 14 = _ := (p65.2.2 113 14 rfl).trans e14
        have q11 : s65 113 11 = _ := (p65.2.2 113 11 rfl).trans e11
        have q13 : s65 113 13 = _ := (p65.2.2 113 13 rfl).trans e13
        have q114 : s65 114 = σ 114 := (p65.2.2.row 114 (fun _ => rfl)).trans e114
        have q119 : s65 119 = τ 119 := p65.2.2.row 119 (fun _ => rfl)
        have q120 : s65 120 = τ 120 := p65.2.2.row 120 (fun _ => rfl)
        have q118 : s65 118 = τ 118 := p65.2.2.row 118 (fun _ => rfl)
        have hF2 : Fm fCt σ s65 := hFm.trans (p65.2.2.mono fTk_Ct)
        have q8 : s65 113 8 = _ := (p65.2.2 113 8 rfl).trans e8
        have q9 : s65 113 9 = _ := (p65.2.2 113 9 rfl).trans e9
        have q10 : s65 113 10 = _ := (p65.2.2 113 10 rfl).trans e10
        have hsn : snd (mv (σ 114)) (σ 114 1) i = false := snd_nsaid p65.1.1.symm
        have hct : ctd (mv (σ 114)) (σ 114 1) (σ 114 2) i = false := by unfold ctd; rw [hsn]; rfl
        have hnx := nxt_f (V := mv (σ 114)) (K := σ 114 1) (m := i) (fun z => by rw [hsn] at z; exact absurd z.1 (by decide))
        refine z_if_eq hO 82 dX9_counts_68 (by decide) (by decide) (fun c68 => ?_) (fun c68 => absurd c68 (by omega))
        refine z_iconst hO dX9_counts_82 ?_
        refine z_istore_n hO (L' := [(3, _), (0, _), (1, _), (2, _)]) dX9_counts_83 (by decide) rfl ?_
        refine z_aload_n hO 1 dX9_counts_84 rfl ?_
        refine z_iload_n hO 0 dX9_counts_85 rfl ?_
        refine z_if_eq hO 114 dX9_counts_86 (by decide) (by decide) (fun c86 => ?_) (fun c86 => absurd c86 (by omega))
        refine z_aload_n hO 1 dX9_counts_114 rfl ?_
        refine z_getI hO 14 fl_X9_160 rfl rfl rfl dX9_counts_115 (fun r115 => ?_)
        try simp only [fl_row_ne, fl_ne, up_row_ne, up_ne, up_eq, up_nk, up_up, up_self, ne_eq, Nat.reduceEqDiff, Int.reduceEq, reduceCtorEq, not_false_eq_true, not_true_eq_false, e114, q15, q14, q11, q13, q114] at r115 ⊢
        refine z_putI hO 14 fp_X9_160 rfl rfl rfl (by omega) rfl rfl dX9_counts_118 ?_
        refine z_iload_n hO 0 dX9_counts_121 rfl ?_
        refine z_if_eq hO 228 dX9_counts_122 (by decide) (by decide) (fun c122 => ?_) (fun c122 => absurd c122 (by omega))
        refine z_iinc hO (L' := [(2, _), (3, _), (0, _), (1, _)]) 3 dX9_counts_228 rfl (by decide) rfl ?_
        refine z_goto hO 58 dX9_counts_231 (by decide) ?_
        refine z_pick [2, 3, 0] rfl (ih (i + 1) _ (by omega) (by omega) ⟨?_, ?_, ?_, ?_, ?_, ?_, ?_, ?_, ?_, ?_, ?_⟩)
        · rw [nCt_s, hct]; simp only [fl_row_ne, fl_ne, up_row_ne, up_ne, up_eq, up_nk, up_up, up_self, ne_eq, Nat.reduceEqDiff, Int.reduceEq, reduceCtorEq, not_false_eq_true, not_true_eq_false, q15, q14, q11, q13, q8, q9, q10]; simp [b2i]
        · rw [hnx]; simp only [fl_row_ne, fl_ne, up_row_ne, up_ne, up_eq, up_nk, up_up, up_self, ne_eq, Nat.reduceEqDiff, Int.reduceEq, reduceCtorEq, not_false_eq_true, not_true_eq_false]
        · intro a w' h0 h1 h2 h3; rw [hvn_f hct]; simp only [fl_row_ne, fl_ne, up_row_ne, up_ne, up_eq, up_nk, up_up, up_self, ne_eq, Nat.reduceEqDiff, Int.reduceEq, reduceCtorEq, not_false_eq_true, not_true_eq_false]; rw [q119]; exact hhv a w' h0 h1 h2 h3
        · intro q h0 h1 h2; simp only [fl_row_ne, fl_ne, up_row_ne, up_ne, up_eq, up_nk, up_up, up_self, ne_eq, Nat.reduceEqDiff, Int.reduceEq, reduceCtorEq, not_false_eq_true, not_true_eq_false]; rw [q120]; refine hls q ?_ h1 h2; by_cases e : q = i; (subst e; rw [hct] at h1; cases h1); omega
        · exact hF2.up rfl
        · simp only [fl_row_ne, fl_ne, up_row_ne, up_ne, up_eq, up_nk, up_up, up_self, ne_eq, Nat.reduceEqDiff, Int.reduceEq, reduceCtorEq, not_false_eq_true, not_true_eq_false, q15, q14, q11, q13, q8, q9, q10]
        · simp only [fl_row_ne, fl_ne, up_row_ne, up_ne, up_eq, up_nk, up_up, up_self, ne_eq, Nat.reduceEqDiff, Int.reduceEq, reduceCtorEq, not_false_eq_true, not_true_eq_false, q15, q14, q11, q13, q8, q9, q10]
        · simp only [fl_row_ne, fl_ne, up_row_ne, up_ne, up_eq, up_nk, up_up, up_self, ne_eq, Nat.reduceEqDiff, Int.reduceEq, reduceCtorEq, not_false_eq_true, not_true_eq_false]; rw [q118]; exact r118
        · simp only [fl_row_ne, fl_ne, up_row_ne, up_ne, up_eq, up_nk, up_up, up_self, ne_eq, Nat.reduceEqDiff, Int.reduceEq, reduceCtorEq, not_false_eq_true, not_true_eq_false, q15, q14, q11, q13, q8, q9, q10]
        · simp only [fl_row_ne, fl_ne, up_row_ne, up_ne, up_eq, up_nk, up_up, up_self, ne_eq, Nat.reduceEqDiff, Int.reduceEq, reduceCtorEq, not_false_eq_true, not_true_eq_false, q15, q14, q11, q13, q8, q9, q10]
        · simp only [fl_row_ne, fl_ne, up_row_ne, up_ne, up_eq, up_nk, up_up, up_self, ne_eq, Nat.reduceEqDiff, Int.reduceEq, reduceCtorEq, not_false_eq_true, not_true_eq_false, q15, q14, q11, q13, q8, q9, q10]

theorem nxt_none {V : Hv} (hV : WV V) {K : Int} (h : bR V K = -4) (m : Nat) (hm : (m : Int) ≤ rdN V) : nxt V K m = 9999 := by
  induction m with
  | zero => rfl
  | succ m ih =>
    have := bst_none hV (K := K) (rdN V).toNat h m (by omega)
    rw [nxt_f (fun z => by rw [this] at z; exact absurd z.1 (by decide)), ih (by omega)]
theorem hvn_none {V : Hv} (hV : WV V) {K S : Int} (h : bR V K = -4) (m : Nat) (hm : (m : Int) ≤ rdN V) (i w : Int) : hvn V K S m i w = 0 := by
  induction m with
  | zero => rfl
  | succ m ih =>
    have := bst_none hV (K := K) (rdN V).toNat h m (by omega)
    rw [hvn_f (by unfold ctd; rw [this]; rfl), ih (by omega)]
noncomputable def ctQ (V : Hv) (K S : Int) (τ : Sg) : Prop := τ 113 15 = nCt V K S (rdN V).toNat ∧ τ 113 14 = nxt V K (rdN V).toNat ∧ (∀ a w', 0 ≤ a → a < V.1 → 0 ≤ w' → w' < 32 → τ 119 (32 * a + w') = hvn V K S (rdN V).toNat a w') ∧ (∀ q : Nat, (q : Int) < rdN V → ctd V K S q = true → nCt V K S q < 60 → τ 120 (nCt V K S q) = q)

set_option maxHeartbeats 4000000 in
set_option maxRecDepth 100000 in
theorem t_X9_counts {g : G} {σ : Sg} (hV : WV (mv (σ 114))) (h2 : 0 ≤ (σ 114 2) ∧ (σ 114 2) ≤ 20) : MM g mX9_counts [.ref (g.2.2.1 113)] σ (pV (fun σ' => ctQ (mv (σ 114)) (σ 114 1) (σ 114 2) σ' ∧ Fm fCt σ σ')) := by
  refine mm_of rfl (by decide) rfl rfl (Nat.le_of_ble_eq_true rfl) (fun x hO hR => ?_)
  refine z_aload_n hO 0 dX9_counts_0 rfl ?_
  refine z_cvV hO (t_X9_finds hV) cv_X9_154 rfl rfl rfl rfl (by decide) (Nat.le_of_ble_eq_true rfl) dX9_counts_1 (fun s1 p1 => ?_)
  obtain ⟨⟨f8, f9, f10, f11, f13, f14⟩, hFm⟩ := p1
  have f114 : s1 114 = σ 114 := hFm.row 114 (fun _ => rfl)
  have hbr := bR_r hV (σ 114 1)
  have f10 : s1 113 10 = bR (mv (σ 114)) (σ 114 1) := f10
  have f11 : s1 113 11 = bC (mv (σ 114)) (σ 114 1) := f11
  have f13 : bR (mv (σ 114)) (σ 114 1) = -4 → s1 113 13 = 0 := f13
  have f14 : bR (mv (σ 114)) (σ 114 1) ≠ -4 → s1 113 13 = (nm (mv (σ 114)) (bR (mv (σ 114)) (σ 114 1))).length ∧ rowIs (s1 118) (nm (mv (σ 114)) (bR (mv (σ 114)) (σ 114 1))) := f14
  have hrd := rdN_r hV
  have hcs := cst_r hV (bR (mv (σ 114)) (σ 114 1))
  have hlen : bR (mv (σ 114)) (σ 114 1) ≠ -4 → 1 ≤ (nm (mv (σ 114)) (bR (mv (σ 114)) (σ 114 1))).length ∧ (nm (mv (σ 114)) (bR (mv (σ 114)) (σ 114 1))).length ≤ 4 ∧ ∀ v ∈ nm (mv (σ 114)) (bR (mv (σ 114)) (σ 114 1)), 0 < v ∧ v ≤ 999999 := fun q => said_r hV (snd_said (by rcases hbr with z | z; exact absurd z.1 q; exact z.2.2.2))
  refine z_aload_n hO 0 dX9_counts_4 rfl ?_
  refine z_iconst hO dX9_counts_5 ?_
  refine z_putI hO 15 fp_X9_157 rfl rfl rfl (by omega) rfl rfl dX9_counts_6 ?_
  refine z_aload_n hO 0 dX9_counts_9 rfl ?_
  refine z_sipush hO dX9_counts_10 (by decide) ?_
  refine z_putI hO 14 fp_X9_160 rfl rfl rfl (by omega) rfl rfl dX9_counts_13 ?_
  refine z_iconst hO dX9_counts_16 ?_
  refine z_istore_n hO (L' := [(1, _), (0, _)]) dX9_counts_17 (by decide) rfl ?_
  refine z_sg (fl_0 (c := 119) (lo := 0) (hi := 0 + (0 - 0)) (f := fun _ => 0) (by omega)).symm ?_
  refine z_pick [1, 0] rfl (lp_counts1 hO ?_ 257 0 (by decide) (by decide) (by decide))
  have hn0 := hV.1
  have hn8 := hV.2.1
  rw [mv_n] at hn0 hn8
  have hfz : Fm fCt σ (fl (up (up s1 113 15 0) 113 14 9999) 119 0 (0 + (256 - 0)) (fun _ => 0)) := by
    intro c k hf
    rw [fl_ne (by rintro rfl; cases (show true = false from hf))]
    exact (((hFm.mono fFd_Ct).up (c := 113) (k := 15) rfl).up (c := 113) (k := 14) rfl) c k hf
  refine z_aload_n hO 0 dX9_counts_38 rfl ?_
  refine z_getI hO 10 fl_X9_135 rfl rfl rfl dX9_counts_39 (fun r39 => ?_)
  rw [fl_ne (by decide), up_nk (by decide), up_nk (by decide), f10] at r39 ⊢
  refine z_bipush hO dX9_counts_42 (by decide) ?_
  refine z_icmp_ne hO 51 dX9_counts_44 (by decide) (by omega) (by decide) (fun c44 => ?_) (fun c44 => ?_)
  ·
    refine z_aload_n hO 0 dX9_counts_51 rfl ?_
    refine z_cvE hO (t_X9_readings (by simp only [fl_row_ne, fl_ne, up_row_ne, up_ne, up_eq, up_nk, up_up, up_self, ne_eq, Nat.reduceEqDiff, Int.reduceEq, reduceCtorEq, not_false_eq_true, not_true_eq_false, f114]; exact hV)) cv_X9_141 rfl rfl rfl rfl (by decide) (Nat.le_of_ble_eq_true rfl) dX9_counts_52 ?_
    try simp only [fl_row_ne, fl_ne, up_row_ne, up_ne, up_eq, up_nk, up_up, up_self, ne_eq, Nat.reduceEqDiff, Int.reduceEq, reduceCtorEq, not_false_eq_true, not_true_eq_false]
    refine z_istore_n hO (L' := [(1, _), (0, _)]) dX9_counts_55 (by decide) rfl ?_
    refine z_iconst hO dX9_counts_56 ?_
    refine z_istore_n hO (L' := [(2, _), (1, _), (0, _)]) dX9_counts_57 (by decide) rfl ?_
    rw [f114]
    have hbs : snd (mv (σ 114)) (σ 114 1) (bR (mv (σ 114)) (σ 114 1)) = true := by rcases hbr with z | z; exact absurd z.1 c44; exact z.2.2.2
    have hbc : 0 ≤ bC (mv (σ 114)) (σ 114 1) ∧ bC (mv (σ 114)) (σ 114 1) ≤ 9999 := by omega
    have h14 := f14 c44
    refine z_pick [2, 1, 0] rfl (lp_counts2 (σ := σ) hO hV h2 hbs hbc ?_ 65537 0 _ (by omega) (by omega) ⟨by simp only [fl_row_ne, fl_ne, up_row_ne, up_ne, up_eq, up_nk, up_up, up_self, ne_eq, Nat.reduceEqDiff, Int.reduceEq, reduceCtorEq, not_false_eq_true, not_true_eq_false]; rfl, by simp only [fl_row_ne, fl_ne, up_row_ne, up_ne, up_eq, up_nk, up_up, up_self, ne_eq, Nat.reduceEqDiff, Int.reduceEq, reduceCtorEq, not_false_eq_true, not_true_eq_false]; rfl, fun a w' h0 h1 h2 h3 => fl_in (by omega), fun q h0 => absurd h0 (Nat.not_lt_zero q), hfz, by simp only [fl_row_ne, fl_ne, up_row_ne, up_ne, up_eq, up_nk, up_up, up_self, ne_eq, Nat.reduceEqDiff, Int.reduceEq, reduceCtorEq, not_false_eq_true, not_true_eq_false]; exact f11, by simp only [fl_row_ne, fl_ne, up_row_ne, up_ne, up_eq, up_nk, up_up, up_self, ne_eq, Nat.reduceEqDiff, Int.reduceEq, reduceCtorEq, not_false_eq_true, not_true_eq_false]; exact h14.1, by simp only [fl_row_ne, fl_ne, up_row_ne, up_ne, up_eq, up_nk, up_up, up_self, ne_eq, Nat.reduceEqDiff, Int.reduceEq, reduceCtorEq, not_false_eq_true, not_true_eq_false]; exact h14.2, by simp only [fl_row_ne, fl_ne, up_row_ne, up_ne, up_eq, up_nk, up_up, up_self, ne_eq, Nat.reduceEqDiff, Int.reduceEq, reduceCtorEq, not_false_eq_true, not_true_eq_false]; exact f8, by simp only [fl_row_ne, fl_ne, up_row_ne, up_ne, up_eq, up_nk, up_up, up_self, ne_eq, Nat.reduceEqDiff, Int.reduceEq, reduceCtorEq, not_false_eq_true, not_true_eq_false]; exact f9, by simp only [fl_row_ne, fl_ne, up_row_ne, up_ne, up_eq, up_nk, up_up, up_self, ne_eq, Nat.reduceEqDiff, Int.reduceEq, reduceCtorEq, not_false_eq_true, not_true_eq_false]; exact f10⟩)
    intro τ hI
    exact z_retV hO hR dX9_counts_234 ⟨⟨hI.1, hI.2.1, hI.2.2.1, fun q h0 h1 h2 => hI.2.2.2.1 q (by omega) h1 h2⟩, hI.2.2.2.2.1⟩
  ·
    refine z_iconst hO dX9_counts_47 ?_
    refine z_goto hO 55 dX9_counts_48 (by decide) ?_
    refine z_istore_n hO (L' := [(1, _), (0, _)]) dX9_counts_55 (by decide) rfl ?_
    refine z_iconst hO dX9_counts_56 ?_
    refine z_istore_n hO (L' := [(2, _), (1, _), (0, _)]) dX9_counts_57 (by decide) rfl ?_
    refine z_iload_n hO 0 dX9_counts_58 rfl ?_
    refine z_iload_n hO 1 dX9_counts_59 rfl ?_
    refine z_icmp_ge hO 234 dX9_counts_60 (by decide) (by decide) (by decide) (fun c60 => ?_) (fun c60 => absurd c60 (by omega))
    exact z_retV hO hR dX9_counts_234 (⟨⟨by rw [nCt_none hV c44 _ (by omega)]; simp only [fl_row_ne, fl_ne, up_row_ne, up_ne, up_eq, up_nk, up_up, up_self, ne_eq, Nat.reduceEqDiff, Int.reduceEq, reduceCtorEq, not_false_eq_true, not_true_eq_false], by rw [nxt_none hV c44 _ (by omega)]; simp only [fl_row_ne, fl_ne, up_row_ne, up_ne, up_eq, up_nk, up_up, up_self, ne_eq, Nat.reduceEqDiff, Int.reduceEq, reduceCtorEq, not_false_eq_true, not_true_eq_false], fun a w' h0 h1 h2 h3 => by rw [hvn_none hV c44 _ (by omega)]; exact fl_in (by rw [mv_n] at h1; omega), fun q h0 h1 _ => by have := bst_none hV (K := (σ 114 1)) (rdN (mv (σ 114))).toNat c44 q (by omega); rw [ctd_iff, this] at h1; exact absurd h1.1 (by decide)⟩, hfz⟩)

/-- the most that have one word, of the first m words of a slot's row -/
def mostF (H : Int → Int) (b : Int) : Nat → Int
  | 0 => 0
  | m + 1 => if mostF H b m < H (b + m) then H (b + m) else mostF H b m
theorem mostF_s (H : Int → Int) (b : Int) (m : Nat) : mostF H b (m + 1) = if mostF H b m < H (b + m) then H (b + m) else mostF H b m := rfl
/-- the slot that parts so many best, of the first m slots, and the most that have one word there -/
def lookF (H : Int → Int) (all : Int) : Nat → Int × Int
  | 0 => (-4, all)
  | m + 1 => if mostF H (32 * m) 32 < (lookF H all m).2 then ((m : Int), mostF H (32 * m) 32) else lookF H all m
theorem lookF_s (H : Int → Int) (all : Int) (m : Nat) : lookF H all (m + 1) = if mostF H (32 * m) 32 < (lookF H all m).2 then ((m : Int), mostF H (32 * m) 32) else lookF H all m := rfl

theorem mostF_r {σ : Sg} (h : Rn σ) (b : Int) (m : Nat) : -2147483648 ≤ mostF (σ 119) b m ∧ mostF (σ 119) b m ≤ 2147483647 := by
  induction m with
  | zero => exact ⟨by show (-2147483648 : Int) ≤ 0; decide, by show (0 : Int) ≤ 2147483647; decide⟩
  | succ m ih => have := (h 119 (b + m)).1 (by rfl); rw [mostF_s]; split <;> omega
theorem lookF_r {σ : Sg} (h : Rn σ) {all : Int} (ha : -2147483648 ≤ all ∧ all ≤ 2147483647) (m : Nat) : -4 ≤ (lookF (σ 119) all m).1 ∧ (lookF (σ 119) all m).1 < (m : Int) ∧ -2147483648 ≤ (lookF (σ 119) all m).2 ∧ (lookF (σ 119) all m).2 ≤ 2147483647 := by
  induction m with
  | zero => exact ⟨by show (-4 : Int) ≤ -4; decide, by show (-4 : Int) < 0; decide, ha.1, ha.2⟩
  | succ m ih => have := mostF_r h (32 * m) 32; rw [lookF_s]; split <;> first | omega | (simp only; omega)

set_option maxHeartbeats 4000000 in
set_option maxRecDepth 100000 in
theorem lp_look1 {g : G} {x : Cx} {σ : Sg} {all f l : Int} {i : Nat} (hO : Ok g x RX9 cX9_look 7 1) (hi : i ≤ 7) (hE : Z g x 7 76 [(0, .ref (g.2.2.1 113)), (1, vI all), (2, vI f), (3, vI l), (4, vI i), (5, vI (mostF (σ 119) (32 * i) 32))] [] σ) : ∀ (k j : Nat) (v : Int), j ≤ 32 → 32 - j < k → v = mostF (σ 119) (32 * i) j → Z g x 7 25 [(0, .ref (g.2.2.1 113)), (1, vI all), (2, vI f), (3, vI l), (4, vI i), (5, vI v), (6, vI j)] [] σ := by
  intro k
  induction k with
  | zero => intro j v h0 hk; exact absurd hk (by omega)
  | succ k ih =>
    intro j v h0 hk hv
    refine z_rn (fun hrn => ?_)
    have hvr : -2147483648 ≤ v ∧ v ≤ 2147483647 := by rw [hv]; exact mostF_r hrn _ _
    refine z_iload hO 6 dX9_look_25 rfl ?_
    refine z_bipush hO dX9_look_27 (by decide) ?_
    refine z_icmp_ge hO 76 dX9_look_29 (by decide) (by omega) (by decide) (fun c29 => ?_) (fun c29 => ?_)
    ·
      have hj : j = 32 := by omega
      subst hj
      rw [hv]
      exact z_pick [0, 1, 2, 3, 4, 5] rfl hE
    ·
      refine z_aload_n hO 0 dX9_look_32 rfl ?_
      refine z_getR hO (119) fl_X9_25 rfl rfl dX9_look_33 ?_
      refine z_bipush hO dX9_look_36 (by decide) ?_
      refine z_iload hO 4 dX9_look_38 rfl ?_
      refine z_imul hO dX9_look_40 ?_
      refine z_iload hO 6 dX9_look_41 rfl ?_
      refine z_iadd hO dX9_look_43 ?_
      refine z_iald hO rfl (by omega) (by decide) dX9_look_44 (fun r44 => ?_)
      refine z_iload hO 5 dX9_look_45 rfl ?_
      refine z_icmp_le hO 66 dX9_look_47 (by decide) (by omega) (by omega) (fun c47 => ?_) (fun c47 => ?_)
      ·
        refine z_iload hO 5 dX9_look_66 rfl ?_
        refine z_istore hO (L' := [(5, _), (0, _), (1, _), (2, _), (3, _), (4, _), (6, _)]) dX9_look_68 (by decide) rfl ?_
        refine z_iinc hO (L' := [(6, _), (5, _), (0, _), (1, _), (2, _), (3, _), (4, _)]) 6 dX9_look_70 rfl (by decide) rfl ?_
        refine z_goto hO 25 dX9_look_73 (by decide) ?_
        exact z_pick [2, 3, 4, 5, 6, 1, 0] rfl (ih (j + 1) _ (by omega) (by omega) (by rw [mostF_s, ← hv]; first | rw [if_pos (by omega)] | rw [if_neg (by omega)]))
      ·
        refine z_aload_n hO 0 dX9_look_50 rfl ?_
        refine z_getR hO (119) fl_X9_25 rfl rfl dX9_look_51 ?_
        refine z_bipush hO dX9_look_54 (by decide) ?_
        refine z_iload hO 4 dX9_look_56 rfl ?_
        refine z_imul hO dX9_look_58 ?_
        refine z_iload hO 6 dX9_look_59 rfl ?_
        refine z_iadd hO dX9_look_61 ?_
        refine z_iald hO rfl (by omega) (by decide) dX9_look_62 (fun r62 => ?_)
        refine z_goto hO 68 dX9_look_63 (by decide) ?_
        refine z_istore hO (L' := [(5, _), (0, _), (1, _), (2, _), (3, _), (4, _), (6, _)]) dX9_look_68 (by decide) rfl ?_
        refine z_iinc hO (L' := [(6, _), (5, _), (0, _), (1, _), (2, _), (3, _), (4, _)]) 6 dX9_look_70 rfl (by decide) rfl ?_
        refine z_goto hO 25 dX9_look_73 (by decide) ?_
        exact z_pick [2, 3, 4, 5, 6, 1, 0] rfl (ih (j + 1) _ (by omega) (by omega) (by rw [mostF_s, ← hv]; first | rw [if_pos (by omega)] | rw [if_neg (by omega)]))

set_option maxHeartbeats 4000000 in
set_option maxRecDepth 100000 in
theorem lp_look {g : G} {x : Cx} {σ : Sg} {all : Int} (hO : Ok g x RX9 cX9_look 7 1) (hR : Rt g x (some .int) (pI (pE (lookF (σ 119) all (σ 114 0).toNat).1 σ))) (hn : 0 ≤ σ 114 0 ∧ σ 114 0 ≤ 8) (ha : -2147483648 ≤ all ∧ all ≤ 2147483647) : ∀ (k i : Nat) (f l : Int), (i : Int) ≤ σ 114 0 → σ 114 0 - i < k → f = (lookF (σ 119) all i).1 → l = (lookF (σ 119) all i).2 → Z g x 7 8 [(0, .ref (g.2.2.1 113)), (1, vI all), (2, vI f), (3, vI l), (4, vI i)] [] σ := by
  intro k
  induction k with
  | zero => intro i f l h0 hk; exact absurd hk (by omega)
  | succ k ih =>
    intro i f l h0 hk hf hl
    refine z_rn (fun hrn => ?_)
    have hlr := lookF_r hrn ha i
    subst hf
    subst hl
    refine z_iload hO 4 dX9_look_8 rfl ?_
    refine z_aload_n hO 0 dX9_look_10 rfl ?_
    refine z_getR hO (114) fl_X9_7 rfl rfl dX9_look_11 ?_
    refine z_iconst hO dX9_look_14 ?_
    refine z_iald hO rfl (by omega) (by decide) dX9_look_15 (fun r15 => ?_)
    refine z_icmp_ge hO 108 dX9_look_16 (by decide) (by omega) (by omega) (fun c16 => ?_) (fun c16 => ?_)
    ·
      have hi3 : i = (σ 114 0).toNat := by omega
      subst hi3
      refine z_iload_n hO 2 dX9_look_108 rfl ?_
      exact z_retE hO hR dX9_look_109 (rfl) rfl
    ·
      have hmr := mostF_r hrn (32 * i) 32
      refine z_iconst hO dX9_look_19 ?_
      refine z_istore hO (L' := [(5, _), (0, _), (1, _), (2, _), (3, _), (4, _)]) dX9_look_20 (by decide) rfl ?_
      refine z_iconst hO dX9_look_22 ?_
      refine z_istore hO (L' := [(6, _), (5, _), (0, _), (1, _), (2, _), (3, _), (4, _)]) dX9_look_23 (by decide) rfl ?_
      refine z_pick [2, 3, 4, 5, 6, 1, 0] rfl (lp_look1 hO (by omega) ?_ 33 0 0 (by decide) (by decide) rfl)
      refine z_iload hO 5 dX9_look_76 rfl ?_
      refine z_iload_n hO 3 dX9_look_78 rfl ?_
      refine z_icmp_ge hO 87 dX9_look_79 (by decide) (by omega) (by omega) (fun c79 => ?_) (fun c79 => ?_)
      ·
        refine z_iload_n hO 2 dX9_look_87 rfl ?_
        refine z_istore_n hO (L' := [(2, _), (0, _), (1, _), (3, _), (4, _), (5, _)]) dX9_look_88 (by decide) rfl ?_
        refine z_iload hO 5 dX9_look_89 rfl ?_
        refine z_iload_n hO 3 dX9_look_91 rfl ?_
        refine z_icmp_ge hO 100 dX9_look_92 (by decide) (by omega) (by omega) (fun c92 => ?_) (fun c92 => ?_)
        ·
          refine z_iload_n hO 3 dX9_look_100 rfl ?_
          refine z_istore_n hO (L' := [(3, _), (2, _), (0, _), (1, _), (4, _), (5, _)]) dX9_look_101 (by decide) rfl ?_
          refine z_iinc hO (L' := [(4, _), (3, _), (2, _), (0, _), (1, _), (5, _)]) 4 dX9_look_102 rfl (by decide) rfl ?_
          refine z_goto hO 8 dX9_look_105 (by decide) ?_
          have hlk := lookF_s (σ 119) all i
          first | (exfalso; omega) | (rw [if_pos (by assumption)] at hlk; exact z_pick [3, 4, 2, 1, 0] rfl (ih (i + 1) _ _ (by omega) (by omega) (by rw [hlk]) (by rw [hlk]))) | (rw [if_neg (by omega)] at hlk; exact z_pick [3, 4, 2, 1, 0] rfl (ih (i + 1) _ _ (by omega) (by omega) (by rw [hlk]) (by rw [hlk])))
        ·
          refine z_iload hO 5 dX9_look_95 rfl ?_
          refine z_goto hO 101 dX9_look_97 (by decide) ?_
          refine z_istore_n hO (L' := [(3, _), (2, _), (0, _), (1, _), (4, _), (5, _)]) dX9_look_101 (by decide) rfl ?_
          refine z_iinc hO (L' := [(4, _), (3, _), (2, _), (0, _), (1, _), (5, _)]) 4 dX9_look_102 rfl (by decide) rfl ?_
          refine z_goto hO 8 dX9_look_105 (by decide) ?_
          have hlk := lookF_s (σ 119) all i
          first | (exfalso; omega) | (rw [if_pos (by assumption)] at hlk; exact z_pick [3, 4, 2, 1, 0] rfl (ih (i + 1) _ _ (by omega) (by omega) (by rw [hlk]) (by rw [hlk]))) | (rw [if_neg (by omega)] at hlk; exact z_pick [3, 4, 2, 1, 0] rfl (ih (i + 1) _ _ (by omega) (by omega) (by rw [hlk]) (by rw [hlk])))
      ·
        refine z_iload hO 4 dX9_look_82 rfl ?_
        refine z_goto hO 88 dX9_look_84 (by decide) ?_
        refine z_istore_n hO (L' := [(2, _), (0, _), (1, _), (3, _), (4, _), (5, _)]) dX9_look_88 (by decide) rfl ?_
        refine z_iload hO 5 dX9_look_89 rfl ?_
        refine z_iload_n hO 3 dX9_look_91 rfl ?_
        refine z_icmp_ge hO 100 dX9_look_92 (by decide) (by omega) (by omega) (fun c92 => ?_) (fun c92 => ?_)
        ·
          refine z_iload_n hO 3 dX9_look_100 rfl ?_
          refine z_istore_n hO (L' := [(3, _), (2, _), (0, _), (1, _), (4, _), (5, _)]) dX9_look_101 (by decide) rfl ?_
          refine z_iinc hO (L' := [(4, _), (3, _), (2, _), (0, _), (1, _), (5, _)]) 4 dX9_look_102 rfl (by decide) rfl ?_
          refine z_goto hO 8 dX9_look_105 (by decide) ?_
          have hlk := lookF_s (σ 119) all i
          first | (exfalso; omega) | (rw [if_pos (by assumption)] at hlk; exact z_pick [3, 4, 2, 1, 0] rfl (ih (i + 1) _ _ (by omega) (by omega) (by rw [hlk]) (by rw [hlk]))) | (rw [if_neg (by omega)] at hlk; exact z_pick [3, 4, 2, 1, 0] rfl (ih (i + 1) _ _ (by omega) (by omega) (by rw [hlk]) (by rw [hlk])))
        ·
          refine z_iload hO 5 dX9_look_95 rfl ?_
          refine z_goto hO 101 dX9_look_97 (by decide) ?_
          refine z_istore_n hO (L' := [(3, _), (2, _), (0, _), (1, _), (4, _), (5, _)]) dX9_look_101 (by decide) rfl ?_
          refine z_iinc hO (L' := [(4, _), (3, _), (2, _), (0, _), (1, _), (5, _)]) 4 dX9_look_102 rfl (by decide) rfl ?_
          refine z_goto hO 8 dX9_look_105 (by decide) ?_
          have hlk := lookF_s (σ 119) all i
          first | (exfalso; omega) | (rw [if_pos (by assumption)] at hlk; exact z_pick [3, 4, 2, 1, 0] rfl (ih (i + 1) _ _ (by omega) (by omega) (by rw [hlk]) (by rw [hlk]))) | (rw [if_neg (by omega)] at hlk; exact z_pick [3, 4, 2, 1, 0] rfl (ih (i + 1) _ _ (by omega) (by omega) (by rw [hlk]) (by rw [hlk])))

set_option maxHeartbeats 4000000 in
set_option maxRecDepth 100000 in
theorem t_X9_look {g : G} {σ : Sg} {all : Int} (hn : 0 ≤ σ 114 0 ∧ σ 114 0 ≤ 8) (ha : -2147483648 ≤ all ∧ all ≤ 2147483647) : MM g mX9_look [.ref (g.2.2.1 113), vI all] σ (pI (pE ((lookF (σ 119) all (σ 114 0).toNat).1) σ)) := by
  refine mm_of rfl (by decide) rfl rfl (Nat.le_of_ble_eq_true rfl) (fun x hO hR => ?_)
  refine z_bipush hO dX9_look_0 (by decide) ?_
  refine z_istore_n hO (L' := [(2, _), (0, _), (1, _)]) dX9_look_2 (by decide) rfl ?_
  refine z_iload_n hO 2 dX9_look_3 rfl ?_
  refine z_istore_n hO (L' := [(3, _), (2, _), (0, _), (1, _)]) dX9_look_4 (by decide) rfl ?_
  refine z_iconst hO dX9_look_5 ?_
  refine z_istore hO (L' := [(4, _), (3, _), (2, _), (0, _), (1, _)]) dX9_look_6 (by decide) rfl ?_
  exact z_pick [3, 4, 2, 1, 0] rfl (lp_look hO hR hn ha 9 0 _ _ (by omega) (by omega) rfl rfl)
