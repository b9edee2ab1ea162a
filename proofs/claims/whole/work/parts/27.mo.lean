/-! ===== those counted ===== -/
noncomputable def ctd (V : Hv) (K S r : Int) : Bool := snd V K r && decide (cst V r ≤ bC V K + S)
theorem ctd_iff {V : Hv} {K S r : Int} : ctd V K S r = true ↔ snd V K r = true ∧ cst V r ≤ bC V K + S := by unfold ctd; simp
noncomputable def nCt (V : Hv) (K S : Int) : Nat → Int
  | 0 => 0
  | m + 1 => nCt V K S m + b2i (ctd V K S m)
theorem nCt_s (V : Hv) (K S : Int) (m : Nat) : nCt V K S (m + 1) = nCt V K S m + b2i (ctd V K S m) := rfl
theorem nCt_r (V : Hv) (K S : Int) (m : Nat) : 0 ≤ nCt V K S m ∧ nCt V K S m ≤ m := by
  induction m with
  | zero => exact ⟨Int.le_refl 0, Int.le_refl 0⟩
  | succ m ih => have := b2i_r (ctd V K S m); rw [nCt_s]; omega
theorem nCt_mono (V : Hv) (K S : Int) {a b : Nat} (h : a ≤ b) : nCt V K S a ≤ nCt V K S b := by
  induction b with
  | zero => have : a = 0 := by omega
            subst this; exact Int.le_refl _
  | succ b ih =>
    have := b2i_r (ctd V K S b)
    by_cases e : a = b + 1
    · subst e; exact Int.le_refl _
    · have := ih (by omega); rw [nCt_s]; omega
/-- the k-th of those counted is one alone -/
theorem nCt_inj {V : Hv} {K S : Int} {a b : Nat} (ha : ctd V K S a = true) (hb : ctd V K S b = true) (h : nCt V K S a = nCt V K S b) : a = b := by
  have key : ∀ x y : Nat, ctd V K S x = true → x < y → nCt V K S x < nCt V K S y := by
    intro x y hx hxy
    have := nCt_mono V K S (show x + 1 ≤ y from hxy)
    rw [nCt_s, hx] at this
    have e : b2i true = 1 := rfl
    omega
  rcases Nat.lt_trichotomy a b with q | q | q
  · have := key a b ha q; omega
  · exact q
  · have := key b a hb q; omega
theorem bst_none {V : Hv} (hV : WV V) {K : Int} (m : Nat) (h : (bst V K m).1 = -4) : ∀ r : Nat, r < m → snd V K r = false := by
  induction m with
  | zero => intro r hr; exact absurd hr (Nat.not_lt_zero r)
  | succ m ih =>
    have hr := bst_r hV K m
    have hc := cst_r hV m
    rw [bst_s] at h
    split at h
    · simp only at h; omega
    · rename_i hn
      intro r hr2
      by_cases e : r = m
      · subst e
        cases hs : snd V K r
        · rfl
        · exact absurd ⟨hs, by rcases hr with q | q; (have := q.2; omega); (exact absurd h (by omega))⟩ hn
      · exact ih h r (by omega)
theorem nCt_none {V : Hv} (hV : WV V) {K S : Int} (h : bR V K = -4) (m : Nat) (hm : (m : Int) ≤ rdN V) : nCt V K S m = 0 := by
  induction m with
  | zero => rfl
  | succ m ih =>
    have := bst_none hV (K := K) (rdN V).toNat h m (by omega)
    rw [nCt_s, ih (by omega)]
    unfold ctd; rw [this]; rfl
/-- what reading r tells: its cost, its last number -/
def tell (V : Hv) (what r : Int) : Int := if what = 0 then cst V r else lrow (nm V r) ((nm V r).length - 1)
noncomputable def cdQ (V : Hv) (K S k what r : Int) : Prop := (∃ q : Nat, (q : Int) < rdN V ∧ ctd V K S q = true ∧ nCt V K S q = k ∧ r = tell V what q) ∨ (nCt V K S (rdN V).toNat ≤ k ∧ r = -4)
theorem cdQ_one {V : Hv} {K S k what a b : Int} (ha : cdQ V K S k what a) (hb : cdQ V K S k what b) : a = b := by
  have key : ∀ q : Nat, (q : Int) < rdN V → ctd V K S q = true → nCt V K S q < nCt V K S (rdN V).toNat := by
    intro q h1 h2
    have := nCt_mono V K S (show q + 1 ≤ (rdN V).toNat by omega)
    rw [nCt_s, h2] at this
    have e : b2i true = 1 := rfl
    omega
  rcases ha with ⟨q, h1, h2, h3, h4⟩ | ⟨h1, h2⟩
  · rcases hb with ⟨q', g1, g2, g3, g4⟩ | ⟨g1, g2⟩
    · have e := nCt_inj h2 g2 (by omega)
      subst e; rw [h4, g4]
    · have := key q h1 h2; omega
  · rcases hb with ⟨q', g1, g2, g3, g4⟩ | ⟨g1, g2⟩
    · have := key q' g1 g2; omega
    · rw [h2, g2]
def tkF (V : Hv) (r : Int) (σ' : Sg) : Prop := σ' 113 4 = cst V r ∧ σ' 113 6 = (nm V r).length ∧ rowIs (σ' 117) (nm V r) ∧ ∀ j, 0 ≤ j → j < V.1 → σ' 115 j = pk V r j

set_option maxHeartbeats 4000000 in
set_option maxRecDepth 100000 in
theorem t_X9_isCounted {g : G} {σ : Sg} {r : Int} (hV : WV (mv (σ 114))) (hr : 0 ≤ r ∧ r ≤ 65536) (h11 : 0 ≤ σ 113 11 ∧ σ 113 11 ≤ 9999) (h2 : 0 ≤ (σ 114 2) ∧ (σ 114 2) ≤ 20) : MM g mX9_isCounted [.ref (g.2.2.1 113), vI r] σ (pB (fun b σ' => (b = true ↔ snd (mv (σ 114)) (σ 114 1) r = true ∧ cst (mv (σ 114)) r ≤ σ 113 11 + (σ 114 2)) ∧ (b = true → tkF (mv (σ 114)) r σ') ∧ Fm fTk σ σ')) := by
  refine mm_of rfl (by decide) rfl rfl (Nat.le_of_ble_eq_true rfl) (fun x hO hR => ?_)
  refine z_aload_n hO 0 dX9_isCounted_0 rfl ?_
  refine z_iload_n hO 1 dX9_isCounted_1 rfl ?_
  refine z_cvB hO (t_X9_takes (r := r) hV hr) cv_X9_144 rfl rfl rfl rfl (by decide) (Nat.le_of_ble_eq_true rfl) dX9_isCounted_2 (fun s2 p2 => ?_) (fun s2 p2 => ?_)
  ·
    have q114 : s2 114 = σ 114 := p2.2.2.row 114 (fun _ => rfl)
    have q11 : s2 113 11 = σ 113 11 := p2.2.2 113 11 rfl
    have hsd : said (mv (σ 114)) r = true := p2.1.1.symm
    have q6 : s2 113 6 = (nm (mv (σ 114)) r).length := p2.1.2.1
    have q117 : rowIs (s2 117) (nm (mv (σ 114)) r) := p2.1.2.2.1
    have q4 : s2 113 4 = cst (mv (σ 114)) r := p2.1.2.2.2
    have hsr := said_r hV hsd
    have hcr := cst_r hV r
    refine z_if_eq hO 37 dX9_isCounted_5 (by decide) (by decide) (fun c5 => absurd c5 (by omega)) (fun c5 => ?_)
    refine z_aload_n hO 0 dX9_isCounted_8 rfl ?_
    refine z_cvQ hO (t_X9_holds (by rw [q6]; exact row_NR q117 hsr)) cv_X9_148 rfl rfl rfl rfl (by decide) (Nat.le_of_ble_eq_true rfl) dX9_isCounted_9 (fun c9 => ?_) (fun c9 => ?_)
    ·
      try simp only [fl_row_ne, fl_ne, up_row_ne, up_ne, up_eq, up_nk, up_up, up_self, ne_eq, Nat.reduceEqDiff, Int.reduceEq, reduceCtorEq, not_false_eq_true, not_true_eq_false, q114, q11, q6, q4] at c9 ⊢
      have c9 : hld (σ 114 1) (lrow (nm (mv (σ 114)) r)) (nm (mv (σ 114)) r).length := (hld_row q117 hsr.1).mp c9
      have hsn : snd (mv (σ 114)) (σ 114 1) r = true := snd_hld hsd c9
      refine z_if_eq hO 37 dX9_isCounted_12 (by decide) (by decide) (fun c12 => absurd c12 (by omega)) (fun c12 => ?_)
      refine z_aload_n hO 0 dX9_isCounted_15 rfl ?_
      refine z_getI hO 4 fl_X9_123 rfl rfl rfl dX9_isCounted_16 (fun r16 => ?_)
      try simp only [fl_row_ne, fl_ne, up_row_ne, up_ne, up_eq, up_nk, up_up, up_self, ne_eq, Nat.reduceEqDiff, Int.reduceEq, reduceCtorEq, not_false_eq_true, not_true_eq_false, q114, q11, q6, q4] at r16 ⊢
      refine z_aload_n hO 0 dX9_isCounted_19 rfl ?_
      refine z_getI hO 11 fl_X9_138 rfl rfl rfl dX9_isCounted_20 (fun r20 => ?_)
      try simp only [fl_row_ne, fl_ne, up_row_ne, up_ne, up_eq, up_nk, up_up, up_self, ne_eq, Nat.reduceEqDiff, Int.reduceEq, reduceCtorEq, not_false_eq_true, not_true_eq_false, q114, q11, q6, q4] at r20 ⊢
      refine z_aload_n hO 0 dX9_isCounted_23 rfl ?_
      refine z_getR hO (114) fl_X9_7 rfl rfl dX9_isCounted_24 ?_
      refine z_iconst hO dX9_isCounted_27 ?_
      refine z_iald hO rfl (by omega) (by decide) dX9_isCounted_28 (fun r28 => ?_)
      try simp only [fl_row_ne, fl_ne, up_row_ne, up_ne, up_eq, up_nk, up_up, up_self, ne_eq, Nat.reduceEqDiff, Int.reduceEq, reduceCtorEq, not_false_eq_true, not_true_eq_false, q114, q11, q6, q4] at r28 ⊢
      refine z_iadd hO dX9_isCounted_29 ?_
      refine z_icmp_gt hO 37 dX9_isCounted_30 (by decide) (by omega) (by omega) (fun c30 => ?_) (fun c30 => ?_)
      ·
        refine z_iconst hO dX9_isCounted_37 ?_
        exact z_retF hO hR dX9_isCounted_38 (⟨by first | exact iff_of_true rfl ⟨hsn, by omega⟩ | exact iff_of_false (by decide) (fun z => by omega) | exact iff_of_false (by decide) (fun z => by rw [hsn] at z; exact absurd z.1 (by decide)), by first | exact fun z => absurd z (by decide) | exact fun _ => ⟨q4, q6, q117, p2.2.1⟩, p2.2.2⟩)
      ·
        refine z_iconst hO dX9_isCounted_33 ?_
        refine z_goto hO 38 dX9_isCounted_34 (by decide) ?_
        exact z_retT hO hR dX9_isCounted_38 (⟨by first | exact iff_of_true rfl ⟨hsn, by omega⟩ | exact iff_of_false (by decide) (fun z => by omega) | exact iff_of_false (by decide) (fun z => by rw [hsn] at z; exact absurd z.1 (by decide)), by first | exact fun z => absurd z (by decide) | exact fun _ => ⟨q4, q6, q117, p2.2.1⟩, p2.2.2⟩)
    ·
      try simp only [fl_row_ne, fl_ne, up_row_ne, up_ne, up_eq, up_nk, up_up, up_self, ne_eq, Nat.reduceEqDiff, Int.reduceEq, reduceCtorEq, not_false_eq_true, not_true_eq_false, q114, q11, q6, q4] at c9 ⊢
      have c9 : ¬ hld (σ 114 1) (lrow (nm (mv (σ 114)) r)) (nm (mv (σ 114)) r).length := fun z => c9 ((hld_row q117 hsr.1).mpr z)
      have hsn : snd (mv (σ 114)) (σ 114 1) r = false := snd_nhld c9
      refine z_if_eq hO 37 dX9_isCounted_12 (by decide) (by decide) (fun c12 => ?_) (fun c12 => absurd c12 (by omega))
      refine z_iconst hO dX9_isCounted_37 ?_
      exact z_retF hO hR dX9_isCounted_38 (⟨by first | exact iff_of_true rfl ⟨hsn, by omega⟩ | exact iff_of_false (by decide) (fun z => by omega) | exact iff_of_false (by decide) (fun z => by rw [hsn] at z; exact absurd z.1 (by decide)), by first | exact fun z => absurd z (by decide) | exact fun _ => ⟨q4, q6, q117, p2.2.1⟩, p2.2.2⟩)
  ·
    have q114 : s2 114 = σ 114 := p2.2.2.row 114 (fun _ => rfl)
    have q11 : s2 113 11 = σ 113 11 := p2.2.2 113 11 rfl
    have hsn : snd (mv (σ 114)) (σ 114 1) r = false := snd_nsaid p2.1.1.symm
    refine z_if_eq hO 37 dX9_isCounted_5 (by decide) (by decide) (fun c5 => ?_) (fun c5 => absurd c5 (by omega))
    refine z_iconst hO dX9_isCounted_37 ?_
    exact z_retF hO hR dX9_isCounted_38 (⟨by first | exact iff_of_true rfl ⟨hsn, by omega⟩ | exact iff_of_false (by decide) (fun z => by omega) | exact iff_of_false (by decide) (fun z => by rw [hsn] at z; exact absurd z.1 (by decide)), by first | exact fun z => absurd z (by decide) | exact fun _ => ⟨q4, q6, q117, p2.2.1⟩, p2.2.2⟩)

set_option maxHeartbeats 4000000 in
set_option maxRecDepth 100000 in
theorem lp_counted {g : G} {x : Cx} {σ : Sg} {k what : Int} {P : Int → Sg → Prop} (hO : Ok g x RX9 cX9_counted 6 11) (hR : Rt g x (some .int) (pI P)) (hV : WV (mv (σ 114))) (h2 : 0 ≤ (σ 114 2) ∧ (σ 114 2) ≤ 20) (hk : 0 ≤ k ∧ k ≤ 2147483647) (hw : 0 ≤ what ∧ what ≤ 1) (hbc : 0 ≤ bC (mv (σ 114)) (σ 114 1) ∧ bC (mv (σ 114)) (σ 114 1) ≤ 9999) (hP : ∀ r τ, cdQ (mv (σ 114)) (σ 114 1) (σ 114 2) k what r ∧ Fm fFd σ τ → P r τ) : ∀ (f i : Nat) (n : Int) (τ : Sg), (i : Int) ≤ rdN (mv (σ 114)) → rdN (mv (σ 114)) - i < f → n = nCt (mv (σ 114)) (σ 114 1) (σ 114 2) i → n ≤ k → 0 ≤ n → Fm fFd σ τ → τ 113 11 = bC (mv (σ 114)) (σ 114 1) → Z g x 6 44 [(0, .ref (g.2.2.1 113)), (1, vI k), (2, vI what), (3, vI (rdN (mv (σ 114)))), (4, vI n), (5, vI i)] [] τ := by
  intro f
  induction f with
  | zero => intro i n τ h0 hk; exact absurd hk (by omega)
  | succ f ih =>
    intro i n τ hi hf hn hnk hn0 hFm e11
    have e114 : τ 114 = σ 114 := hFm.row 114 (fun _ => rfl)
    subst hn
    refine z_iload hO 5 dX9_counted_44 rfl ?_
    refine z_iload_n hO 3 dX9_counted_46 rfl ?_
    refine z_icmp_ge hO 97 dX9_counted_47 (by decide) (by have := rdN_r hV; omega) (by have := rdN_r hV; omega) (fun c47 => ?_) (fun c47 => ?_)
    ·
      have hi3 : i = (rdN (mv (σ 114))).toNat := by have := rdN_r hV; omega
      subst hi3
      refine z_bipush hO dX9_counted_97 (by decide) ?_
      exact z_retI hO hR dX9_counted_99 (hP _ _ ⟨Or.inr ⟨by omega, rfl⟩, hFm⟩)
    ·
      have hrd := rdN_r hV
      refine z_aload_n hO 0 dX9_counted_50 rfl ?_
      refine z_iload hO 5 dX9_counted_51 rfl ?_
      refine z_cvB hO (t_X9_isCounted (r := i) (by rw [e114]; exact hV) (by omega) (by rw [e11]; omega) (by rw [e114]; exact h2)) cv_X9_275 rfl rfl rfl rfl (by decide) (Nat.le_of_ble_eq_true rfl) dX9_counted_53 (fun s53 p53 => ?_) (fun s53 p53 => ?_)
      ·
        rw [e114, e11] at p53
        have hf2 : Fm fFd σ s53 := hFm.trans (p53.2.2.mono fTk_Fd)
        have g11 : s53 113 11 = bC (mv (σ 114)) (σ 114 1) := (p53.2.2 113 11 rfl).trans e11
        have hct : ctd (mv (σ 114)) (σ 114 1) (σ 114 2) i = true := ctd_iff.mpr (p53.1.mp rfl)
        have hTk := p53.2.1 rfl
        have hns : nCt (mv (σ 114)) (σ 114 1) (σ 114 2) (i + 1) = nCt (mv (σ 114)) (σ 114 1) (σ 114 2) i + 1 := by rw [nCt_s, hct]; rfl
        have q4 := hTk.1
        have q6 := hTk.2.1
        have hsr := said_r hV (snd_said (ctd_iff.mp hct).1)
        have hcr := cst_r hV i
        have hnr := nCt_r (mv (σ 114)) (σ 114 1) (σ 114 2) i
        refine z_if_eq hO 91 dX9_counted_56 (by decide) (by decide) (fun c56 => absurd c56 (by omega)) (fun c56 => ?_)
        refine z_iload hO 4 dX9_counted_59 rfl ?_
        refine z_iload_n hO 1 dX9_counted_61 rfl ?_
        refine z_icmp_ne hO 88 dX9_counted_62 (by decide) (by have := nCt_r (mv (σ 114)) (σ 114 1) (σ 114 2) i; omega) (by have := nCt_r (mv (σ 114)) (σ 114 1) (σ 114 2) i; omega) (fun c62 => ?_) (fun c62 => ?_)
        ·
          refine z_iinc hO (L' := [(4, _), (0, _), (1, _), (2, _), (3, _), (5, _)]) 4 dX9_counted_88 rfl (by decide) rfl ?_
          refine z_iinc hO (L' := [(5, _), (4, _), (0, _), (1, _), (2, _), (3, _)]) 5 dX9_counted_91 rfl (by decide) rfl ?_
          refine z_goto hO 44 dX9_counted_94 (by decide) ?_
          exact z_pick [2, 3, 4, 5, 1, 0] rfl (ih (i + 1) _ _ (by omega) (by omega) (by omega) (by omega) (by omega) hf2 g11)
        ·
          refine z_iload_n hO 2 dX9_counted_65 rfl ?_
          refine z_if_ne hO 76 dX9_counted_66 (by decide) (by omega) (fun c66 => ?_) (fun c66 => ?_)
          ·
            refine z_aload_n hO 0 dX9_counted_76 rfl ?_
            refine z_getR hO (117) fl_X9_19 rfl rfl dX9_counted_77 ?_
            refine z_aload_n hO 0 dX9_counted_80 rfl ?_
            refine z_getI hO 6 fl_X9_113 rfl rfl rfl dX9_counted_81 (fun r81 => ?_)
            try simp only [fl_row_ne, fl_ne, up_row_ne, up_ne, up_eq, up_nk, up_up, up_self, ne_eq, Nat.reduceEqDiff, Int.reduceEq, reduceCtorEq, not_false_eq_true, not_true_eq_false, e114, e11, q4, q6] at r81 ⊢
            refine z_iconst hO dX9_counted_84 ?_
            refine z_isub hO dX9_counted_85 ?_
            refine z_iald hO rfl (by omega) (by decide) dX9_counted_86 (fun r86 => ?_)
            rw [row_lrow hTk.2.2.1 (by omega) (by omega)] at r86 ⊢
            exact z_retI hO hR dX9_counted_87 (hP _ _ ⟨Or.inl ⟨i, by omega, hct, by omega, by unfold tell; first | rw [if_pos (by omega)] | rw [if_neg (by omega)]⟩, hf2⟩)
          ·
            refine z_aload_n hO 0 dX9_counted_69 rfl ?_
            refine z_getI hO 4 fl_X9_123 rfl rfl rfl dX9_counted_70 (fun r70 => ?_)
            try simp only [fl_row_ne, fl_ne, up_row_ne, up_ne, up_eq, up_nk, up_up, up_self, ne_eq, Nat.reduceEqDiff, Int.reduceEq, reduceCtorEq, not_false_eq_true, not_true_eq_false, e114, e11, q4, q6] at r70 ⊢
            refine z_goto hO 87 dX9_counted_73 (by decide) ?_
            exact z_retI hO hR dX9_counted_87 (hP _ _ ⟨Or.inl ⟨i, by omega, hct, by omega, by unfold tell; first | rw [if_pos (by omega)] | rw [if_neg (by omega)]⟩, hf2⟩)
      ·
        rw [e114, e11] at p53
        have hf2 : Fm fFd σ s53 := hFm.trans (p53.2.2.mono fTk_Fd)
        have g11 : s53 113 11 = bC (mv (σ 114)) (σ 114 1) := (p53.2.2 113 11 rfl).trans e11
        have hct : ctd (mv (σ 114)) (σ 114 1) (σ 114 2) i = false := by
          cases hx : ctd (mv (σ 114)) (σ 114 1) (σ 114 2) i
          · rfl
          · exact absurd (p53.1.mpr (ctd_iff.mp hx)) (by decide)
        have hns : nCt (mv (σ 114)) (σ 114 1) (σ 114 2) (i + 1) = nCt (mv (σ 114)) (σ 114 1) (σ 114 2) i := by rw [nCt_s, hct]; simp [b2i]
        refine z_if_eq hO 91 dX9_counted_56 (by decide) (by decide) (fun c56 => ?_) (fun c56 => absurd c56 (by omega))
        refine z_iinc hO (L' := [(5, _), (0, _), (1, _), (2, _), (3, _), (4, _)]) 5 dX9_counted_91 rfl (by decide) rfl ?_
        refine z_goto hO 44 dX9_counted_94 (by decide) ?_
        exact z_pick [1, 2, 3, 4, 5, 0] rfl (ih (i + 1) _ _ (by omega) (by omega) (by omega) (by omega) (by omega) hf2 g11)

set_option maxHeartbeats 4000000 in
set_option maxRecDepth 100000 in
theorem t_X9_counted {g : G} {σ : Sg} {k what : Int} (rk : -2147483648 ≤ k ∧ k ≤ 2147483647) (rw : -2147483648 ≤ what ∧ what ≤ 2147483647) (hV : WV (mv (σ 114))) (h2 : 0 ≤ (σ 114 2) ∧ (σ 114 2) ≤ 20) : MM g mX9_counted [.ref (g.2.2.1 113), vI k, vI what] σ (pI (fun r σ' => (¬ (0 ≤ k ∧ 0 ≤ what ∧ what ≤ 1) ∧ r = -1 ∧ σ' = σ) ∨ (0 ≤ k ∧ (0 ≤ what ∧ what ≤ 1) ∧ cdQ (mv (σ 114)) (σ 114 1) (σ 114 2) k what r ∧ Fm fFd σ σ'))) := by
  refine mm_of rfl (by decide) rfl rfl (Nat.le_of_ble_eq_true rfl) (fun x hO hR => ?_)
  refine z_iload_n hO 1 dX9_counted_0 rfl ?_
  refine z_if_lt hO 14 dX9_counted_1 (by decide) (by omega) (fun c1 => ?_) (fun c1 => ?_)
  ·
    refine z_iconst hO dX9_counted_14 ?_
    exact z_retI hO hR dX9_counted_15 (Or.inl ⟨by omega, rfl, rfl⟩)
  ·
    refine z_iload_n hO 2 dX9_counted_4 rfl ?_
    refine z_i2l hO dX9_counted_5 (by omega) ?_
    refine z_lconst hO 0 dX9_counted_6 (by decide) ?_
    refine z_lconst hO 1 dX9_counted_7 (by decide) ?_
    refine z_csQ hO (t_X9_in (by omega) (by omega) (by omega)) cs_X9_75 rfl rfl (by decide) (Nat.le_of_ble_eq_true rfl) dX9_counted_8 (fun c8 => ?_) (fun c8 => ?_)
    ·
      refine z_if_ne hO 16 dX9_counted_11 (by decide) (by decide) (fun c11 => ?_) (fun c11 => absurd c11 (by omega))
      refine z_aload_n hO 0 dX9_counted_16 rfl ?_
      refine z_cvV hO (t_X9_finds hV) cv_X9_154 rfl rfl rfl rfl (by decide) (Nat.le_of_ble_eq_true rfl) dX9_counted_17 (fun s17 p17 => ?_)
      obtain ⟨⟨f8, f9, f10, f11, f13, f14⟩, hFm⟩ := p17
      have f114 : s17 114 = σ 114 := hFm.row 114 (fun _ => rfl)
      have hbr := bR_r hV (σ 114 1)
      have f10 : s17 113 10 = bR (mv (σ 114)) (σ 114 1) := f10
      have f11 : s17 113 11 = bC (mv (σ 114)) (σ 114 1) := f11
      have f13 : bR (mv (σ 114)) (σ 114 1) = -4 → s17 113 13 = 0 := f13
      have f14 : bR (mv (σ 114)) (σ 114 1) ≠ -4 → s17 113 13 = (nm (mv (σ 114)) (bR (mv (σ 114)) (σ 114 1))).length ∧ rowIs (s17 118) (nm (mv (σ 114)) (bR (mv (σ 114)) (σ 114 1))) := f14
      have hrd := rdN_r hV
      have hcs := cst_r hV (bR (mv (σ 114)) (σ 114 1))
      have hlen : bR (mv (σ 114)) (σ 114 1) ≠ -4 → 1 ≤ (nm (mv (σ 114)) (bR (mv (σ 114)) (σ 114 1))).length ∧ (nm (mv (σ 114)) (bR (mv (σ 114)) (σ 114 1))).length ≤ 4 ∧ ∀ v ∈ nm (mv (σ 114)) (bR (mv (σ 114)) (σ 114 1)), 0 < v ∧ v ≤ 999999 := fun q => said_r hV (snd_said (by rcases hbr with z | z; exact absurd z.1 q; exact z.2.2.2))
      refine z_aload_n hO 0 dX9_counted_20 rfl ?_
      refine z_getI hO 10 fl_X9_135 rfl rfl rfl dX9_counted_21 (fun r21 => ?_)
      try simp only [fl_row_ne, fl_ne, up_row_ne, up_ne, up_eq, up_nk, up_up, up_self, ne_eq, Nat.reduceEqDiff, Int.reduceEq, reduceCtorEq, not_false_eq_true, not_true_eq_false, f114, f10, f11, f8, f9] at r21 ⊢
      refine z_bipush hO dX9_counted_24 (by decide) ?_
      refine z_icmp_ne hO 33 dX9_counted_26 (by decide) (by omega) (by decide) (fun c26 => ?_) (fun c26 => ?_)
      ·
        refine z_aload_n hO 0 dX9_counted_33 rfl ?_
        refine z_cvE hO (t_X9_readings (by rw [f114]; exact hV)) cv_X9_141 rfl rfl rfl rfl (by decide) (Nat.le_of_ble_eq_true rfl) dX9_counted_34 ?_
        try simp only [fl_row_ne, fl_ne, up_row_ne, up_ne, up_eq, up_nk, up_up, up_self, ne_eq, Nat.reduceEqDiff, Int.reduceEq, reduceCtorEq, not_false_eq_true, not_true_eq_false, f114, f10, f11, f8, f9]
        refine z_istore_n hO (L' := [(3, _), (0, _), (1, _), (2, _)]) dX9_counted_37 (by decide) rfl ?_
        refine z_iconst hO dX9_counted_38 ?_
        refine z_istore hO (L' := [(4, _), (3, _), (0, _), (1, _), (2, _)]) dX9_counted_39 (by decide) rfl ?_
        refine z_iconst hO dX9_counted_41 ?_
        refine z_istore hO (L' := [(5, _), (4, _), (3, _), (0, _), (1, _), (2, _)]) dX9_counted_42 (by decide) rfl ?_
        have hbc : 0 ≤ bC (mv (σ 114)) (σ 114 1) ∧ bC (mv (σ 114)) (σ 114 1) ≤ 9999 := by omega
        exact z_pick [3, 4, 5, 2, 1, 0] rfl (lp_counted (σ := σ) hO hR hV h2 (by omega) (by omega) hbc (fun r τ q => Or.inr ⟨by omega, by omega, q⟩) 65537 0 0 _ (by omega) (by omega) rfl (by omega) (by omega) hFm f11)
      ·
        refine z_iconst hO dX9_counted_29 ?_
        refine z_goto hO 37 dX9_counted_30 (by decide) ?_
        refine z_istore_n hO (L' := [(3, _), (0, _), (1, _), (2, _)]) dX9_counted_37 (by decide) rfl ?_
        refine z_iconst hO dX9_counted_38 ?_
        refine z_istore hO (L' := [(4, _), (3, _), (0, _), (1, _), (2, _)]) dX9_counted_39 (by decide) rfl ?_
        refine z_iconst hO dX9_counted_41 ?_
        refine z_istore hO (L' := [(5, _), (4, _), (3, _), (0, _), (1, _), (2, _)]) dX9_counted_42 (by decide) rfl ?_
        refine z_iload hO 0 dX9_counted_44 rfl ?_
        refine z_iload_n hO 2 dX9_counted_46 rfl ?_
        refine z_icmp_ge hO 97 dX9_counted_47 (by decide) (by decide) (by decide) (fun c47 => ?_) (fun c47 => absurd c47 (by omega))
        refine z_bipush hO dX9_counted_97 (by decide) ?_
        exact z_retI hO hR dX9_counted_99 (Or.inr ⟨by omega, by omega, Or.inr ⟨by rw [nCt_none hV (by omega) _ (by omega)]; omega, rfl⟩, hFm⟩)
    ·
      refine z_if_ne hO 16 dX9_counted_11 (by decide) (by decide) (fun c11 => absurd c11 (by omega)) (fun c11 => ?_)
      refine z_iconst hO dX9_counted_14 ?_
      exact z_retI hO hR dX9_counted_15 (Or.inl ⟨by omega, rfl, rfl⟩)
