/-! ===== what the class looks for ===== -/
theorem fold_skip {α : Type} {F : Nat → α} {P : Nat → Prop} (h : ∀ m, P m → F (m + 1) = F m) {a b : Nat} (hab : a ≤ b) (hp : ∀ m, a ≤ m → m < b → P m) : F b = F a := by
  induction b with
  | zero => obtain rfl : a = 0 := by omega
            rfl
  | succ b ih =>
    by_cases q : a = b + 1
    · rw [q]
    · rw [h b (hp b (by omega) (by omega)), ih (by omega) (fun m m0 m1 => hp m m0 (by omega))]
theorem Fnd_snd {V : Hv} {K r : Int} {τ : Sg} (hV : WV V) (hs : said V r = true) (hF : Fnd V r τ) : (1 ≤ τ 88 10 ∧ τ 88 10 ≤ 4 ∧ hld K (τ 96) (τ 88 10)) ↔ snd V K r = true := by
  have a := said_r hV hs
  rw [hF.2.1]
  constructor
  · intro z; exact snd_hld hs ((hld_row hF.1 a.1).mp z.2.2)
  · intro z
    refine ⟨by omega, by omega, (hld_row hF.1 a.1).mpr ?_⟩
    unfold snd at z; exact dec_iff.mp (Bool.and_eq_true_iff.mp z).2
theorem Fnd_NR {V : Hv} {r : Int} {τ : Sg} (hV : WV V) (hs : said V r = true) (hF : Fnd V r τ) : 1 ≤ τ 88 10 → τ 88 10 ≤ 4 → NR (τ 96) (τ 88 10) := by
  intro _ _; rw [hF.2.1]; exact row_NR hF.1 (said_r hV hs)
theorem bst_0 {V : Hv} (hV : WV V) (K : Int) (m : Nat) : (bst V K m).1 = -4 ↔ nSnd V K m = 0 := by
  induction m with
  | zero => exact ⟨fun _ => rfl, fun _ => rfl⟩
  | succ m ih =>
    have a := nSnd_r V K m
    have c := cst_r hV m
    by_cases h : snd V K m = true
    · rw [nSnd_t h]
      constructor
      · intro z
        rw [bst_s] at z
        split at z
        · simp only at z; omega
        · rename_i q
          rcases bst_r hV K m with b | b
          · exact absurd ⟨h, by rw [b.2]; omega⟩ q
          · omega
      · intro z; omega
    · have h := Bool.not_eq_true _ ▸ h
      rw [nSnd_f h, bst_n h]; exact ih
/-- what is known of readings below m -/
def bkQ (V : Hv) (K : Int) (m : Nat) (τ : Sg) : Prop := τ 83 4 = nSaid V m ∧ τ 83 5 = nSnd V K m ∧ ((bst V K m).1 ≠ -4 → τ 83 6 = (bst V K m).2 ∧ τ 83 7 = (nm V (bst V K m).1).length ∧ rowIs (τ 84) (nm V (bst V K m).1) ∧ ∀ e : Int, 0 ≤ e → e < V.1 → τ 85 e = pk V (bst V K m).1 e)
theorem bkQ_keep {V : Hv} {K : Int} {m : Nat} {τ τ' : Sg} (h : bkQ V K m τ) (h83 : ∀ k : Int, 4 ≤ k → k ≤ 7 → τ' 83 k = τ 83 k) (h84 : τ' 84 = τ 84) (h85 : τ' 85 = τ 85) : bkQ V K m τ' := by
  obtain ⟨a, b, c⟩ := h
  refine ⟨by rw [h83 4 (by decide) (by decide)]; exact a, by rw [h83 5 (by decide) (by decide)]; exact b, fun z => ?_⟩
  obtain ⟨c1, c2, c3, c4⟩ := c z
  exact ⟨by rw [h83 6 (by decide) (by decide)]; exact c1, by rw [h83 7 (by decide) (by decide)]; exact c2, by rw [h84]; exact c3, by rw [h85]; exact c4⟩
theorem bkQ_skip {V : Hv} {K : Int} {a b : Nat} {τ : Sg} (hab : a ≤ b) (hn : ∀ y : Int, a ≤ y → y < b → said V y = false) (h : bkQ V K a τ) : bkQ V K b τ := by
  have hn' : ∀ m : Nat, a ≤ m → m < b → said V m = false := fun m m0 m1 => hn m (by omega) (by omega)
  have e1 : nSaid V b = nSaid V a := fold_skip (P := fun m => said V m = false) (fun m h => nSaid_f h) hab hn'
  have e2 : nSnd V K b = nSnd V K a := fold_skip (P := fun m => said V m = false) (fun m h => nSnd_f (snd_nsaid h)) hab hn'
  have e3 : bst V K b = bst V K a := fold_skip (P := fun m => said V m = false) (fun m h => bst_n (snd_nsaid h)) hab hn'
  unfold bkQ; rw [e1, e2, e3]; exact h
/-- the class's own row of what it knows -/
def BI (σ : Sg) : Prop := σ 83 3 ≠ 0 → bkQ (cv σ 1) (σ 1 4) (rdN (cv σ 1)).toNat σ
def fKB : Nat → Int → Bool := fun c k => c == 84 || c == 85 || (c == 83 && (k == 6 || k == 7))
def fFB : Nat → Int → Bool := fun c k => decide (88 ≤ c ∧ c ≤ 96) || c == 84 || c == 85 || (c == 83 && (k == 3 || k == 4 || k == 5 || k == 6 || k == 7))
theorem fWk_FB : ∀ c k, fFB c k = false → fWk c k = false := by
  intro c k h; simp only [fFB, fWk, Bool.or_eq_false_iff] at h ⊢; exact h.1.1.1
theorem fKB_FB : ∀ c k, fFB c k = false → fKB c k = false := by
  intro c k h; simp only [fFB, fKB, Bool.or_eq_false_iff, Bool.and_eq_false_iff] at h ⊢; refine ⟨⟨h.1.1.2, h.1.2⟩, ?_⟩; rcases h.2 with q | q
  · exact Or.inl q
  · exact Or.inr ⟨q.1.2, q.2⟩
theorem cv_eq {σ τ : Sg} (h1 : τ 1 = σ 1) (h2 : τ 2 = σ 2) (h3 : τ 3 = σ 3) (h4 : τ 4 = σ 4) : cv τ 1 = cv σ 1 := by
  unfold cv; rw [h1, show τ (1 + 1) = σ (1 + 1) from h2, show τ (1 + 2) = σ (1 + 2) from h3, show τ (1 + 3) = σ (1 + 3) from h4]

set_option maxHeartbeats 4000000 in
set_option maxRecDepth 100000 in
theorem t_X6_isSound {g : G} {σ : Sg} (hN : 1 ≤ σ 88 10 → σ 88 10 ≤ 4 → NR (σ 96) (σ 88 10)) : MM g mX6_isSound [.ref (g.2.2.1 83)] σ (pB (pQ (1 ≤ σ 88 10 ∧ σ 88 10 ≤ 4 ∧ hld (σ 1 4) (σ 96) (σ 88 10)) σ)) := by
  refine mm_of rfl (by decide) rfl rfl (Nat.le_of_ble_eq_true rfl) (fun x hO hR => ?_)
  refine z_aload_n hO 0 dX6_isSound_0 rfl ?_
  refine z_getR hO (1) fl_X6_31 rfl rfl dX6_isSound_1 ?_
  refine z_getI hO 4 fl_X6_167 rfl rfl rfl dX6_isSound_4 (fun r4 => ?_)
  refine z_aload_n hO 0 dX6_isSound_7 rfl ?_
  refine z_getR hO (88) fl_X6_40 rfl rfl dX6_isSound_8 ?_
  refine z_getR hO (96) fl_X6_116 rfl rfl dX6_isSound_11 ?_
  refine z_aload_n hO 0 dX6_isSound_14 rfl ?_
  refine z_getR hO (88) fl_X6_40 rfl rfl dX6_isSound_15 ?_
  refine z_getI hO 10 fl_X6_119 rfl rfl rfl dX6_isSound_18 (fun r18 => ?_)
  refine z_csQ hO (t_X0_isKept (by omega) (by omega) hN) cs_X6_161 rfl rfl (by decide) (Nat.le_of_ble_eq_true rfl) dX6_isSound_21 (fun c21 => ?_) (fun c21 => ?_)
  ·
    exact z_retQT hO hR dX6_isSound_24 (c21) rfl
  ·
    exact z_retQF hO hR dX6_isSound_24 (c21) rfl

set_option maxHeartbeats 4000000 in
set_option maxRecDepth 100000 in
theorem lp_keepBest {g : G} {x : Cx} {σ : Sg} (hO : Ok g x RX6 cX6_keepBest 2 2) (hR : Rt g x none (pV (fun σ' => σ' 83 6 = σ 88 11 ∧ σ' 83 7 = σ 88 10 ∧ (∀ j : Int, 0 ≤ j → j < 4 → σ' 84 j = σ 96 j) ∧ (∀ e : Int, 0 ≤ e → e < σ 1 3 → σ' 85 e = σ 89 e - 1) ∧ Fm fKB σ σ'))) (hn : 0 ≤ σ 1 3 ∧ σ 1 3 ≤ 8) (h89 : ∀ e : Int, 0 ≤ e → e < σ 1 3 → 1 ≤ σ 89 e ∧ σ 89 e ≤ 4) : ∀ (f i : Nat) (τ : Sg), (i : Int) ≤ σ 1 3 → σ 1 3 - i < f → τ 83 6 = σ 88 11 → τ 83 7 = σ 88 10 → (∀ j : Int, 0 ≤ j → j < 4 → τ 84 j = σ 96 j) → (∀ e : Int, 0 ≤ e → e < i → τ 85 e = σ 89 e - 1) → Fm fKB σ τ → Z g x 2 41 [(0, .ref (g.2.2.1 83)), (1, vI i)] [] τ := by
  intro f
  induction f with
  | zero => intro i τ h0 hk; exact absurd hk (by omega)
  | succ f ih =>
    intro i τ h0 hk a1 a2 a3 a4 hFm
    have e1 : τ 1 = σ 1 := hFm.row 1 (fun _ => rfl)
    have e89 : τ 89 = σ 89 := hFm.row 89 (fun _ => rfl)
    refine z_iload_n hO 1 dX6_keepBest_41 rfl ?_
    refine z_aload_n hO 0 dX6_keepBest_42 rfl ?_
    refine z_getR hO (1) fl_X6_31 rfl rfl dX6_keepBest_43 ?_
    refine z_getI hO 3 fl_X6_128 rfl rfl rfl dX6_keepBest_46 (fun r46 => ?_)
    try simp (disch := omega) only [fl_row_ne, fl_ne, up_row_ne, up_ne, up_eq, up_nk, up_up, up_self, ne_eq, Nat.reduceEqDiff, Int.reduceEq, reduceCtorEq, not_false_eq_true, not_true_eq_false, e1, e89] at r46 ⊢
    refine z_icmp_ge hO 72 dX6_keepBest_49 (by decide) (by omega) (by omega) (fun c49 => ?_) (fun c49 => ?_)
    ·
      exact z_retV hO hR dX6_keepBest_72 (⟨a1, a2, a3, fun e e0 e1 => a4 e e0 (by omega), hFm⟩)
    ·
      have h9 := h89 i (by omega) (by omega)
      refine z_aload_n hO 0 dX6_keepBest_52 rfl ?_
      refine z_getR hO (85) fl_X6_22 rfl rfl dX6_keepBest_53 ?_
      refine z_iload_n hO 1 dX6_keepBest_56 rfl ?_
      refine z_aload_n hO 0 dX6_keepBest_57 rfl ?_
      refine z_getR hO (88) fl_X6_40 rfl rfl dX6_keepBest_58 ?_
      refine z_iload_n hO 1 dX6_keepBest_61 rfl ?_
      refine z_cvE hO (t_X7_pick (by omega) (by rw [e89]; omega)) cv_X6_176 rfl rfl rfl rfl (by decide) (Nat.le_of_ble_eq_true rfl) dX6_keepBest_62 ?_
      try simp (disch := omega) only [fl_row_ne, fl_ne, up_row_ne, up_ne, up_eq, up_nk, up_up, up_self, ne_eq, Nat.reduceEqDiff, Int.reduceEq, reduceCtorEq, not_false_eq_true, not_true_eq_false, e1, e89]
      refine z_iast hO rfl (by omega) (by decide) (by omega) dX6_keepBest_65 ?_
      refine z_iinc hO (L' := [(1, _), (0, _)]) 1 dX6_keepBest_66 rfl (by decide) rfl ?_
      refine z_goto hO 41 dX6_keepBest_69 (by decide) ?_
      refine z_pick [1, 0] rfl (ih (i + 1) _ (by omega) (by omega) ?_ ?_ ?_ ?_ (hFm.up rfl))
      · rw [up_ne (by decide)]; exact a1
      · rw [up_ne (by decide)]; exact a2
      · intro j j0 j1; rw [up_ne (by decide)]; exact a3 j j0 j1
      · intro e e0 e1; by_cases q : e = i
        · subst q; rw [up_eq]
        · rw [up_nk q]; exact a4 e e0 (by omega)

set_option maxHeartbeats 4000000 in
set_option maxRecDepth 100000 in
theorem t_X6_keepBest {g : G} {σ : Sg} (hn : 0 ≤ σ 1 3 ∧ σ 1 3 ≤ 8) (h89 : ∀ e : Int, 0 ≤ e → e < σ 1 3 → 1 ≤ σ 89 e ∧ σ 89 e ≤ 4) : MM g mX6_keepBest [.ref (g.2.2.1 83)] σ (pV (fun σ' => σ' 83 6 = σ 88 11 ∧ σ' 83 7 = σ 88 10 ∧ (∀ j : Int, 0 ≤ j → j < 4 → σ' 84 j = σ 96 j) ∧ (∀ e : Int, 0 ≤ e → e < σ 1 3 → σ' 85 e = σ 89 e - 1) ∧ Fm fKB σ σ')) := by
  refine mm_of rfl (by decide) rfl rfl (Nat.le_of_ble_eq_true rfl) (fun x hO hR => ?_)
  refine z_aload_n hO 0 dX6_keepBest_0 rfl ?_
  refine z_aload_n hO 0 dX6_keepBest_1 rfl ?_
  refine z_getR hO (88) fl_X6_40 rfl rfl dX6_keepBest_2 ?_
  refine z_getI hO 11 fl_X6_120 rfl rfl rfl dX6_keepBest_5 (fun r5 => ?_)
  refine z_putI hO 6 fp_X6_64 rfl rfl rfl (by omega) rfl rfl dX6_keepBest_8 ?_
  refine z_aload_n hO 0 dX6_keepBest_11 rfl ?_
  refine z_aload_n hO 0 dX6_keepBest_12 rfl ?_
  refine z_getR hO (88) fl_X6_40 rfl rfl dX6_keepBest_13 ?_
  refine z_getI hO 10 fl_X6_119 rfl rfl rfl dX6_keepBest_16 (fun r16 => ?_)
  try simp (disch := omega) only [fl_row_ne, fl_ne, up_row_ne, up_ne, up_eq, up_nk, up_up, up_self, ne_eq, Nat.reduceEqDiff, Int.reduceEq, reduceCtorEq, not_false_eq_true, not_true_eq_false, cp_row_ne, cp_ne] at r16 ⊢
  refine z_putI hO 7 fp_X6_67 rfl rfl rfl (by omega) rfl rfl dX6_keepBest_19 ?_
  refine z_aload_n hO 0 dX6_keepBest_22 rfl ?_
  refine z_getR hO (88) fl_X6_40 rfl rfl dX6_keepBest_23 ?_
  refine z_getR hO (96) fl_X6_116 rfl rfl dX6_keepBest_26 ?_
  refine z_iconst hO dX6_keepBest_29 ?_
  refine z_aload_n hO 0 dX6_keepBest_30 rfl ?_
  refine z_getR hO (84) fl_X6_18 rfl rfl dX6_keepBest_31 ?_
  refine z_iconst hO dX6_keepBest_34 ?_
  refine z_iconst hO dX6_keepBest_35 ?_
  refine z_copyI hO ac_X6_122 (by decide) rfl rfl (by decide) (by decide) (by omega) (by omega) (by omega) (by omega) (by omega) (Nat.le_of_ble_eq_true rfl) dX6_keepBest_36 ?_
  refine z_iconst hO dX6_keepBest_39 ?_
  refine z_istore_n hO (L' := [(1, _), (0, _)]) dX6_keepBest_40 (by decide) rfl ?_
  refine z_pick [1, 0] rfl (lp_keepBest (σ := σ) hO hR hn h89 9 0 _ (by omega) (by omega) ?_ ?_ ?_ (fun e e0 e1 => absurd e1 (by omega)) ?_)
  · rw [cp_ne (by decide), up_nk (by decide), up_eq]
  · rw [cp_ne (by decide), up_eq]
  · intro j j0 j1; rw [cp_in (by omega), up_ne (by decide), up_ne (by decide)]; congr 1; omega
  · intro c k q
    have h84 : c ≠ 84 := by rintro rfl; cases (show true = false from q)
    rw [cp_ne h84]; exact ((Fm.rf.up rfl).up rfl : Fm fKB σ _) c k q
