/-! ===== those counted, as the class keeps them ===== -/
noncomputable def tal (V : Hv) (K S : Int) : Nat → Int → Int → Int
  | 0, _, _ => 0
  | m + 1, i, k => tal V K S m i k + @ite _ (ctd V K S m = true ∧ (0 ≤ i ∧ i < V.1) ∧ pk V m i = k) (Classical.propDecidable _) 1 0
noncomputable def tkg (V : Hv) (K S : Int) : Nat → Int → Int → Nat
  | 0, _, _ => 0
  | m + 1, i, k => tkg V K S m i k + @ite _ (ctd V K S m = true ∧ (0 ≤ i ∧ i < V.1) ∧ pk V m i = k) (Classical.propDecidable _) (adB (nCt V K S m)) 0
theorem tal_s (V : Hv) (K S : Int) (m : Nat) (i k : Int) : tal V K S (m + 1) i k = tal V K S m i k + @ite _ (ctd V K S m = true ∧ (0 ≤ i ∧ i < V.1) ∧ pk V m i = k) (Classical.propDecidable _) 1 0 := rfl
theorem tkg_s (V : Hv) (K S : Int) (m : Nat) (i k : Int) : tkg V K S (m + 1) i k = tkg V K S m i k + @ite _ (ctd V K S m = true ∧ (0 ≤ i ∧ i < V.1) ∧ pk V m i = k) (Classical.propDecidable _) (adB (nCt V K S m)) 0 := rfl
theorem tal_f {V : Hv} {K S : Int} {m : Nat} (h : ctd V K S m = false) (i k : Int) : tal V K S (m + 1) i k = tal V K S m i k := by
  rw [tal_s, if_neg (fun q => by rw [h] at q; exact absurd q.1 (by decide))]; omega
theorem tkg_f {V : Hv} {K S : Int} {m : Nat} (h : ctd V K S m = false) (i k : Int) : tkg V K S (m + 1) i k = tkg V K S m i k := by
  rw [tkg_s, if_neg (fun q => by rw [h] at q; exact absurd q.1 (by decide))]; omega
theorem nCt_f {V : Hv} {K S : Int} {m : Nat} (h : ctd V K S m = false) : nCt V K S (m + 1) = nCt V K S m := by rw [nCt_s, h]; simp [b2i]
theorem nCt_t {V : Hv} {K S : Int} {m : Nat} (h : ctd V K S m = true) : nCt V K S (m + 1) = nCt V K S m + 1 := by rw [nCt_s, h]; rfl
theorem tal_r (V : Hv) (K S : Int) (m : Nat) (i k : Int) : 0 ≤ tal V K S m i k ∧ tal V K S m i k ≤ m := by
  induction m with
  | zero => exact ⟨Int.le_refl 0, Int.le_refl 0⟩
  | succ m ih => rw [tal_s]; split <;> omega
theorem tkg_lt (V : Hv) (K S : Int) (m : Nat) (i k : Int) : tkg V K S m i k < 2 ^ (min (nCt V K S m) 60).toNat := by
  induction m with
  | zero => exact Nat.two_pow_pos _
  | succ m ih =>
    have r := nCt_r V K S m
    by_cases h : ctd V K S m = true
    · rw [tkg_s, nCt_t h]
      by_cases q : nCt V K S m < 60
      · have e1 : (min (nCt V K S m) 60).toNat = (nCt V K S m).toNat := by omega
        have e2 : (min (nCt V K S m + 1) 60).toNat = (nCt V K S m).toNat + 1 := by omega
        rw [e1] at ih
        rw [e2, Nat.pow_succ]
        unfold adB; rw [if_pos q]; split <;> omega
      · have e1 : (min (nCt V K S m) 60).toNat = 60 := by omega
        have e2 : (min (nCt V K S m + 1) 60).toNat = 60 := by omega
        rw [e1] at ih
        rw [e2]
        unfold adB; rw [if_neg q]; split <;> omega
    · have h := Bool.not_eq_true _ ▸ h
      rw [tkg_f h, nCt_f h]; exact ih
/-- what the class keeps of those counted below m -/
noncomputable def ccA (V : Hv) (K S : Int) (m : Nat) (τ : Sg) : Prop := τ 97 1 = nCt V K S m ∧ (∀ i k : Int, 0 ≤ i → i < 8 → 0 ≤ k → k < 4 → τ 98 (i * 4 + k) = tal V K S m i k ∧ τ 102 (i * 4 + k) = (tkg V K S m i k : Int)) ∧ ∀ q : Nat, q < m → ctd V K S q = true → nCt V K S q < 60 → τ 99 (nCt V K S q) = cst V q ∧ τ 100 (nCt V K S q) = (nm V q).length ∧ ∀ j : Int, 0 ≤ j → j < (nm V q).length → τ 101 (nCt V K S q * 4 + j) = lrow (nm V q) j
noncomputable def nxA (V : Hv) (K : Int) (m : Nat) (τ : Sg) : Prop := τ 83 8 = if nxt V K m = 9999 then -4 else nxt V K m
def N4 (τ : Sg) : Prop := ∀ k : Int, 0 ≤ k → k < 60 → 0 ≤ τ 100 k ∧ τ 100 k ≤ 4
theorem ccA_keep {V : Hv} {K S : Int} {m : Nat} {τ τ' : Sg} (h : ccA V K S m τ) (h1 : τ' 97 1 = τ 97 1) (hr : ∀ c : Nat, 98 ≤ c → c ≤ 102 → τ' c = τ c) : ccA V K S m τ' := by
  unfold ccA
  rw [h1, hr 98 (by decide) (by decide), hr 99 (by decide) (by decide), hr 100 (by decide) (by decide), hr 101 (by decide) (by decide), hr 102 (by decide) (by decide)]
  exact h
theorem ctd_nsnd {V : Hv} {K S r : Int} (h : snd V K r = false) : ctd V K S r = false := by unfold ctd; rw [h]; rfl
theorem ccA_f {V : Hv} {K S : Int} {m : Nat} {τ : Sg} (h : ccA V K S m τ) (hc : ctd V K S m = false) : ccA V K S (m + 1) τ := by
  obtain ⟨a, b, c⟩ := h
  refine ⟨by rw [nCt_f hc]; exact a, fun i k i0 i1 k0 k1 => by rw [tal_f hc, tkg_f hc]; exact b i k i0 i1 k0 k1, fun q hq h1 h2 => ?_⟩
  by_cases e : q = m
  · subst e; rw [hc] at h1; cases h1
  · exact c q (by omega) h1 h2
theorem ccA_skip {V : Hv} {K S : Int} {a b : Nat} {τ : Sg} (hab : a ≤ b) (hn : ∀ y : Int, a ≤ y → y < b → snd V K y = false) (h : ccA V K S a τ) : ccA V K S b τ := by
  induction b with
  | zero => obtain rfl : a = 0 := by omega
            exact h
  | succ b ih =>
    by_cases q : a = b + 1
    · rw [← q]; exact h
    · exact ccA_f (ih (by omega) (fun y y0 y1 => hn y y0 (by omega))) (ctd_nsnd (hn b (by omega) (by omega)))
theorem nxA_skip {V : Hv} {K : Int} {a b : Nat} {τ : Sg} (hab : a ≤ b) (hn : ∀ y : Int, a ≤ y → y < b → snd V K y = false) (h : nxA V K a τ) : nxA V K b τ := by
  have e : nxt V K b = nxt V K a := fold_skip (P := fun m => snd V K m = false) (fun m h => nxt_f (fun z => by rw [h] at z; exact absurd z.1 (by decide))) hab (fun m m0 m1 => hn m (by omega) (by omega))
  unfold nxA; rw [e]; exact h
theorem ccA_0 {V : Hv} {K S : Int} {τ : Sg} (h : τ 97 1 = 0) (hc : ∀ c : Int, 0 ≤ c → c < 32 → τ 98 c = 0 ∧ τ 102 c = 0) : ccA V K S 0 τ :=
  ⟨h, fun i k i0 i1 k0 k1 => hc _ (by omega) (by omega), fun q hq => absurd hq (Nat.not_lt_zero q)⟩
theorem ccA_t {V : Hv} (hV : WV V) {K S : Int} {m : Nat} {τ τ' : Sg} {n : Int} (hn : n = V.1) (h : ccA V K S m τ) (hc : ctd V K S m = true) (hF : Fnd V m τ) (p : adQ τ n τ') : ccA V K S (m + 1) τ' := by
  obtain ⟨a, b, c⟩ := h
  obtain ⟨p1, p2, p3, p4, p5, p6⟩ := p
  have hr := nCt_r V K S m
  have hs := said_r hV (snd_said (ctd_iff.mp hc).1)
  refine ⟨by rw [p1, nCt_t hc, a], fun i k i0 i1 k0 k1 => ?_, fun q hq h1 h2 => ?_⟩
  · have x := b i k i0 i1 k0 k1
    have y := p2 i k i0 i1 k0 k1
    rw [y.1, y.2, x.1, x.2, tal_s, tkg_s, a]
    by_cases z : i < n ∧ τ 89 i - 1 = k
    · have z2 : ctd V K S m = true ∧ (0 ≤ i ∧ i < V.1) ∧ pk V m i = k := ⟨hc, ⟨i0, by omega⟩, by rw [← hF.2.2.2.2 i i0 (by omega)]; exact z.2⟩
      rw [if_pos z, if_pos z, if_pos z2, if_pos z2]
      exact ⟨rfl, by omega⟩
    · have z2 : ¬ (ctd V K S m = true ∧ (0 ≤ i ∧ i < V.1) ∧ pk V m i = k) := fun y => z ⟨by omega, by rw [hF.2.2.2.2 i i0 y.2.1.2]; exact y.2.2⟩
      rw [if_neg z, if_neg z, if_neg z2, if_neg z2]
      exact ⟨by omega, by omega⟩
  · by_cases e : q = m
    · subst e
      rw [← a] at h2 ⊢
      obtain ⟨x1, x2, x3⟩ := p3 h2
      refine ⟨by rw [x1]; exact hF.2.2.1, by rw [x2]; exact hF.2.1, fun j j0 j1 => ?_⟩
      rw [x3 j j0 (by rw [hF.2.1]; exact j1)]; exact row_lrow hF.1 j0 j1
    · have x := c q (by omega) h1 h2
      have ne : nCt V K S q ≠ τ 97 1 := by rw [a]; intro z; exact e (nCt_inj h1 hc z)
      have y := p4 (nCt V K S q) ne
      have hq4 := said_r hV (snd_said (ctd_iff.mp h1).1)
      exact ⟨by rw [y.1]; exact x.1, by rw [y.2.1]; exact x.2.1, fun j j0 j1 => by rw [y.2.2 j j0 (by omega)]; exact x.2.2 j j0 j1⟩
theorem N4_ad {τ τ' : Sg} {n : Int} (h : N4 τ) (p : adQ τ n τ') (h10 : 0 ≤ τ 88 10 ∧ τ 88 10 ≤ 4) : N4 τ' := by
  intro k k0 k1
  obtain ⟨p1, p2, p3, p4, p5, p6⟩ := p
  by_cases q : k = τ 97 1
  · subst q; rw [(p3 k1).2.1]; exact h10
  · rw [(p4 k q).2.1]; exact h k k0 k1
theorem nxA_t {V : Hv} (hV : WV V) {K : Int} {m : Nat} {τ : Sg} (hs : snd V K m = true) (h : nxA V K m τ) : ((τ 83 8 = -4 ∨ cst V m < τ 83 8) ∧ nm V m ≠ nm V (bR V K) → nxt V K (m + 1) = cst V m) ∧ (¬ ((τ 83 8 = -4 ∨ cst V m < τ 83 8) ∧ nm V m ≠ nm V (bR V K)) → nxA V K (m + 1) τ) := by
  have c := cst_r hV m
  have r := nxt_r hV K m
  have e : (τ 83 8 = -4 ∨ cst V m < τ 83 8) ↔ cst V m < nxt V K m := by
    rw [show τ 83 8 = _ from h]; split <;> omega
  constructor
  · intro z; exact nxt_t ⟨hs, e.mp z.1, z.2⟩
  · intro z; unfold nxA; rw [nxt_f (fun y => z ⟨e.mpr y.2.1, y.2.2⟩)]; exact h
noncomputable def CI (σ : Sg) : Prop := σ 97 0 ≠ 0 → ccA (cv σ 1) (σ 1 4) (σ 1 5) (rdN (cv σ 1)).toNat σ ∧ nxA (cv σ 1) (σ 1 4) (rdN (cv σ 1)).toNat σ
noncomputable def LI (σ : Sg) : Prop := σ 83 13 ≠ 0 → σ 83 15 = wOne (cv σ 1) (σ 1 4) (σ 83 14) (rdN (cv σ 1)).toNat ∧ σ 83 16 = wAll (cv σ 1) (σ 1 4) (rdN (cv σ 1)).toNat
/-- what the class knows is so -/
def SI (σ : Sg) : Prop := BI σ ∧ CI σ ∧ LI σ ∧ N4 σ
def fFC : Nat → Int → Bool := fun c k => decide (88 ≤ c ∧ c ≤ 96) || decide (98 ≤ c ∧ c ≤ 102) || c == 84 || c == 85 || (c == 83 && (k == 3 || k == 4 || k == 5 || k == 6 || k == 7 || k == 8)) || (c == 97 && (k == 0 || k == 1))
theorem fFB_FC : ∀ c k, fFC c k = false → fFB c k = false := by
  intro c k h; simp only [fFC, fFB, Bool.or_eq_false_iff, Bool.and_eq_false_iff] at h ⊢
  refine ⟨⟨⟨h.1.1.1.1.1, h.1.1.1.2⟩, h.1.1.2⟩, ?_⟩
  rcases h.1.2 with q | q
  · exact Or.inl q
  · exact Or.inr q.1
theorem fWk_FC : ∀ c k, fFC c k = false → fWk c k = false := fun c k h => fWk_FB c k (fFB_FC c k h)
theorem fCl_FC : ∀ c k, fFC c k = false → fCl c k = false := by
  intro c k h; simp only [fFC, fCl, Bool.or_eq_false_iff, Bool.and_eq_false_iff, decide_eq_false_iff_not] at h ⊢
  refine ⟨⟨?_, ?_⟩, h.2⟩
  · have := h.1.1.1.1.2; simp; omega
  · have := h.1.1.1.1.2; simp; omega
theorem fAd_FC : ∀ c k, fFC c k = false → fAd c k = false := by
  intro c k h; simp only [fFC, fAd, Bool.or_eq_false_iff, Bool.and_eq_false_iff] at h ⊢
  refine ⟨h.1.1.1.1.2, ?_⟩
  rcases h.2 with q | q
  · exact Or.inl q
  · exact Or.inr q.2
