/-! ===== what is looked for: readings by their numbers, gone through in order ===== -/
noncomputable def dec (p : Prop) : Bool := @decide p (Classical.propDecidable p)
theorem dec_iff {p : Prop} : dec p = true ↔ p := by unfold dec; exact @decide_eq_true_iff p (Classical.propDecidable p)
theorem dec_not {p : Prop} : dec p = false ↔ ¬ p := by
  have h := @dec_iff p
  constructor
  · intro e q; rw [h.mpr q] at e; cases e
  · intro q; cases e : dec p
    · rfl
    · exact absurd (h.mp e) q
theorem sdF_len {f : Int → Int} {n : Int} (hf : PF f n) : ∀ (k : Nat) (i : Int), 0 ≤ i → i ≤ n → 2 * ((sdF f n k i).1.length : Int) ≤ n - i + 2 ∧ ((sdF f n k i).2 = true → 1 ≤ (sdF f n k i).1.length ∧ 2 * ((sdF f n k i).1.length : Int) ≤ n - i + 1 ∧ ∀ v ∈ (sdF f n k i).1, 0 < v ∧ v ≤ 999999) := by
  intro k
  induction k with
  | zero => intro i h0 h1; exact ⟨by simp only [sdF, List.length_nil]; omega, fun q => by simp [sdF] at q⟩
  | succ k ih =>
    intro i h0 h1
    have a := numF_r hf h0 h1
    unfold sdF
    split
    · exact ⟨by simp only [List.length_cons, List.length_nil]; omega, fun q => by simp at q⟩
    · rename_i h2
      have b := numF_p hf h0 h1 (by omega)
      split
      · have c := hf.lt (i := (numF f i).2) (by omega)
        have d := ih ((numF f i).2 + 1) (by omega) (by omega)
        refine ⟨by simp only [List.length_cons]; omega, fun q => ⟨by simp only [List.length_cons]; omega, ?_, ?_⟩⟩
        · have e := (d.2 q).2.1; simp only [List.length_cons]; omega
        · intro v hv
          rcases List.mem_cons.mp hv with rfl | hv
          · omega
          · exact (d.2 q).2.2 v hv
      · refine ⟨by simp only [List.length_cons, List.length_nil]; omega, fun q => ⟨by simp, by simp only [List.length_cons, List.length_nil]; omega, ?_⟩⟩
        intro v hv
        rw [List.mem_singleton.mp hv]; omega
def nm (V : Hv) (r : Int) : List Int := (sdP V (pk V r)).1
def said (V : Hv) (r : Int) : Bool := (sdP V (pk V r)).2
def cst (V : Hv) (r : Int) : Int := sumC V (pk V r) V.1.toNat
def lrow (l : List Int) : Int → Int := fun j => l.getD j.toNat 0
noncomputable def snd (V : Hv) (K r : Int) : Bool := said V r && dec (hld K (lrow (nm V r)) (nm V r).length)
theorem sdP_PF {V : Hv} {p : Int → Int} (hV : WV V) (hp : WP V p) : PF (whl (lstW V p V.1.toNat)) (lstW V p V.1.toNat).length := by
  have := lstW_len V p V.1.toNat
  have := hV.1; have := hV.2.1
  exact whl_PF (by omega) (lstW_mem hV hp _ (by omega))
theorem sdP_r {V : Hv} {p : Int → Int} (hV : WV V) (hp : WP V p) : ((sdP V p).1.length : Int) ≤ 5 ∧ ((sdP V p).2 = true → 1 ≤ (sdP V p).1.length ∧ (sdP V p).1.length ≤ 4 ∧ ∀ v ∈ (sdP V p).1, 0 < v ∧ v ≤ 999999) := by
  have h := sdF_len (sdP_PF hV hp) 9 0 (by omega) (by omega)
  have a := lstW_len V p V.1.toNat
  have b := hV.2.1
  unfold sdP
  refine ⟨by omega, fun q => ?_⟩
  have c := h.2 q
  exact ⟨c.1, by omega, c.2.2⟩
theorem said_r {V : Hv} (hV : WV V) {r : Int} (h : said V r = true) : 1 ≤ (nm V r).length ∧ (nm V r).length ≤ 4 ∧ ∀ v ∈ nm V r, 0 < v ∧ v ≤ 999999 := (sdP_r hV (pk_WP hV r)).2 h
theorem cst_r {V : Hv} (hV : WV V) (r : Int) : 0 ≤ cst V r ∧ cst V r ≤ 72 := by
  have := sumC_r hV (pk_WP hV r) V.1.toNat (by have := hV.1; omega)
  have := hV.2.1
  unfold cst; omega
theorem row_lrow {r : Int → Int} {l : List Int} (h : rowIs r l) {j : Int} (h0 : 0 ≤ j) (h1 : j < l.length) : r j = lrow l j := by
  have := h j.toNat (by omega)
  rw [show ((j.toNat : Nat) : Int) = j by omega] at this
  rw [this]; unfold lrow; rw [List.getD_eq_getElem?_getD, List.getElem?_eq_getElem (by omega)]; rfl
theorem row_NR {r : Int → Int} {l : List Int} (h : rowIs r l) (hl : 1 ≤ l.length ∧ l.length ≤ 4 ∧ ∀ v ∈ l, 0 < v ∧ v ≤ 999999) : NR r l.length := by
  refine ⟨by omega, by omega, fun j h0 h1 => ?_⟩
  have := h j.toNat (by omega)
  rw [show ((j.toNat : Nat) : Int) = j by omega] at this
  rw [this]
  have := hl.2.2 _ (List.getElem_mem (l := l) (n := j.toNat) (by omega))
  omega
theorem sumN_congr {N N' : Int → Int} (m : Nat) (h : ∀ j : Int, 0 ≤ j → j < m → N j = N' j) : sumN N m = sumN N' m := by
  induction m with
  | zero => rfl
  | succ m ih => rw [sumN_s, sumN_s, ih (fun j h0 h1 => h j h0 (by omega)), h m (by omega) (by omega)]
theorem hld_congr {K : Int} {N N' : Int → Int} {m : Int} (hm : 1 ≤ m) (h : ∀ j : Int, 0 ≤ j → j < m → N j = N' j) : hld K N m ↔ hld K N' m := by
  have e1 : sumN N (m - 1).toNat = sumN N' (m - 1).toNat := sumN_congr _ (fun j h0 h1 => h j h0 (by omega))
  have e2 : N (m - 1) = N' (m - 1) := h _ (by omega) (by omega)
  have e3 : rsn N m ↔ rsn N' m := forall_congr' fun j => forall_congr' fun h0 => forall_congr' fun h1 => by rw [h j h0 (by omega), h (j + 1) (by omega) h1]
  have e4 : sty N m ↔ sty N' m := forall_congr' fun j => forall_congr' fun h0 => forall_congr' fun h1 => by rw [h j h0 (by omega), h (j + 1) (by omega) h1, h 0 (by omega) (by omega), h 1 (by omega) (by omega)]
  unfold hld
  rw [e1, e2, e3, e4]
theorem hld_row {K : Int} {r : Int → Int} {l : List Int} (h : rowIs r l) (hl : 1 ≤ l.length) : hld K r l.length ↔ hld K (lrow l) l.length := hld_congr (by omega) (fun j h0 h1 => row_lrow h h0 h1)
def nSaid (V : Hv) : Nat → Int
  | 0 => 0
  | m + 1 => nSaid V m + b2i (said V m)
noncomputable def nSnd (V : Hv) (K : Int) : Nat → Int
  | 0 => 0
  | m + 1 => nSnd V K m + b2i (snd V K m)
noncomputable def bst (V : Hv) (K : Int) : Nat → Int × Int
  | 0 => (-4, 9999)
  | m + 1 => if snd V K m = true ∧ cst V m < (bst V K m).2 then ((m : Int), cst V m) else bst V K m
theorem nSaid_s (V : Hv) (m : Nat) : nSaid V (m + 1) = nSaid V m + b2i (said V m) := rfl
theorem nSnd_s (V : Hv) (K : Int) (m : Nat) : nSnd V K (m + 1) = nSnd V K m + b2i (snd V K m) := rfl
theorem bst_s (V : Hv) (K : Int) (m : Nat) : bst V K (m + 1) = if snd V K m = true ∧ cst V m < (bst V K m).2 then ((m : Int), cst V m) else bst V K m := rfl
theorem nSaid_r (V : Hv) (m : Nat) : 0 ≤ nSaid V m ∧ nSaid V m ≤ m := by
  induction m with
  | zero => exact ⟨Int.le_refl 0, Int.le_refl 0⟩
  | succ m ih => have := b2i_r (said V m); rw [nSaid_s]; omega
theorem nSnd_r (V : Hv) (K : Int) (m : Nat) : 0 ≤ nSnd V K m ∧ nSnd V K m ≤ m := by
  induction m with
  | zero => exact ⟨Int.le_refl 0, Int.le_refl 0⟩
  | succ m ih => have := b2i_r (snd V K m); rw [nSnd_s]; omega
theorem bst_r {V : Hv} (hV : WV V) (K : Int) (m : Nat) : ((bst V K m).1 = -4 ∧ (bst V K m).2 = 9999) ∨ (0 ≤ (bst V K m).1 ∧ (bst V K m).1 < m ∧ (bst V K m).2 = cst V (bst V K m).1 ∧ snd V K (bst V K m).1 = true) := by
  induction m with
  | zero => exact Or.inl ⟨rfl, rfl⟩
  | succ m ih =>
    rw [bst_s]
    split
    · rename_i h; exact Or.inr ⟨by simp only; omega, by simp only; omega, rfl, h.1⟩
    · rcases ih with h | h
      · exact Or.inl h
      · exact Or.inr ⟨h.1, by omega, h.2.2.1, h.2.2.2⟩
theorem snd_said {V : Hv} {K r : Int} (h : snd V K r = true) : said V r = true := by
  unfold snd at h; exact (Bool.and_eq_true_iff.mp h).1
theorem snd_hld {V : Hv} {K r : Int} (h : said V r = true) (q : hld K (lrow (nm V r)) (nm V r).length) : snd V K r = true := by
  unfold snd; rw [h, dec_iff.mpr q]; rfl
theorem snd_nhld {V : Hv} {K r : Int} (q : ¬ hld K (lrow (nm V r)) (nm V r).length) : snd V K r = false := by
  unfold snd; rw [dec_not.mpr q]; simp
theorem snd_nsaid {V : Hv} {K r : Int} (h : said V r = false) : snd V K r = false := by
  unfold snd; rw [h]; rfl
theorem bst_t {V : Hv} {K : Int} {m : Nat} (h : snd V K m = true) (hc : cst V m < (bst V K m).2) : bst V K (m + 1) = ((m : Int), cst V m) := by rw [bst_s, if_pos ⟨h, hc⟩]
theorem bst_f {V : Hv} {K : Int} {m : Nat} (hc : (bst V K m).2 ≤ cst V m) : bst V K (m + 1) = bst V K m := by rw [bst_s, if_neg (fun z => by omega)]
theorem bst_n {V : Hv} {K : Int} {m : Nat} (h : snd V K m = false) : bst V K (m + 1) = bst V K m := by rw [bst_s, if_neg (fun z => by rw [h] at z; exact absurd z.1 (by decide))]
theorem nSnd_t {V : Hv} {K : Int} {m : Nat} (h : snd V K m = true) : nSnd V K (m + 1) = nSnd V K m + 1 := by rw [nSnd_s, h]; rfl
theorem nSnd_f {V : Hv} {K : Int} {m : Nat} (h : snd V K m = false) : nSnd V K (m + 1) = nSnd V K m := by rw [nSnd_s, h]; simp [b2i]
theorem nSaid_t {V : Hv} {m : Nat} (h : said V m = true) : nSaid V (m + 1) = nSaid V m + 1 := by rw [nSaid_s, h]; rfl
theorem nSaid_f {V : Hv} {m : Nat} (h : said V m = false) : nSaid V (m + 1) = nSaid V m := by rw [nSaid_s, h]; simp [b2i]
def fFd : Nat → Int → Bool := fun c k => c == 115 || c == 116 || c == 117 || c == 118 || (c == 113 && (k == 3 || k == 4 || k == 6 || k == 7 || k == 8 || k == 9 || k == 10 || k == 11 || k == 13))
theorem fTk_Fd : ∀ c k, fFd c k = false → fTk c k = false := by
  intro c k h; simp only [fTk, fFd, Bool.or_eq_false_iff, Bool.and_eq_false_iff] at h ⊢; refine ⟨h.1.1, ?_⟩; rcases h.2 with q | q
  · exact Or.inl q
  · exact Or.inr q.1.1.1.1.1
def fdQ (V : Hv) (K : Int) (σ' : Sg) : Prop := σ' 113 8 = nSaid V (rdN V).toNat ∧ σ' 113 9 = nSnd V K (rdN V).toNat ∧ σ' 113 10 = (bst V K (rdN V).toNat).1 ∧ σ' 113 11 = (bst V K (rdN V).toNat).2 ∧ ((bst V K (rdN V).toNat).1 = -4 → σ' 113 13 = 0) ∧ ((bst V K (rdN V).toNat).1 ≠ -4 → σ' 113 13 = (nm V (bst V K (rdN V).toNat).1).length ∧ rowIs (σ' 118) (nm V (bst V K (rdN V).toNat).1))

set_option maxHeartbeats 4000000 in
set_option maxRecDepth 100000 in
theorem lp_finds2 {g : G} {x : Cx} {P : Sg → Prop} (hO : Ok g x RX9 cX9_finds 3 10) (hR : Rt g x none (pV P)) : ∀ (k i : Nat) (τ : Sg), (i : Int) ≤ τ 113 6 → τ 113 6 - i < k → τ 113 6 ≤ 8 → (∀ τ', (∀ j : Int, i ≤ j → j < τ 113 6 → τ' 118 j = τ 117 j) → (∀ (c : Nat) (j : Int), (c ≠ 118 ∨ j < i) → τ' c j = τ c j) → P τ') → Z g x 3 160 [(0, .ref (g.2.2.1 113)), (2, vI i)] [] τ := by
  intro k
  induction k with
  | zero => intro i τ h0 hk; exact absurd hk (by omega)
  | succ k ih =>
    intro i τ h0 hk h8 hP
    refine z_iload_n hO 1 dX9_finds_160 rfl ?_
    refine z_aload_n hO 0 dX9_finds_161 rfl ?_
    refine z_getI hO 6 fl_X9_113 rfl rfl rfl dX9_finds_162 (fun r162 => ?_)
    refine z_icmp_ge hO 186 dX9_finds_165 (by decide) (by omega) (by omega) (fun c165 => ?_) (fun c165 => ?_)
    ·
      exact z_retV hO hR dX9_finds_186 (hP _ (fun j h0 h1 => absurd h1 (by omega)) (fun c j _ => rfl))
    ·
      refine z_aload_n hO 0 dX9_finds_168 rfl ?_
      refine z_getR hO (118) fl_X9_22 rfl rfl dX9_finds_169 ?_
      refine z_iload_n hO 1 dX9_finds_172 rfl ?_
      refine z_aload_n hO 0 dX9_finds_173 rfl ?_
      refine z_getR hO (117) fl_X9_19 rfl rfl dX9_finds_174 ?_
      refine z_iload_n hO 1 dX9_finds_177 rfl ?_
      refine z_iald hO rfl (by omega) (by decide) dX9_finds_178 (fun r178 => ?_)
      refine z_iast hO rfl (by omega) (by decide) (by omega) dX9_finds_179 ?_
      refine z_iinc hO (L' := [(2, _), (0, _)]) 1 dX9_finds_180 rfl (by decide) rfl ?_
      refine z_goto hO 160 dX9_finds_183 (by decide) ?_
      refine z_pick [1, 0] rfl (ih (i + 1) _ (by simp only [up_ne, ne_eq, Nat.reduceEqDiff, not_false_eq_true]; omega) (by simp only [up_ne, ne_eq, Nat.reduceEqDiff, not_false_eq_true]; omega) (by simp only [up_ne, ne_eq, Nat.reduceEqDiff, not_false_eq_true]; omega) ?_)
      intro τ' q1 q2
      refine hP τ' ?_ ?_
      · intro j h0 h1
        by_cases e : j = i
        · subst e; rw [q2 118 i (Or.inr (by omega)), up_eq]
        · have := q1 j (by omega) (by simp only [up_ne, ne_eq, Nat.reduceEqDiff, not_false_eq_true]; exact h1); simp only [up_ne, ne_eq, Nat.reduceEqDiff, not_false_eq_true] at this; exact this
      · intro c j hc
        rw [q2 c j (by omega)]
        rcases hc with hc | hc
        · rw [up_ne hc]
        · rw [up_nk (by omega)]

set_option maxHeartbeats 4000000 in
set_option maxRecDepth 100000 in
theorem lp_finds {g : G} {x : Cx} {σ : Sg} {P : Sg → Prop} (hO : Ok g x RX9 cX9_finds 3 10) (hR : Rt g x none (pV P)) (hV : WV (mv (σ 114))) (hE : ∀ τ : Sg, 0 ≤ rdN (mv (σ 114)) → τ 113 8 = nSaid (mv (σ 114)) (rdN (mv (σ 114))).toNat → τ 113 9 = nSnd (mv (σ 114)) (σ 114 1) (rdN (mv (σ 114))).toNat → τ 113 10 = (bst (mv (σ 114)) (σ 114 1) (rdN (mv (σ 114))).toNat).1 → τ 113 11 = (bst (mv (σ 114)) (σ 114 1) (rdN (mv (σ 114))).toNat).2 → Fm fFd σ τ → Z g x 3 125 [(0, .ref (g.2.2.1 113)), (1, vI (rdN (mv (σ 114)))), (2, vI (rdN (mv (σ 114))).toNat)] [] τ) : ∀ (k i : Nat) (τ : Sg), (i : Int) ≤ rdN (mv (σ 114)) → rdN (mv (σ 114)) - i < k → τ 113 8 = nSaid (mv (σ 114)) i → τ 113 9 = nSnd (mv (σ 114)) (σ 114 1) i → τ 113 10 = (bst (mv (σ 114)) (σ 114 1) i).1 → τ 113 11 = (bst (mv (σ 114)) (σ 114 1) i).2 → Fm fFd σ τ → Z g x 3 30 [(0, .ref (g.2.2.1 113)), (1, vI (rdN (mv (σ 114)))), (2, vI i)] [] τ := by
  intro k
  induction k with
  | zero => intro i τ h0 hk; exact absurd hk (by omega)
  | succ k ih =>
    intro i τ hi hk e8 e9 e10 e11 hFm
    have e114 : τ 114 = σ 114 := hFm.row 114 (fun _ => rfl)
    refine z_iload_n hO 2 dX9_finds_30 rfl ?_
    refine z_iload_n hO 1 dX9_finds_31 rfl ?_
    refine z_icmp_ge hO 125 dX9_finds_32 (by decide) (by have := rdN_r hV; omega) (by have := rdN_r hV; omega) (fun c32 => ?_) (fun c32 => ?_)
    ·
      have hi2 : i = (rdN (mv (σ 114))).toNat := by omega
      subst hi2
      exact z_pick [0, 1, 2] rfl (hE τ (by omega) e8 e9 e10 e11 hFm)
    ·
      have hrd := rdN_r hV
      have hsr1 := nSaid_r (mv (σ 114)) i
      have hsr2 := nSnd_r (mv (σ 114)) (σ 114 1) i
      have hcr := cst_r hV i
      have hbr := bst_r hV (σ 114 1) i
      have hbc := cst_r hV (bst (mv (σ 114)) (σ 114 1) i).1
      refine z_aload_n hO 0 dX9_finds_35 rfl ?_
      refine z_iload_n hO 2 dX9_finds_36 rfl ?_
      refine z_cvB hO (t_X9_takes (r := i) (by rw [e114]; exact hV) (by omega)) cv_X9_144 rfl rfl rfl rfl (by decide) (Nat.le_of_ble_eq_true rfl) dX9_finds_37 (fun s37 p37 => ?_) (fun s37 p37 => ?_)
      ·
        rw [e114] at p37
        have q8 : s37 113 8 = _ := (p37.2.2 113 8 rfl).trans (by (try simp only [fl_row_ne, fl_ne, up_row_ne, up_ne, up_eq, up_nk, up_up, up_self, ne_eq, Nat.reduceEqDiff, Int.reduceEq, reduceCtorEq, not_false_eq_true, not_true_eq_false]); exact e8)
        have q9 : s37 113 9 = _ := (p37.2.2 113 9 rfl).trans (by (try simp only [fl_row_ne, fl_ne, up_row_ne, up_ne, up_eq, up_nk, up_up, up_self, ne_eq, Nat.reduceEqDiff, Int.reduceEq, reduceCtorEq, not_false_eq_true, not_true_eq_false]); exact e9)
        have q10 : s37 113 10 = _ := (p37.2.2 113 10 rfl).trans (by (try simp only [fl_row_ne, fl_ne, up_row_ne, up_ne, up_eq, up_nk, up_up, up_self, ne_eq, Nat.reduceEqDiff, Int.reduceEq, reduceCtorEq, not_false_eq_true, not_true_eq_false]); exact e10)
        have q11 : s37 113 11 = _ := (p37.2.2 113 11 rfl).trans (by (try simp only [fl_row_ne, fl_ne, up_row_ne, up_ne, up_eq, up_nk, up_up, up_self, ne_eq, Nat.reduceEqDiff, Int.reduceEq, reduceCtorEq, not_false_eq_true, not_true_eq_false]); exact e11)
        have q114 : s37 114 = σ 114 := ((p37.2.2).row 114 (fun _ => rfl)).trans e114
        have hsd : said (mv (σ 114)) i = true := p37.1.1.symm
        have q6 : s37 113 6 = (nm (mv (σ 114)) i).length := p37.1.2.1
        have q117 : rowIs (s37 117) (nm (mv (σ 114)) i) := p37.1.2.2.1
        have q4 : s37 113 4 = cst (mv (σ 114)) i := p37.1.2.2.2
        have hsr := said_r hV hsd
        have hsaid := nSaid_t hsd
        refine z_if_eq hO 119 dX9_finds_40 (by decide) (by decide) (fun c40 => absurd c40 (by omega)) (fun c40 => ?_)
        refine z_aload_n hO 0 dX9_finds_43 rfl ?_
        refine z_dup hO dX9_finds_44 rfl ?_
        refine z_getI hO 8 fl_X9_129 rfl rfl rfl dX9_finds_45 (fun r45 => ?_)
        try simp only [fl_row_ne, fl_ne, up_row_ne, up_ne, up_eq, up_nk, up_up, up_self, ne_eq, Nat.reduceEqDiff, Int.reduceEq, reduceCtorEq, not_false_eq_true, not_true_eq_false, e114, q8, q9, q10, q11, q114, q6, q4] at r45 ⊢
        refine z_iconst hO dX9_finds_48 ?_
        refine z_iadd hO dX9_finds_49 ?_
        refine z_putI hO 8 fp_X9_129 rfl rfl rfl (by omega) rfl rfl dX9_finds_50 ?_
        refine z_aload_n hO 0 dX9_finds_53 rfl ?_
        refine z_cvQ hO (t_X9_holds (by simp only [fl_row_ne, fl_ne, up_row_ne, up_ne, up_eq, up_nk, up_up, up_self, ne_eq, Nat.reduceEqDiff, Int.reduceEq, reduceCtorEq, not_false_eq_true, not_true_eq_false, q6]; exact row_NR q117 hsr)) cv_X9_148 rfl rfl rfl rfl (by decide) (Nat.le_of_ble_eq_true rfl) dX9_finds_54 (fun c54 => ?_) (fun c54 => ?_)
        ·
          try simp only [fl_row_ne, fl_ne, up_row_ne, up_ne, up_eq, up_nk, up_up, up_self, ne_eq, Nat.reduceEqDiff, Int.reduceEq, reduceCtorEq, not_false_eq_true, not_true_eq_false, e114, q8, q9, q10, q11, q114, q6, q4] at c54 ⊢
          have c54 : hld (σ 114 1) (lrow (nm (mv (σ 114)) i)) (nm (mv (σ 114)) i).length := (hld_row q117 hsr.1).mp c54
          have hsn := snd_hld hsd c54
          have hss := nSnd_t hsn
          refine z_if_eq hO 119 dX9_finds_57 (by decide) (by decide) (fun c57 => absurd c57 (by omega)) (fun c57 => ?_)
          refine z_aload_n hO 0 dX9_finds_60 rfl ?_
          refine z_dup hO dX9_finds_61 rfl ?_
          refine z_getI hO 9 fl_X9_132 rfl rfl rfl dX9_finds_62 (fun r62 => ?_)
          try simp only [fl_row_ne, fl_ne, up_row_ne, up_ne, up_eq, up_nk, up_up, up_self, ne_eq, Nat.reduceEqDiff, Int.reduceEq, reduceCtorEq, not_false_eq_true, not_true_eq_false, e114, q8, q9, q10, q11, q114, q6, q4] at r62 ⊢
          refine z_iconst hO dX9_finds_65 ?_
          refine z_iadd hO dX9_finds_66 ?_
          refine z_putI hO 9 fp_X9_132 rfl rfl rfl (by omega) rfl rfl dX9_finds_67 ?_
          refine z_aload_n hO 0 dX9_finds_70 rfl ?_
          refine z_aload_n hO 0 dX9_finds_71 rfl ?_
          refine z_getI hO 4 fl_X9_123 rfl rfl rfl dX9_finds_72 (fun r72 => ?_)
          try simp only [fl_row_ne, fl_ne, up_row_ne, up_ne, up_eq, up_nk, up_up, up_self, ne_eq, Nat.reduceEqDiff, Int.reduceEq, reduceCtorEq, not_false_eq_true, not_true_eq_false, e114, q8, q9, q10, q11, q114, q6, q4] at r72 ⊢
          refine z_aload_n hO 0 dX9_finds_75 rfl ?_
          refine z_getI hO 11 fl_X9_138 rfl rfl rfl dX9_finds_76 (fun r76 => ?_)
          try simp only [fl_row_ne, fl_ne, up_row_ne, up_ne, up_eq, up_nk, up_up, up_self, ne_eq, Nat.reduceEqDiff, Int.reduceEq, reduceCtorEq, not_false_eq_true, not_true_eq_false, e114, q8, q9, q10, q11, q114, q6, q4] at r76 ⊢
          refine z_icmp_ge hO 86 dX9_finds_79 (by decide) (by omega) (by omega) (fun c79 => ?_) (fun c79 => ?_)
          ·
            have hbs := bst_f (K := σ 114 1) c79
            refine z_aload_n hO 0 dX9_finds_86 rfl ?_
            refine z_getI hO 10 fl_X9_135 rfl rfl rfl dX9_finds_87 (fun r87 => ?_)
            try simp only [fl_row_ne, fl_ne, up_row_ne, up_ne, up_eq, up_nk, up_up, up_self, ne_eq, Nat.reduceEqDiff, Int.reduceEq, reduceCtorEq, not_false_eq_true, not_true_eq_false, e114, q8, q9, q10, q11, q114, q6, q4] at r87 ⊢
            refine z_putI hO 10 fp_X9_135 rfl rfl rfl (by omega) rfl rfl dX9_finds_90 ?_
            refine z_aload_n hO 0 dX9_finds_93 rfl ?_
            refine z_aload_n hO 0 dX9_finds_94 rfl ?_
            refine z_getI hO 4 fl_X9_123 rfl rfl rfl dX9_finds_95 (fun r95 => ?_)
            try simp only [fl_row_ne, fl_ne, up_row_ne, up_ne, up_eq, up_nk, up_up, up_self, ne_eq, Nat.reduceEqDiff, Int.reduceEq, reduceCtorEq, not_false_eq_true, not_true_eq_false, e114, q8, q9, q10, q11, q114, q6, q4] at r95 ⊢
            refine z_aload_n hO 0 dX9_finds_98 rfl ?_
            refine z_getI hO 11 fl_X9_138 rfl rfl rfl dX9_finds_99 (fun r99 => ?_)
            try simp only [fl_row_ne, fl_ne, up_row_ne, up_ne, up_eq, up_nk, up_up, up_self, ne_eq, Nat.reduceEqDiff, Int.reduceEq, reduceCtorEq, not_false_eq_true, not_true_eq_false, e114, q8, q9, q10, q11, q114, q6, q4] at r99 ⊢
            refine z_icmp_ge hO 112 dX9_finds_102 (by decide) (by omega) (by omega) (fun c102 => ?_) (fun c102 => ?_)
            ·
              refine z_aload_n hO 0 dX9_finds_112 rfl ?_
              refine z_getI hO 11 fl_X9_138 rfl rfl rfl dX9_finds_113 (fun r113 => ?_)
              try simp only [fl_row_ne, fl_ne, up_row_ne, up_ne, up_eq, up_nk, up_up, up_self, ne_eq, Nat.reduceEqDiff, Int.reduceEq, reduceCtorEq, not_false_eq_true, not_true_eq_false, e114, q8, q9, q10, q11, q114, q6, q4] at r113 ⊢
              refine z_putI hO 11 fp_X9_138 rfl rfl rfl (by omega) rfl rfl dX9_finds_116 ?_
              refine z_iinc hO (L' := [(2, _), (0, _), (1, _)]) 2 dX9_finds_119 rfl (by decide) rfl ?_
              refine z_goto hO 30 dX9_finds_122 (by decide) ?_
              refine z_pick [1, 2, 0] rfl (ih (i + 1) _ (by omega) (by omega) ?_ ?_ ?_ ?_ ?_)
              · first | (exfalso; omega) | (rw [hsaid]; (try simp only [fl_row_ne, fl_ne, up_row_ne, up_ne, up_eq, up_nk, up_up, up_self, ne_eq, Nat.reduceEqDiff, Int.reduceEq, reduceCtorEq, not_false_eq_true, not_true_eq_false]); first | done | omega)
              · first | (exfalso; omega) | (rw [hss]; (try simp only [fl_row_ne, fl_ne, up_row_ne, up_ne, up_eq, up_nk, up_up, up_self, ne_eq, Nat.reduceEqDiff, Int.reduceEq, reduceCtorEq, not_false_eq_true, not_true_eq_false]); first | done | omega)
              · first | (exfalso; omega) | (rw [hbs]; (try simp only [fl_row_ne, fl_ne, up_row_ne, up_ne, up_eq, up_nk, up_up, up_self, ne_eq, Nat.reduceEqDiff, Int.reduceEq, reduceCtorEq, not_false_eq_true, not_true_eq_false]); first | done | omega)
              · first | (exfalso; omega) | (rw [hbs]; (try simp only [fl_row_ne, fl_ne, up_row_ne, up_ne, up_eq, up_nk, up_up, up_self, ne_eq, Nat.reduceEqDiff, Int.reduceEq, reduceCtorEq, not_false_eq_true, not_true_eq_false]); first | done | omega)
              · have hfa : Fm fFd σ s37 := hFm.trans (p37.2.2.mono fTk_Fd)
                first | exact hfa | exact hfa.up rfl | exact ((hfa.up rfl).up rfl) | exact ((hfa.up rfl).up rfl).up rfl | exact (((hfa.up rfl).up rfl).up rfl).up rfl
            ·
              refine z_aload_n hO 0 dX9_finds_105 rfl ?_
              refine z_getI hO 4 fl_X9_123 rfl rfl rfl dX9_finds_106 (fun r106 => ?_)
              try simp only [fl_row_ne, fl_ne, up_row_ne, up_ne, up_eq, up_nk, up_up, up_self, ne_eq, Nat.reduceEqDiff, Int.reduceEq, reduceCtorEq, not_false_eq_true, not_true_eq_false, e114, q8, q9, q10, q11, q114, q6, q4] at r106 ⊢
              refine z_goto hO 116 dX9_finds_109 (by decide) ?_
              refine z_putI hO 11 fp_X9_138 rfl rfl rfl (by omega) rfl rfl dX9_finds_116 ?_
              refine z_iinc hO (L' := [(2, _), (0, _), (1, _)]) 2 dX9_finds_119 rfl (by decide) rfl ?_
              refine z_goto hO 30 dX9_finds_122 (by decide) ?_
              refine z_pick [1, 2, 0] rfl (ih (i + 1) _ (by omega) (by omega) ?_ ?_ ?_ ?_ ?_)
              · first | (exfalso; omega) | (rw [hsaid]; (try simp only [fl_row_ne, fl_ne, up_row_ne, up_ne, up_eq, up_nk, up_up, up_self, ne_eq, Nat.reduceEqDiff, Int.reduceEq, reduceCtorEq, not_false_eq_true, not_true_eq_false]); first | done | omega)
              · first | (exfalso; omega) | (rw [hss]; (try simp only [fl_row_ne, fl_ne, up_row_ne, up_ne, up_eq, up_nk, up_up, up_self, ne_eq, Nat.reduceEqDiff, Int.reduceEq, reduceCtorEq, not_false_eq_true, not_true_eq_false]); first | done | omega)
              · first | (exfalso; omega) | (rw [hbs]; (try simp only [fl_row_ne, fl_ne, up_row_ne, up_ne, up_eq, up_nk, up_up, up_self, ne_eq, Nat.reduceEqDiff, Int.reduceEq, reduceCtorEq, not_false_eq_true, not_true_eq_false]); first | done | omega)
              · first | (exfalso; omega) | (rw [hbs]; (try simp only [fl_row_ne, fl_ne, up_row_ne, up_ne, up_eq, up_nk, up_up, up_self, ne_eq, Nat.reduceEqDiff, Int.reduceEq, reduceCtorEq, not_false_eq_true, not_true_eq_false]); first | done | omega)
              · have hfa : Fm fFd σ s37 := hFm.trans (p37.2.2.mono fTk_Fd)
                first | exact hfa | exact hfa.up rfl | exact ((hfa.up rfl).up rfl) | exact ((hfa.up rfl).up rfl).up rfl | exact (((hfa.up rfl).up rfl).up rfl).up rfl
          ·
            have hbs := bst_t hsn c79
            refine z_iload_n hO 2 dX9_finds_82 rfl ?_
            refine z_goto hO 90 dX9_finds_83 (by decide) ?_
            refine z_putI hO 10 fp_X9_135 rfl rfl rfl (by omega) rfl rfl dX9_finds_90 ?_
            refine z_aload_n hO 0 dX9_finds_93 rfl ?_
            refine z_aload_n hO 0 dX9_finds_94 rfl ?_
            refine z_getI hO 4 fl_X9_123 rfl rfl rfl dX9_finds_95 (fun r95 => ?_)
            try simp only [fl_row_ne, fl_ne, up_row_ne, up_ne, up_eq, up_nk, up_up, up_self, ne_eq, Nat.reduceEqDiff, Int.reduceEq, reduceCtorEq, not_false_eq_true, not_true_eq_false, e114, q8, q9, q10, q11, q114, q6, q4] at r95 ⊢
            refine z_aload_n hO 0 dX9_finds_98 rfl ?_
            refine z_getI hO 11 fl_X9_138 rfl rfl rfl dX9_finds_99 (fun r99 => ?_)
            try simp only [fl_row_ne, fl_ne, up_row_ne, up_ne, up_eq, up_nk, up_up, up_self, ne_eq, Nat.reduceEqDiff, Int.reduceEq, reduceCtorEq, not_false_eq_true, not_true_eq_false, e114, q8, q9, q10, q11, q114, q6, q4] at r99 ⊢
            refine z_icmp_ge hO 112 dX9_finds_102 (by decide) (by omega) (by omega) (fun c102 => ?_) (fun c102 => ?_)
            ·
              refine z_aload_n hO 0 dX9_finds_112 rfl ?_
              refine z_getI hO 11 fl_X9_138 rfl rfl rfl dX9_finds_113 (fun r113 => ?_)
              try simp only [fl_row_ne, fl_ne, up_row_ne, up_ne, up_eq, up_nk, up_up, up_self, ne_eq, Nat.reduceEqDiff, Int.reduceEq, reduceCtorEq, not_false_eq_true, not_true_eq_false, e114, q8, q9, q10, q11, q114, q6, q4] at r113 ⊢
              refine z_putI hO 11 fp_X9_138 rfl rfl rfl (by omega) rfl rfl dX9_finds_116 ?_
              refine z_iinc hO (L' := [(2, _), (0, _), (1, _)]) 2 dX9_finds_119 rfl (by decide) rfl ?_
              refine z_goto hO 30 dX9_finds_122 (by decide) ?_
              refine z_pick [1, 2, 0] rfl (ih (i + 1) _ (by omega) (by omega) ?_ ?_ ?_ ?_ ?_)
              · first | (exfalso; omega) | (rw [hsaid]; (try simp only [fl_row_ne, fl_ne, up_row_ne, up_ne, up_eq, up_nk, up_up, up_self, ne_eq, Nat.reduceEqDiff, Int.reduceEq, reduceCtorEq, not_false_eq_true, not_true_eq_false]); first | done | omega)
              · first | (exfalso; omega) | (rw [hss]; (try simp only [fl_row_ne, fl_ne, up_row_ne, up_ne, up_eq, up_nk, up_up, up_self, ne_eq, Nat.reduceEqDiff, Int.reduceEq, reduceCtorEq, not_false_eq_true, not_true_eq_false]); first | done | omega)
              · first | (exfalso; omega) | (rw [hbs]; (try simp only [fl_row_ne, fl_ne, up_row_ne, up_ne, up_eq, up_nk, up_up, up_self, ne_eq, Nat.reduceEqDiff, Int.reduceEq, reduceCtorEq, not_false_eq_true, not_true_eq_false]); first | done | omega)
              · first | (exfalso; omega) | (rw [hbs]; (try simp only [fl_row_ne, fl_ne, up_row_ne, up_ne, up_eq, up_nk, up_up, up_self, ne_eq, Nat.reduceEqDiff, Int.reduceEq, reduceCtorEq, not_false_eq_true, not_true_eq_false]); first | done | omega)
              · have hfa : Fm fFd σ s37 := hFm.trans (p37.2.2.mono fTk_Fd)
                first | exact hfa | exact hfa.up rfl | exact ((hfa.up rfl).up rfl) | exact ((hfa.up rfl).up rfl).up rfl | exact (((hfa.up rfl).up rfl).up rfl).up rfl
            ·
              refine z_aload_n hO 0 dX9_finds_105 rfl ?_
              refine z_getI hO 4 fl_X9_123 rfl rfl rfl dX9_finds_106 (fun r106 => ?_)
              try simp only [fl_row_ne, fl_ne, up_row_ne, up_ne, up_eq, up_nk, up_up, up_self, ne_eq, Nat.reduceEqDiff, Int.reduceEq, reduceCtorEq, not_false_eq_true, not_true_eq_false, e114, q8, q9, q10, q11, q114, q6, q4] at r106 ⊢
              refine z_goto hO 116 dX9_finds_109 (by decide) ?_
              refine z_putI hO 11 fp_X9_138 rfl rfl rfl (by omega) rfl rfl dX9_finds_116 ?_
              refine z_iinc hO (L' := [(2, _), (0, _), (1, _)]) 2 dX9_finds_119 rfl (by decide) rfl ?_
              refine z_goto hO 30 dX9_finds_122 (by decide) ?_
              refine z_pick [1, 2, 0] rfl (ih (i + 1) _ (by omega) (by omega) ?_ ?_ ?_ ?_ ?_)
              · first | (exfalso; omega) | (rw [hsaid]; (try simp only [fl_row_ne, fl_ne, up_row_ne, up_ne, up_eq, up_nk, up_up, up_self, ne_eq, Nat.reduceEqDiff, Int.reduceEq, reduceCtorEq, not_false_eq_true, not_true_eq_false]); first | done | omega)
              · first | (exfalso; omega) | (rw [hss]; (try simp only [fl_row_ne, fl_ne, up_row_ne, up_ne, up_eq, up_nk, up_up, up_self, ne_eq, Nat.reduceEqDiff, Int.reduceEq, reduceCtorEq, not_false_eq_true, not_true_eq_false]); first | done | omega)
              · first | (exfalso; omega) | (rw [hbs]; (try simp only [fl_row_ne, fl_ne, up_row_ne, up_ne, up_eq, up_nk, up_up, up_self, ne_eq, Nat.reduceEqDiff, Int.reduceEq, reduceCtorEq, not_false_eq_true, not_true_eq_false]); first | done | omega)
              · first | (exfalso; omega) | (rw [hbs]; (try simp only [fl_row_ne, fl_ne, up_row_ne, up_ne, up_eq, up_nk, up_up, up_self, ne_eq, Nat.reduceEqDiff, Int.reduceEq, reduceCtorEq, not_false_eq_true, not_true_eq_false]); first | done | omega)
              · have hfa : Fm fFd σ s37 := hFm.trans (p37.2.2.mono fTk_Fd)
                first | exact hfa | exact hfa.up rfl | exact ((hfa.up rfl).up rfl) | exact ((hfa.up rfl).up rfl).up rfl | exact (((hfa.up rfl).up rfl).up rfl).up rfl
        ·
          try simp only [fl_row_ne, fl_ne, up_row_ne, up_ne, up_eq, up_nk, up_up, up_self, ne_eq, Nat.reduceEqDiff, Int.reduceEq, reduceCtorEq, not_false_eq_true, not_true_eq_false, e114, q8, q9, q10, q11, q114, q6, q4] at c54 ⊢
          have c54 : ¬ hld (σ 114 1) (lrow (nm (mv (σ 114)) i)) (nm (mv (σ 114)) i).length := fun z => c54 ((hld_row q117 hsr.1).mpr z)
          have hsn := snd_nhld c54
          have hss := nSnd_f hsn
          have hbs := bst_n hsn
          refine z_if_eq hO 119 dX9_finds_57 (by decide) (by decide) (fun c57 => ?_) (fun c57 => absurd c57 (by omega))
          refine z_iinc hO (L' := [(2, _), (0, _), (1, _)]) 2 dX9_finds_119 rfl (by decide) rfl ?_
          refine z_goto hO 30 dX9_finds_122 (by decide) ?_
          refine z_pick [1, 2, 0] rfl (ih (i + 1) _ (by omega) (by omega) ?_ ?_ ?_ ?_ ?_)
          · first | (exfalso; omega) | (rw [hsaid]; (try simp only [fl_row_ne, fl_ne, up_row_ne, up_ne, up_eq, up_nk, up_up, up_self, ne_eq, Nat.reduceEqDiff, Int.reduceEq, reduceCtorEq, not_false_eq_true, not_true_eq_false]); first | done | omega)
          · first | (exfalso; omega) | (rw [hss]; (try simp only [fl_row_ne, fl_ne, up_row_ne, up_ne, up_eq, up_nk, up_up, up_self, ne_eq, Nat.reduceEqDiff, Int.reduceEq, reduceCtorEq, not_false_eq_true, not_true_eq_false]); first | done | omega)
          · first | (exfalso; omega) | (rw [hbs]; (try simp only [fl_row_ne, fl_ne, up_row_ne, up_ne, up_eq, up_nk, up_up, up_self, ne_eq, Nat.reduceEqDiff, Int.reduceEq, reduceCtorEq, not_false_eq_true, not_true_eq_false]); first | done | omega)
          · first | (exfalso; omega) | (rw [hbs]; (try simp only [fl_row_ne, fl_ne, up_row_ne, up_ne, up_eq, up_nk, up_up, up_self, ne_eq, Nat.reduceEqDiff, Int.reduceEq, reduceCtorEq, not_false_eq_true, not_true_eq_false]); first | done | omega)
          · have hfa : Fm fFd σ s37 := hFm.trans (p37.2.2.mono fTk_Fd)
            first | exact hfa | exact hfa.up rfl | exact ((hfa.up rfl).up rfl) | exact ((hfa.up rfl).up rfl).up rfl | exact (((hfa.up rfl).up rfl).up rfl).up rfl
      ·
        rw [e114] at p37
        have q8 : s37 113 8 = _ := (p37.2.2 113 8 rfl).trans (by (try simp only [fl_row_ne, fl_ne, up_row_ne, up_ne, up_eq, up_nk, up_up, up_self, ne_eq, Nat.reduceEqDiff, Int.reduceEq, reduceCtorEq, not_false_eq_true, not_true_eq_false]); exact e8)
        have q9 : s37 113 9 = _ := (p37.2.2 113 9 rfl).trans (by (try simp only [fl_row_ne, fl_ne, up_row_ne, up_ne, up_eq, up_nk, up_up, up_self, ne_eq, Nat.reduceEqDiff, Int.reduceEq, reduceCtorEq, not_false_eq_true, not_true_eq_false]); exact e9)
        have q10 : s37 113 10 = _ := (p37.2.2 113 10 rfl).trans (by (try simp only [fl_row_ne, fl_ne, up_row_ne, up_ne, up_eq, up_nk, up_up, up_self, ne_eq, Nat.reduceEqDiff, Int.reduceEq, reduceCtorEq, not_false_eq_true, not_true_eq_false]); exact e10)
        have q11 : s37 113 11 = _ := (p37.2.2 113 11 rfl).trans (by (try simp only [fl_row_ne, fl_ne, up_row_ne, up_ne, up_eq, up_nk, up_up, up_self, ne_eq, Nat.reduceEqDiff, Int.reduceEq, reduceCtorEq, not_false_eq_true, not_true_eq_false]); exact e11)
        have q114 : s37 114 = σ 114 := ((p37.2.2).row 114 (fun _ => rfl)).trans e114
        have hsd : said (mv (σ 114)) i = false := p37.1.1.symm
        have hbs := bst_n (K := σ 114 1) (snd_nsaid hsd)
        have hss := nSnd_f (K := σ 114 1) (snd_nsaid hsd)
        have hsaid := nSaid_f hsd
        refine z_if_eq hO 119 dX9_finds_40 (by decide) (by decide) (fun c40 => ?_) (fun c40 => absurd c40 (by omega))
        refine z_iinc hO (L' := [(2, _), (0, _), (1, _)]) 2 dX9_finds_119 rfl (by decide) rfl ?_
        refine z_goto hO 30 dX9_finds_122 (by decide) ?_
        refine z_pick [1, 2, 0] rfl (ih (i + 1) _ (by omega) (by omega) ?_ ?_ ?_ ?_ ?_)
        · first | (exfalso; omega) | (rw [hsaid]; (try simp only [fl_row_ne, fl_ne, up_row_ne, up_ne, up_eq, up_nk, up_up, up_self, ne_eq, Nat.reduceEqDiff, Int.reduceEq, reduceCtorEq, not_false_eq_true, not_true_eq_false]); first | done | omega)
        · first | (exfalso; omega) | (rw [hss]; (try simp only [fl_row_ne, fl_ne, up_row_ne, up_ne, up_eq, up_nk, up_up, up_self, ne_eq, Nat.reduceEqDiff, Int.reduceEq, reduceCtorEq, not_false_eq_true, not_true_eq_false]); first | done | omega)
        · first | (exfalso; omega) | (rw [hbs]; (try simp only [fl_row_ne, fl_ne, up_row_ne, up_ne, up_eq, up_nk, up_up, up_self, ne_eq, Nat.reduceEqDiff, Int.reduceEq, reduceCtorEq, not_false_eq_true, not_true_eq_false]); first | done | omega)
        · first | (exfalso; omega) | (rw [hbs]; (try simp only [fl_row_ne, fl_ne, up_row_ne, up_ne, up_eq, up_nk, up_up, up_self, ne_eq, Nat.reduceEqDiff, Int.reduceEq, reduceCtorEq, not_false_eq_true, not_true_eq_false]); first | done | omega)
        · have hfa : Fm fFd σ s37 := hFm.trans (p37.2.2.mono fTk_Fd)
          first | exact hfa | exact hfa.up rfl | exact ((hfa.up rfl).up rfl) | exact ((hfa.up rfl).up rfl).up rfl | exact (((hfa.up rfl).up rfl).up rfl).up rfl

set_option maxHeartbeats 4000000 in
set_option maxRecDepth 100000 in
theorem lp_finds3 {g : G} {x : Cx} {σ : Sg} (hO : Ok g x RX9 cX9_finds 3 10) (hR : Rt g x none (pV (fun σ' => fdQ (mv (σ 114)) (σ 114 1) σ' ∧ Fm fFd σ σ'))) (hV : WV (mv (σ 114))) : ∀ (τ : Sg), 0 ≤ rdN (mv (σ 114)) → τ 113 8 = nSaid (mv (σ 114)) (rdN (mv (σ 114))).toNat → τ 113 9 = nSnd (mv (σ 114)) (σ 114 1) (rdN (mv (σ 114))).toNat → τ 113 10 = (bst (mv (σ 114)) (σ 114 1) (rdN (mv (σ 114))).toNat).1 → τ 113 11 = (bst (mv (σ 114)) (σ 114 1) (rdN (mv (σ 114))).toNat).2 → Fm fFd σ τ → Z g x 3 125 [(0, .ref (g.2.2.1 113)), (1, vI (rdN (mv (σ 114)))), (2, vI (rdN (mv (σ 114))).toNat)] [] τ := by
  intro τ h0 e8 e9 e10 e11 hFm
  have e114 : τ 114 = σ 114 := hFm.row 114 (fun _ => rfl)
  have hrd := rdN_r hV
  have hbr := bst_r hV (σ 114 1) (rdN (mv (σ 114))).toNat
  refine z_aload_n hO 0 dX9_finds_125 rfl ?_
  refine z_iconst hO dX9_finds_126 ?_
  refine z_putI hO 13 fp_X9_151 rfl rfl rfl (by omega) rfl rfl dX9_finds_127 ?_
  refine z_aload_n hO 0 dX9_finds_130 rfl ?_
  refine z_getI hO 10 fl_X9_135 rfl rfl rfl dX9_finds_131 (fun r131 => ?_)
  try simp only [fl_row_ne, fl_ne, up_row_ne, up_ne, up_eq, up_nk, up_up, up_self, ne_eq, Nat.reduceEqDiff, Int.reduceEq, reduceCtorEq, not_false_eq_true, not_true_eq_false, e8, e9, e10, e11] at r131 ⊢
  refine z_bipush hO dX9_finds_134 (by decide) ?_
  refine z_icmp_eq hO 186 dX9_finds_136 (by decide) (by omega) (by decide) (fun c136 => ?_) (fun c136 => ?_)
  ·
    exact z_retV hO hR dX9_finds_186 (⟨⟨by simp only [fl_row_ne, fl_ne, up_row_ne, up_ne, up_eq, up_nk, up_up, up_self, ne_eq, Nat.reduceEqDiff, Int.reduceEq, reduceCtorEq, not_false_eq_true, not_true_eq_false]; exact e8, by simp only [fl_row_ne, fl_ne, up_row_ne, up_ne, up_eq, up_nk, up_up, up_self, ne_eq, Nat.reduceEqDiff, Int.reduceEq, reduceCtorEq, not_false_eq_true, not_true_eq_false]; exact e9, by simp only [fl_row_ne, fl_ne, up_row_ne, up_ne, up_eq, up_nk, up_up, up_self, ne_eq, Nat.reduceEqDiff, Int.reduceEq, reduceCtorEq, not_false_eq_true, not_true_eq_false]; exact e10, by simp only [fl_row_ne, fl_ne, up_row_ne, up_ne, up_eq, up_nk, up_up, up_self, ne_eq, Nat.reduceEqDiff, Int.reduceEq, reduceCtorEq, not_false_eq_true, not_true_eq_false]; exact e11, fun _ => by simp only [fl_row_ne, fl_ne, up_row_ne, up_ne, up_eq, up_nk, up_up, up_self, ne_eq, Nat.reduceEqDiff, Int.reduceEq, reduceCtorEq, not_false_eq_true, not_true_eq_false], fun q => absurd c136 q⟩, hFm.up rfl⟩)
  ·
    have hb4 : snd (mv (σ 114)) (σ 114 1) (bst (mv (σ 114)) (σ 114 1) (rdN (mv (σ 114))).toNat).1 = true := by rcases hbr with q | q; exact absurd q.1 c136; exact q.2.2.2
    have hb5 : 0 ≤ (bst (mv (σ 114)) (σ 114 1) (rdN (mv (σ 114))).toNat).1 ∧ (bst (mv (σ 114)) (σ 114 1) (rdN (mv (σ 114))).toNat).1 ≤ 65536 := by rcases hbr with q | q; exact absurd q.1 c136; omega
    refine z_aload_n hO 0 dX9_finds_139 rfl ?_
    refine z_aload_n hO 0 dX9_finds_140 rfl ?_
    refine z_getI hO 10 fl_X9_135 rfl rfl rfl dX9_finds_141 (fun r141 => ?_)
    try simp only [fl_row_ne, fl_ne, up_row_ne, up_ne, up_eq, up_nk, up_up, up_self, ne_eq, Nat.reduceEqDiff, Int.reduceEq, reduceCtorEq, not_false_eq_true, not_true_eq_false, e8, e9, e10, e11] at r141 ⊢
    refine z_cvB hO (t_X9_takes (r := (bst (mv (σ 114)) (σ 114 1) (rdN (mv (σ 114))).toNat).1) (by simp only [fl_row_ne, fl_ne, up_row_ne, up_ne, up_eq, up_nk, up_up, up_self, ne_eq, Nat.reduceEqDiff, Int.reduceEq, reduceCtorEq, not_false_eq_true, not_true_eq_false]; rw [e114]; exact hV) (by omega)) cv_X9_144 rfl rfl rfl rfl (by decide) (Nat.le_of_ble_eq_true rfl) dX9_finds_144 (fun s144 p144 => ?_) (fun s144 p144 => ?_)
    ·
      simp only [fl_row_ne, fl_ne, up_row_ne, up_ne, up_eq, up_nk, up_up, up_self, ne_eq, Nat.reduceEqDiff, Int.reduceEq, reduceCtorEq, not_false_eq_true, not_true_eq_false] at p144
      rw [e114] at p144
      have q8 : s144 113 8 = _ := (p144.2.2 113 8 rfl).trans (by (try simp only [fl_row_ne, fl_ne, up_row_ne, up_ne, up_eq, up_nk, up_up, up_self, ne_eq, Nat.reduceEqDiff, Int.reduceEq, reduceCtorEq, not_false_eq_true, not_true_eq_false]); exact e8)
      have q9 : s144 113 9 = _ := (p144.2.2 113 9 rfl).trans (by (try simp only [fl_row_ne, fl_ne, up_row_ne, up_ne, up_eq, up_nk, up_up, up_self, ne_eq, Nat.reduceEqDiff, Int.reduceEq, reduceCtorEq, not_false_eq_true, not_true_eq_false]); exact e9)
      have q10 : s144 113 10 = _ := (p144.2.2 113 10 rfl).trans (by (try simp only [fl_row_ne, fl_ne, up_row_ne, up_ne, up_eq, up_nk, up_up, up_self, ne_eq, Nat.reduceEqDiff, Int.reduceEq, reduceCtorEq, not_false_eq_true, not_true_eq_false]); exact e10)
      have q11 : s144 113 11 = _ := (p144.2.2 113 11 rfl).trans (by (try simp only [fl_row_ne, fl_ne, up_row_ne, up_ne, up_eq, up_nk, up_up, up_self, ne_eq, Nat.reduceEqDiff, Int.reduceEq, reduceCtorEq, not_false_eq_true, not_true_eq_false]); exact e11)
      have q6 : s144 113 6 = (nm (mv (σ 114)) (bst (mv (σ 114)) (σ 114 1) (rdN (mv (σ 114))).toNat).1).length := p144.1.2.1
      have q117 : rowIs (s144 117) (nm (mv (σ 114)) (bst (mv (σ 114)) (σ 114 1) (rdN (mv (σ 114))).toNat).1) := p144.1.2.2.1
      have hsr := said_r hV (snd_said hb4)
      refine z_if_eq hO 186 dX9_finds_147 (by decide) (by decide) (fun c147 => absurd c147 (by omega)) (fun c147 => ?_)
      refine z_aload_n hO 0 dX9_finds_150 rfl ?_
      refine z_aload_n hO 0 dX9_finds_151 rfl ?_
      refine z_getI hO 6 fl_X9_113 rfl rfl rfl dX9_finds_152 (fun r152 => ?_)
      try simp only [fl_row_ne, fl_ne, up_row_ne, up_ne, up_eq, up_nk, up_up, up_self, ne_eq, Nat.reduceEqDiff, Int.reduceEq, reduceCtorEq, not_false_eq_true, not_true_eq_false, e8, e9, e10, e11, q6] at r152 ⊢
      refine z_putI hO 13 fp_X9_151 rfl rfl rfl (by omega) rfl rfl dX9_finds_155 ?_
      refine z_iconst hO dX9_finds_158 ?_
      refine z_istore_n hO (L' := [(2, _), (0, _), (1, _)]) dX9_finds_159 (by decide) rfl ?_
      refine z_pick [1, 0] rfl (lp_finds2 hO hR 9 0 _ (by simp only [fl_row_ne, fl_ne, up_row_ne, up_ne, up_eq, up_nk, up_up, up_self, ne_eq, Nat.reduceEqDiff, Int.reduceEq, reduceCtorEq, not_false_eq_true, not_true_eq_false, q6]; omega) (by simp only [fl_row_ne, fl_ne, up_row_ne, up_ne, up_eq, up_nk, up_up, up_self, ne_eq, Nat.reduceEqDiff, Int.reduceEq, reduceCtorEq, not_false_eq_true, not_true_eq_false, q6]; omega) (by simp only [fl_row_ne, fl_ne, up_row_ne, up_ne, up_eq, up_nk, up_up, up_self, ne_eq, Nat.reduceEqDiff, Int.reduceEq, reduceCtorEq, not_false_eq_true, not_true_eq_false, q6]; omega) (fun τ' z1 z2 => ⟨⟨?_, ?_, ?_, ?_, ?_, ?_⟩, ?_⟩))
      · rw [z2 113 8 (by decide)]; simp only [fl_row_ne, fl_ne, up_row_ne, up_ne, up_eq, up_nk, up_up, up_self, ne_eq, Nat.reduceEqDiff, Int.reduceEq, reduceCtorEq, not_false_eq_true, not_true_eq_false]; exact q8
      · rw [z2 113 9 (by decide)]; simp only [fl_row_ne, fl_ne, up_row_ne, up_ne, up_eq, up_nk, up_up, up_self, ne_eq, Nat.reduceEqDiff, Int.reduceEq, reduceCtorEq, not_false_eq_true, not_true_eq_false]; exact q9
      · rw [z2 113 10 (by decide)]; simp only [fl_row_ne, fl_ne, up_row_ne, up_ne, up_eq, up_nk, up_up, up_self, ne_eq, Nat.reduceEqDiff, Int.reduceEq, reduceCtorEq, not_false_eq_true, not_true_eq_false]; exact q10
      · rw [z2 113 11 (by decide)]; simp only [fl_row_ne, fl_ne, up_row_ne, up_ne, up_eq, up_nk, up_up, up_self, ne_eq, Nat.reduceEqDiff, Int.reduceEq, reduceCtorEq, not_false_eq_true, not_true_eq_false]; exact q11
      · intro q; exact absurd q c136
      · intro _; refine ⟨by rw [z2 113 13 (by decide)]; simp only [fl_row_ne, fl_ne, up_row_ne, up_ne, up_eq, up_nk, up_up, up_self, ne_eq, Nat.reduceEqDiff, Int.reduceEq, reduceCtorEq, not_false_eq_true, not_true_eq_false], fun j hj => ?_⟩
        rw [z1 j (by omega) (by simp only [fl_row_ne, fl_ne, up_row_ne, up_ne, up_eq, up_nk, up_up, up_self, ne_eq, Nat.reduceEqDiff, Int.reduceEq, reduceCtorEq, not_false_eq_true, not_true_eq_false, q6]; omega)]; simp only [fl_row_ne, fl_ne, up_row_ne, up_ne, up_eq, up_nk, up_up, up_self, ne_eq, Nat.reduceEqDiff, Int.reduceEq, reduceCtorEq, not_false_eq_true, not_true_eq_false]; exact q117 j hj
      · intro c k hf
        rw [z2 c k (Or.inl (by rintro rfl; cases (show true = false from hf)))]
        exact (((hFm.up (c := 113) (k := 13) rfl).trans (p144.2.2.mono fTk_Fd)).up (c := 113) (k := 13) rfl) c k hf
    ·
      simp only [fl_row_ne, fl_ne, up_row_ne, up_ne, up_eq, up_nk, up_up, up_self, ne_eq, Nat.reduceEqDiff, Int.reduceEq, reduceCtorEq, not_false_eq_true, not_true_eq_false] at p144
      rw [e114] at p144
      have q8 : s144 113 8 = _ := (p144.2.2 113 8 rfl).trans (by (try simp only [fl_row_ne, fl_ne, up_row_ne, up_ne, up_eq, up_nk, up_up, up_self, ne_eq, Nat.reduceEqDiff, Int.reduceEq, reduceCtorEq, not_false_eq_true, not_true_eq_false]); exact e8)
      have q9 : s144 113 9 = _ := (p144.2.2 113 9 rfl).trans (by (try simp only [fl_row_ne, fl_ne, up_row_ne, up_ne, up_eq, up_nk, up_up, up_self, ne_eq, Nat.reduceEqDiff, Int.reduceEq, reduceCtorEq, not_false_eq_true, not_true_eq_false]); exact e9)
      have q10 : s144 113 10 = _ := (p144.2.2 113 10 rfl).trans (by (try simp only [fl_row_ne, fl_ne, up_row_ne, up_ne, up_eq, up_nk, up_up, up_self, ne_eq, Nat.reduceEqDiff, Int.reduceEq, reduceCtorEq, not_false_eq_true, not_true_eq_false]); exact e10)
      have q11 : s144 113 11 = _ := (p144.2.2 113 11 rfl).trans (by (try simp only [fl_row_ne, fl_ne, up_row_ne, up_ne, up_eq, up_nk, up_up, up_self, ne_eq, Nat.reduceEqDiff, Int.reduceEq, reduceCtorEq, not_false_eq_true, not_true_eq_false]); exact e11)
      exfalso; have := snd_said hb4; have h2 : said (mv (σ 114)) (bst (mv (σ 114)) (σ 114 1) (rdN (mv (σ 114))).toNat).1 = false := p144.1.1.symm; rw [h2] at this; cases this

set_option maxHeartbeats 4000000 in
set_option maxRecDepth 100000 in
theorem t_X9_finds {g : G} {σ : Sg} (hV : WV (mv (σ 114))) : MM g mX9_finds [.ref (g.2.2.1 113)] σ (pV (fun σ' => fdQ (mv (σ 114)) (σ 114 1) σ' ∧ Fm fFd σ σ')) := by
  refine mm_of rfl (by decide) rfl rfl (Nat.le_of_ble_eq_true rfl) (fun x hO hR => ?_)
  refine z_aload_n hO 0 dX9_finds_0 rfl ?_
  refine z_iconst hO dX9_finds_1 ?_
  refine z_putI hO 8 fp_X9_129 rfl rfl rfl (by omega) rfl rfl dX9_finds_2 ?_
  refine z_aload_n hO 0 dX9_finds_5 rfl ?_
  refine z_iconst hO dX9_finds_6 ?_
  refine z_putI hO 9 fp_X9_132 rfl rfl rfl (by omega) rfl rfl dX9_finds_7 ?_
  refine z_aload_n hO 0 dX9_finds_10 rfl ?_
  refine z_bipush hO dX9_finds_11 (by decide) ?_
  refine z_putI hO 10 fp_X9_135 rfl rfl rfl (by omega) rfl rfl dX9_finds_13 ?_
  refine z_aload_n hO 0 dX9_finds_16 rfl ?_
  refine z_sipush hO dX9_finds_17 (by decide) ?_
  refine z_putI hO 11 fp_X9_138 rfl rfl rfl (by omega) rfl rfl dX9_finds_20 ?_
  refine z_aload_n hO 0 dX9_finds_23 rfl ?_
  refine z_cvE hO (t_X9_readings (by simp only [fl_row_ne, fl_ne, up_row_ne, up_ne, up_eq, up_nk, up_up, up_self, ne_eq, Nat.reduceEqDiff, Int.reduceEq, reduceCtorEq, not_false_eq_true, not_true_eq_false]; exact hV)) cv_X9_141 rfl rfl rfl rfl (by decide) (Nat.le_of_ble_eq_true rfl) dX9_finds_24 ?_
  try simp only [fl_row_ne, fl_ne, up_row_ne, up_ne, up_eq, up_nk, up_up, up_self, ne_eq, Nat.reduceEqDiff, Int.reduceEq, reduceCtorEq, not_false_eq_true, not_true_eq_false]
  refine z_istore_n hO (L' := [(1, _), (0, _)]) dX9_finds_27 (by decide) rfl ?_
  refine z_iconst hO dX9_finds_28 ?_
  refine z_istore_n hO (L' := [(2, _), (1, _), (0, _)]) dX9_finds_29 (by decide) rfl ?_
  exact z_pick [2, 1, 0] rfl (lp_finds (σ := σ) hO hR hV (lp_finds3 hO hR hV) 65537 0 _ (by have := rdN_r hV; omega) (by have := rdN_r hV; omega) (by simp only [fl_row_ne, fl_ne, up_row_ne, up_ne, up_eq, up_nk, up_up, up_self, ne_eq, Nat.reduceEqDiff, Int.reduceEq, reduceCtorEq, not_false_eq_true, not_true_eq_false]; rfl) (by simp only [fl_row_ne, fl_ne, up_row_ne, up_ne, up_eq, up_nk, up_up, up_self, ne_eq, Nat.reduceEqDiff, Int.reduceEq, reduceCtorEq, not_false_eq_true, not_true_eq_false]; rfl) (by simp only [fl_row_ne, fl_ne, up_row_ne, up_ne, up_eq, up_nk, up_up, up_self, ne_eq, Nat.reduceEqDiff, Int.reduceEq, reduceCtorEq, not_false_eq_true, not_true_eq_false]; rfl) (by simp only [fl_row_ne, fl_ne, up_row_ne, up_ne, up_eq, up_nk, up_up, up_self, ne_eq, Nat.reduceEqDiff, Int.reduceEq, reduceCtorEq, not_false_eq_true, not_true_eq_false]; rfl) ((((Fm.rf.up rfl).up rfl).up rfl).up rfl))
