def fTx : Nat → Int → Bool := fun c k => c == 125 || (c == 113 && (k == 23 || k == 24))
def fWd : Nat → Int → Bool := fun c k => c == 114 || c == 125 || (c == 113 && (k == 23 || k == 24 || k == 29))
theorem fRd_Tx : ∀ c k, fTx c k = false → fRd c k = false := by
  intro c k h; simp only [fTx, fRd, Bool.or_eq_false_iff, Bool.and_eq_false_iff] at h ⊢; exact ⟨h.1, h.2.elim Or.inl (fun q => Or.inr q.2)⟩
theorem fTx_Wd : ∀ c k, fWd c k = false → fTx c k = false := by
  intro c k h; simp only [fTx, fWd, Bool.or_eq_false_iff, Bool.and_eq_false_iff] at h ⊢; exact ⟨h.1.2, h.2.elim Or.inl (fun q => Or.inr q.1)⟩
def rwsQ (r : Int → Int) (l : List (List (Int × Int))) : Prop := ∀ (i : Nat) (h : i < l.length), rdRow r i l[i]
def lenQ (l : List (List (Int × Int))) : Prop := ∀ q ∈ l, 1 ≤ q.length ∧ q.length ≤ 4
theorem rwsQ_snoc {r r' : Int → Int} {l : List (List (Int × Int))} {q : List (Int × Int)} (h : rwsQ r l) (hl : lenQ l) (ho : ∀ j : Int, j < 9 * (l.length : Int) → r' j = r j) (hq : rdRow r' l.length q) : rwsQ r' (l ++ [q]) := by
  intro i hi
  rw [List.length_append, List.length_singleton] at hi
  by_cases e : i < l.length
  · rw [List.getElem_append_left e]
    have a := h i e
    have b := hl _ (List.getElem_mem e)
    refine ⟨by rw [ho _ (by omega)]; exact a.1, fun j hj => ?_⟩
    rw [ho _ (by omega), ho _ (by omega)]; exact a.2 j hj
  · have e2 : i = l.length := by omega
    subst e2
    rw [List.getElem_append_right (Nat.le_refl _)]; simpa using hq
theorem lenQ_snoc {l : List (List (Int × Int))} {q : List (Int × Int)} (h : lenQ l) (hq : 1 ≤ q.length ∧ q.length ≤ 4) : lenQ (l ++ [q]) := by
  intro a ha
  rcases List.mem_append.mp ha with z | z
  · exact h a z
  · rw [List.mem_singleton.mp z]; exact hq

set_option maxHeartbeats 4000000 in
set_option maxRecDepth 100000 in
theorem lp_wordsS {g : G} {x : Cx} {σ : Sg} {P : Int → Sg → Prop} {n : Int} {t : Int → Int} (hO : Ok g x RX9 cX9_words 5 4) (hR : Rt g x (some .int) (pI P)) (hT : TW t n) (k : Nat) (ih : ∀ (m : Nat), k = m + 1 → ∀ (acc : List (List (Int × Int))) (p : Int) (τ : Sg), acc.length + m + 1 = 8 → rwsQ (τ 125) acc → lenQ acc → τ 124 = t → τ 113 23 = n → τ 113 24 = p → 0 ≤ p ∧ p ≤ n → Fm fRd σ τ → (∀ r τ', (wdF t n (m + 1) acc p).1 = false → r = -20 - sk t n (wdF t n (m + 1) acc p).2.2 → τ' 113 23 = 0 → Fm fTx σ τ' → P r τ') → (∀ τ', (wdF t n (m + 1) acc p).1 = true → τ' 113 24 = (wdF t n (m + 1) acc p).2.2 → rwsQ (τ' 125) (wdF t n (m + 1) acc p).2.1 → lenQ (wdF t n (m + 1) acc p).2.1 → Fm fRd σ τ' → Z g x 5 64 [(0, .ref (g.2.2.1 113)), (1, vI (wdF t n (m + 1) acc p).2.1.length)] [] τ') → Z g x 5 20 [(0, .ref (g.2.2.1 113)), (1, vI acc.length), (2, vI 1)] [] τ) : ∀ (acc : List (List (Int × Int))) (p : Int) (τ : Sg), acc.length + k + 1 = 8 → rwsQ (τ 125) acc → lenQ acc → τ 124 = t → τ 113 23 = n → τ 113 24 = p → 0 ≤ p ∧ p ≤ n → Fm fRd σ τ → (∀ r τ', (wdF t n (k + 1) acc p).1 = false → r = -20 - sk t n (wdF t n (k + 1) acc p).2.2 → τ' 113 23 = 0 → Fm fTx σ τ' → P r τ') → (∀ τ', (wdF t n (k + 1) acc p).1 = true → τ' 113 24 = (wdF t n (k + 1) acc p).2.2 → rwsQ (τ' 125) (wdF t n (k + 1) acc p).2.1 → lenQ (wdF t n (k + 1) acc p).2.1 → Fm fRd σ τ' → Z g x 5 64 [(0, .ref (g.2.2.1 113)), (1, vI (wdF t n (k + 1) acc p).2.1.length)] [] τ') → Z g x 5 20 [(0, .ref (g.2.2.1 113)), (1, vI acc.length), (2, vI 1)] [] τ := by
  have hn := hT.1
  intro acc p τ hl hrow hlen e124 e23 e24 hp hFm hPf hE
  obtain ⟨hr1, hr2, hr3, -, -, -, -⟩ := rdF_r hT 4 [] p hp.1 hp.2
  have hr5 := (rdF_r hT 3 [] p hp.1 hp.2).2.2.2.2.1
  have hwd : (wdF t n (k + 1) acc p) = (if (rdF t n 4 [] p).1 = false then (false, acc, (rdF t n 4 [] p).2.2) else if k = 0 then (true, acc ++ [(rdF t n 4 [] p).2.1], (rdF t n 4 [] p).2.2) else if chr t n (sk t n (rdF t n 4 [] p).2.2) = 59 then wdF t n k (acc ++ [(rdF t n 4 [] p).2.1]) (sk t n (rdF t n 4 [] p).2.2 + 1) else (true, acc ++ [(rdF t n 4 [] p).2.1], sk t n (rdF t n 4 [] p).2.2)) := rfl
  have hs9 := sk_r (t := t) hr2
  refine z_iload_n hO 2 dX9_words_20 rfl ?_
  refine z_if_eq hO 64 dX9_words_21 (by decide) (by decide) (fun c21 => absurd c21 (by omega)) (fun c21 => ?_)
  refine z_aload_n hO 0 dX9_words_24 rfl ?_
  refine z_iload_n hO 1 dX9_words_25 rfl ?_
  refine z_cvB hO (t_X9_reads (s := acc.length) (by omega) (by rw [e124, e23]; exact hT) (by rw [e23, e24]; exact hp)) cv_X9_221 rfl rfl rfl rfl (by decide) (Nat.le_of_ble_eq_true rfl) dX9_words_26 (fun s26 p26 => ?_) (fun s26 p26 => ?_)
  ·
    rw [e124, e23, e24] at p26
    obtain ⟨y1, y2, y3, y4, y5⟩ := p26
    have q124 : s26 124 = t := (y5.row 124 (fun _ => rfl)).trans e124
    have q23 : s26 113 23 = n := (y5 113 23 rfl).trans e23
    have hF2 : Fm fRd σ s26 := hFm.trans y5
    have hrw : rwsQ (s26 125) (acc ++ [(rdF t n 4 [] p).2.1]) := rwsQ_snoc hrow hlen (fun j hj => y4 j (Or.inl hj)) (y3 rfl)
    have hln : lenQ (acc ++ [(rdF t n 4 [] p).2.1]) := lenQ_snoc hlen ⟨Nat.succ_le_of_lt (by simpa using hr5 y1.symm), by simpa using hr3⟩
    rw [if_neg (by rw [← y1]; decide)] at hwd
    refine z_if_ne hO 37 dX9_words_29 (by decide) (by decide) (fun c29 => ?_) (fun c29 => absurd c29 (by omega))
    refine z_iinc hO (L' := [(1, _), (0, _), (2, _)]) 1 dX9_words_37 rfl (by decide) rfl ?_
    refine z_iload_n hO 0 dX9_words_40 rfl ?_
    refine z_bipush hO dX9_words_41 (by decide) ?_
    refine z_icmp_ge hO 59 dX9_words_43 (by decide) (by omega) (by decide) (fun c43 => ?_) (fun c43 => ?_)
    ·
      rw [if_pos (by omega)] at hwd
      refine z_iconst hO dX9_words_59 ?_
      refine z_istore_n hO (L' := [(2, _), (1, _), (0, _)]) dX9_words_60 (by decide) rfl ?_
      refine z_goto hO 20 dX9_words_61 (by decide) ?_
      refine z_iload_n hO 0 dX9_words_20 rfl ?_
      refine z_if_eq hO 64 dX9_words_21 (by decide) (by decide) (fun c21 => ?_) (fun c21 => absurd c21 (by omega))
      refine z_pick [2, 1] rfl ?_
      have el : (acc.length : Int) + 1 = ((acc ++ [(rdF t n 4 [] p).2.1]).length : Nat) := by rw [List.length_append, List.length_singleton]; omega
      rw [el]
      have hE2 := hE _ (by rw [hwd]) (by rw [hwd]; first | exact z24 | exact y2) (by rw [hwd]; first | (rw [z125]; exact hrw) | exact hrw) (by rw [hwd]; exact hln)
      rw [hwd] at hE2
      exact hE2 (by first | exact hF3 | exact hF2)
    ·
      rw [if_neg (by omega)] at hwd
      refine z_aload_n hO 1 dX9_words_46 rfl ?_
      refine z_bipush hO dX9_words_47 (by decide) ?_
      refine z_cvB hO (t_X9_has (l := 59) (by decide) (by rw [q124, q23]; exact hT) (by rw [q23, y2]; omega)) cv_X9_218 rfl rfl rfl rfl (by decide) (Nat.le_of_ble_eq_true rfl) dX9_words_49 (fun s49 p49 => ?_) (fun s49 p49 => ?_)
      ·
        rw [q124, q23, y2] at p49
        obtain ⟨k49, e49⟩ := p49.1 rfl
        rw [if_pos k49] at hwd
        have hF3 : Fm fRd σ s49 := by rw [e49]; exact hF2.up rfl
        have z124 : s49 124 = t := by rw [e49]; simp only [fl_row_ne, fl_ne, up_row_ne, up_ne, up_eq, up_nk, up_up, up_self, ne_eq, Nat.reduceEqDiff, Int.reduceEq, reduceCtorEq, not_false_eq_true, not_true_eq_false]; exact q124
        have z23 : s49 113 23 = n := by rw [e49]; simp only [fl_row_ne, fl_ne, up_row_ne, up_ne, up_eq, up_nk, up_up, up_self, ne_eq, Nat.reduceEqDiff, Int.reduceEq, reduceCtorEq, not_false_eq_true, not_true_eq_false]; exact q23
        have z125 : s49 125 = s26 125 := by rw [e49]; simp only [fl_row_ne, fl_ne, up_row_ne, up_ne, up_eq, up_nk, up_up, up_self, ne_eq, Nat.reduceEqDiff, Int.reduceEq, reduceCtorEq, not_false_eq_true, not_true_eq_false]
        have z24 : s49 113 24 = sk t n (rdF t n 4 [] p).2.2 + 1 := by rw [e49]; simp only [fl_row_ne, fl_ne, up_row_ne, up_ne, up_eq, up_nk, up_up, up_self, ne_eq, Nat.reduceEqDiff, Int.reduceEq, reduceCtorEq, not_false_eq_true, not_true_eq_false]
        refine z_if_eq hO 59 dX9_words_52 (by decide) (by decide) (fun c52 => absurd c52 (by omega)) (fun c52 => ?_)
        refine z_iconst hO dX9_words_55 ?_
        refine z_goto hO 60 dX9_words_56 (by decide) ?_
        refine z_istore_n hO (L' := [(2, _), (1, _), (0, _)]) dX9_words_60 (by decide) rfl ?_
        refine z_goto hO 20 dX9_words_61 (by decide) ?_
        refine z_pick [2, 1, 0] rfl ?_
        have el : (acc.length : Int) + 1 = ((acc ++ [(rdF t n 4 [] p).2.1]).length : Nat) := by rw [List.length_append, List.length_singleton]; omega
        rw [el]
        obtain ⟨m, rfl⟩ : ∃ m, k = m + 1 := ⟨k - 1, by omega⟩
        have hc9 := chr_r hT (i := sk t n (rdF t n 4 [] p).2.2) (by omega)
        exact ih m rfl _ _ _ (by rw [List.length_append, List.length_singleton]; omega) (by rw [z125]; exact hrw) hln z124 z23 z24 (by omega) hF3 (fun r τ' a b => hPf r τ' (by rw [hwd]; exact a) (by rw [hwd]; exact b)) (fun τ' a b c d => by have := hE τ' (by rw [hwd]; exact a) (by rw [hwd]; exact b) (by rw [hwd]; exact c) (by rw [hwd]; exact d); rw [hwd] at this; exact this)
      ·
        rw [q124, q23, y2] at p49
        obtain ⟨k49, e49⟩ := p49.2 rfl
        rw [if_neg k49] at hwd
        have hF3 : Fm fRd σ s49 := by rw [e49]; exact hF2.up rfl
        have z125 : s49 125 = s26 125 := by rw [e49]; simp only [fl_row_ne, fl_ne, up_row_ne, up_ne, up_eq, up_nk, up_up, up_self, ne_eq, Nat.reduceEqDiff, Int.reduceEq, reduceCtorEq, not_false_eq_true, not_true_eq_false]
        have z24 : s49 113 24 = sk t n (rdF t n 4 [] p).2.2 := by rw [e49]; simp only [fl_row_ne, fl_ne, up_row_ne, up_ne, up_eq, up_nk, up_up, up_self, ne_eq, Nat.reduceEqDiff, Int.reduceEq, reduceCtorEq, not_false_eq_true, not_true_eq_false]
        refine z_if_eq hO 59 dX9_words_52 (by decide) (by decide) (fun c52 => ?_) (fun c52 => absurd c52 (by omega))
        refine z_iconst hO dX9_words_59 ?_
        refine z_istore_n hO (L' := [(2, _), (1, _), (0, _)]) dX9_words_60 (by decide) rfl ?_
        refine z_goto hO 20 dX9_words_61 (by decide) ?_
        refine z_iload_n hO 0 dX9_words_20 rfl ?_
        refine z_if_eq hO 64 dX9_words_21 (by decide) (by decide) (fun c21 => ?_) (fun c21 => absurd c21 (by omega))
        refine z_pick [2, 1] rfl ?_
        have el : (acc.length : Int) + 1 = ((acc ++ [(rdF t n 4 [] p).2.1]).length : Nat) := by rw [List.length_append, List.length_singleton]; omega
        rw [el]
        have hE2 := hE _ (by rw [hwd]) (by rw [hwd]; first | exact z24 | exact y2) (by rw [hwd]; first | (rw [z125]; exact hrw) | exact hrw) (by rw [hwd]; exact hln)
        rw [hwd] at hE2
        exact hE2 (by first | exact hF3 | exact hF2)
  ·
    rw [e124, e23, e24] at p26
    obtain ⟨y1, y2, y3, y4, y5⟩ := p26
    have q124 : s26 124 = t := (y5.row 124 (fun _ => rfl)).trans e124
    have q23 : s26 113 23 = n := (y5 113 23 rfl).trans e23
    have hF2 : Fm fRd σ s26 := hFm.trans y5
    rw [if_pos y1.symm] at hwd
    refine z_if_ne hO 37 dX9_words_29 (by decide) (by decide) (fun c29 => absurd c29 (by omega)) (fun c29 => ?_)
    refine z_aload_n hO 0 dX9_words_32 rfl ?_
    refine z_cvI hO (t_X9_fault (by rw [q124, q23]; exact hT) (by rw [q23, y2]; omega)) cv_X9_224 rfl rfl rfl rfl (by decide) (Nat.le_of_ble_eq_true rfl) dX9_words_33 (fun v33 s33 p33 => ?_)
    rw [q124, q23, y2] at p33
    obtain ⟨rfl, rfl⟩ := p33
    exact z_retI hO hR dX9_words_36 (hPf _ _ (by rw [hwd]) (by rw [hwd]) up_eq (((hF2.mono fRd_Tx).up rfl).up rfl))

theorem lp_words {g : G} {x : Cx} {σ : Sg} {P : Int → Sg → Prop} {n : Int} {t : Int → Int} (hO : Ok g x RX9 cX9_words 5 4) (hR : Rt g x (some .int) (pI P)) (hT : TW t n) : ∀ (k : Nat), ∀ (acc : List (List (Int × Int))) (p : Int) (τ : Sg), acc.length + k + 1 = 8 → rwsQ (τ 125) acc → lenQ acc → τ 124 = t → τ 113 23 = n → τ 113 24 = p → 0 ≤ p ∧ p ≤ n → Fm fRd σ τ → (∀ r τ', (wdF t n (k + 1) acc p).1 = false → r = -20 - sk t n (wdF t n (k + 1) acc p).2.2 → τ' 113 23 = 0 → Fm fTx σ τ' → P r τ') → (∀ τ', (wdF t n (k + 1) acc p).1 = true → τ' 113 24 = (wdF t n (k + 1) acc p).2.2 → rwsQ (τ' 125) (wdF t n (k + 1) acc p).2.1 → lenQ (wdF t n (k + 1) acc p).2.1 → Fm fRd σ τ' → Z g x 5 64 [(0, .ref (g.2.2.1 113)), (1, vI (wdF t n (k + 1) acc p).2.1.length)] [] τ') → Z g x 5 20 [(0, .ref (g.2.2.1 113)), (1, vI acc.length), (2, vI 1)] [] τ := by
  intro k
  induction k with
  | zero => exact lp_wordsS hO hR hT 0 (fun m h => absurd h (by omega))
  | succ k ih => exact lp_wordsS hO hR hT (k + 1) (fun m h => by obtain rfl : m = k := (by omega); exact ih)
