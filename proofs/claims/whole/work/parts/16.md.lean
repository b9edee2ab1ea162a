/-! ===== slots as they are seen: how many; of each how many candidates; their words, their costs ===== -/
abbrev Hv : Type := Int × (Int → Int) × (Int → Int → Int) × (Int → Int → Int)
def mv (N : Int → Int) : Hv := (N 0, fun i => N (4 + 9 * i), fun i k => N (4 + 9 * i + 1 + k), fun i k => N (4 + 9 * i + 5 + k))
def WV (V : Hv) : Prop := 0 ≤ V.1 ∧ V.1 ≤ 8 ∧ ∀ i, 0 ≤ i → i < V.1 → (1 ≤ V.2.1 i ∧ V.2.1 i ≤ 4 ∧ ∀ k, 0 ≤ k → k < V.2.1 i → 0 ≤ V.2.2.1 i k ∧ V.2.2.1 i k ≤ 31 ∧ 0 ≤ V.2.2.2 i k ∧ V.2.2.2 i k ≤ 9)
/-- picks that there are -/
def WP (V : Hv) (p : Int → Int) : Prop := ∀ i, 0 ≤ i → i < V.1 → 0 ≤ p i ∧ p i < V.2.1 i
def rowIs (r : Int → Int) (l : List Int) : Prop := ∀ (j : Nat) (h : j < l.length), r j = l[j]
def whl (l : List Int) (i : Int) : Int := if 0 ≤ i ∧ i < l.length then l.getD i.toNat 0 else -4
theorem whl_eq {r : Int → Int} {l : List Int} (h : rowIs r l) : wh r l.length = whl l := by
  funext i
  unfold wh whl
  by_cases q : 0 ≤ i ∧ i < l.length
  · rw [if_pos q, if_pos q]
    have := h i.toNat (by omega)
    rw [List.getD_eq_getElem?_getD, List.getElem?_eq_getElem (by omega), ← show r i = l[i.toNat]'(by omega) by rw [← this]; congr 1; omega]
    rfl
  · rw [if_neg q, if_neg q]
theorem whl_PF {l : List Int} (h : l.length ≤ 8) (hl : ∀ v ∈ l, 0 ≤ v ∧ v ≤ 31) : PF (whl l) l.length := by
  refine ⟨by omega, by omega, fun i h0 h1 => ?_, fun i hi => ?_⟩
  · unfold whl
    rw [if_pos ⟨h0, h1⟩, List.getD_eq_getElem?_getD, List.getElem?_eq_getElem (by omega)]
    exact hl _ (List.getElem_mem _)
  · unfold whl
    rw [if_neg (by omega)]
/-- the words of the first slots, noise left out; their costs -/
def lstW (V : Hv) (p : Int → Int) : Nat → List Int
  | 0 => []
  | m + 1 => lstW V p m ++ (if V.2.2.1 m (p m) = 0 then [] else [V.2.2.1 m (p m)])
def sumC (V : Hv) (p : Int → Int) : Nat → Int
  | 0 => 0
  | m + 1 => sumC V p m + V.2.2.2 m (p m)
theorem lstW_s (V : Hv) (p : Int → Int) (m : Nat) : lstW V p (m + 1) = lstW V p m ++ (if V.2.2.1 m (p m) = 0 then [] else [V.2.2.1 m (p m)]) := rfl
theorem sumC_s (V : Hv) (p : Int → Int) (m : Nat) : sumC V p (m + 1) = sumC V p m + V.2.2.2 m (p m) := rfl
theorem mv_n (N : Int → Int) : (mv N).1 = N 0 := rfl
theorem mv_c (N : Int → Int) (i : Int) : (mv N).2.1 i = N (4 + 9 * i) := rfl
theorem mv_w (N : Int → Int) (i k : Int) : (mv N).2.2.1 i k = N (4 + 9 * i + 1 + k) := rfl
theorem mv_q (N : Int → Int) (i k : Int) : (mv N).2.2.2 i k = N (4 + 9 * i + 5 + k) := rfl
theorem lstW_len (V : Hv) (p : Int → Int) (m : Nat) : (lstW V p m).length ≤ m := by
  induction m with
  | zero => exact Nat.le_refl 0
  | succ m ih =>
    unfold lstW
    rw [List.length_append]
    split <;> simp only [List.length_nil, List.length_cons] <;> omega
theorem lstW_mem {V : Hv} {p : Int → Int} (hV : WV V) (hp : WP V p) (m : Nat) (hm : (m : Int) ≤ V.1) : ∀ v ∈ lstW V p m, 0 ≤ v ∧ v ≤ 31 := by
  induction m with
  | zero => intro v h; cases h
  | succ m ih =>
    intro v h
    unfold lstW at h
    rcases List.mem_append.mp h with h | h
    · exact ih (by omega) v h
    · split at h
      · cases h
      · have := List.mem_singleton.mp h
        have a := hp m (by omega) (by omega)
        have b := (hV.2.2 m (by omega) (by omega)).2.2 (p m) a.1 a.2
        omega
theorem sumC_r {V : Hv} {p : Int → Int} (hV : WV V) (hp : WP V p) (m : Nat) (hm : (m : Int) ≤ V.1) : 0 ≤ sumC V p m ∧ sumC V p m ≤ 9 * m := by
  induction m with
  | zero => exact ⟨Int.le_refl 0, Int.le_refl 0⟩
  | succ m ih =>
    have a := hp m (by omega) (by omega)
    have b := (hV.2.2 m (by omega) (by omega)).2.2 (p m) a.1 a.2
    have c := ih (by omega)
    unfold sumC; omega
theorem rowIs_snoc {r r' : Int → Int} {l : List Int} {v : Int} (h : rowIs r l) (hr : ∀ j : Int, j < l.length → r' j = r j) (hv : r' l.length = v) : rowIs r' (l ++ [v]) := by
  intro j hj
  rw [List.length_append, List.length_singleton] at hj
  by_cases q : j < l.length
  · rw [List.getElem_append_left q, hr _ (by omega)]; exact h j q
  · have e : j = l.length := by omega
    subst e
    rw [List.getElem_append_right (Nat.le_refl _)]; simp [hv]
theorem rowIs_keep {r r' : Int → Int} {l : List Int} (h : rowIs r l) (hr : ∀ j : Int, 0 ≤ j → j < l.length → r' j = r j) : rowIs r' l := fun j hj => by rw [hr _ (by omega) (by omega)]; exact h j hj
def fTW : Nat → Int → Bool := fun c k => c == 116 || (c == 113 && (k == 3 || k == 4))
def fTP : Nat → Int → Bool := fun c k => c == 116 || c == 117 || (c == 113 && (k == 3 || k == 4 || k == 6 || k == 7))
/-- numbers of the reading that takes these, and whether it is said -/
def sdP (V : Hv) (p : Int → Int) : List Int × Bool := sdF (whl (lstW V p V.1.toNat)) (lstW V p V.1.toNat).length 9 0
def tpQ (V : Hv) (p : Int → Int) (σ' : Sg) (b : Bool) : Prop := b = (sdP V p).2 ∧ σ' 113 6 = (sdP V p).1.length ∧ rowIs (σ' 117) (sdP V p).1 ∧ σ' 113 4 = sumC V p V.1.toNat
theorem fTW_TP : ∀ c k, fTP c k = false → fTW c k = false := by
  intro c k h; simp only [fTP, fTW, Bool.or_eq_false_iff, Bool.and_eq_false_iff] at h ⊢; exact ⟨h.1.1, by rcases h.2 with q | q; exact Or.inl q; exact Or.inr q.1.1⟩
theorem fSaid_TP : ∀ c k, fTP c k = false → fSaid c k = false := by
  intro c k h; simp only [fTP, fSaid, Bool.or_eq_false_iff, Bool.and_eq_false_iff] at h ⊢; exact ⟨h.1.2, by rcases h.2 with q | q; exact Or.inl q; exact Or.inr ⟨q.1.2, q.2⟩⟩

theorem tp_end {V : Hv} {p : Int → Int} {τ τ' : Sg} {b : Bool} {i : Nat} (h4 : τ 113 4 = sumC V p i) (hi : i = V.1.toNat) (q : sdQ (up (up τ 113 7 0) 113 6 0) τ' (sdF (whl (lstW V p V.1.toNat)) (lstW V p V.1.toNat).length 9 0) b) : tpQ V p τ' b := by
  obtain ⟨q1, q2, q3, q4, q5⟩ := q
  simp only [up_eq] at q2 q3
  refine ⟨q1, by rw [q2]; unfold sdP; omega, fun j hj => ?_, ?_⟩
  · have := q3 j hj
    rw [show (0 : Int) + (j : Int) = (j : Int) by omega] at this; exact this
  · have := q5 113 4 rfl
    rw [this, up_nk (by decide), up_nk (by decide), h4, hi]

set_option maxHeartbeats 4000000 in
set_option maxRecDepth 100000 in
theorem lp_takesPicked {g : G} {x : Cx} {σ : Sg} {P : Bool → Sg → Prop} (hO : Ok g x RX9 cX9_takesPicked 3 8) (hR : Rt g x (some .boolean) (pB P)) (hV : WV (mv (σ 114))) (hp : WP (mv (σ 114)) (σ 115)) (hP : ∀ b τ', tpQ (mv (σ 114)) (σ 115) τ' b → Fm fTP σ τ' → P b τ') : ∀ (k i : Nat) (τ : Sg), (i : Int) ≤ σ 114 0 → σ 114 0 - i < k → τ 113 3 = (lstW (mv (σ 114)) (σ 115) i).length → rowIs (τ 116) (lstW (mv (σ 114)) (σ 115) i) → τ 113 4 = sumC (mv (σ 114)) (σ 115) i → Fm fTW σ τ → Z g x 3 12 [(0, .ref (g.2.2.1 113)), (1, vI i)] [] τ := by
  have hn := hV.2.1
  rw [mv_n] at hn
  intro k
  induction k with
  | zero => intro i τ hi hk; exfalso; omega
  | succ k ih =>
    intro i τ hi hk e3 hrow e4 hFm
    have e114 : τ 114 = σ 114 := hFm.row 114 (fun _ => rfl)
    have e115 : τ 115 = σ 115 := hFm.row 115 (fun _ => rfl)
    have hsc := sumC_r hV hp i (show (i : Int) ≤ σ 114 0 by omega)
    refine z_iload_n hO 1 dX9_takesPicked_12 rfl ?_
    refine z_aload_n hO 0 dX9_takesPicked_13 rfl ?_
    refine z_getR hO (114) fl_X9_7 rfl rfl dX9_takesPicked_14 ?_
    refine z_iconst hO dX9_takesPicked_17 ?_
    refine z_iald hO rfl (by omega) (by decide) dX9_takesPicked_18 (fun r18 => ?_)
    try simp only [fl_row_ne, fl_ne, up_row_ne, up_ne, up_eq, up_nk, up_up, up_self, ne_eq, Nat.reduceEqDiff, Int.reduceEq, reduceCtorEq, not_false_eq_true, not_true_eq_false, e114, e115, e3, e4] at r18 ⊢
    refine z_icmp_ge hO 100 dX9_takesPicked_19 (by decide) (by omega) (by omega) (fun c19 => ?_) (fun c19 => ?_)
    ·
      have hi : i = (σ 114 0).toNat := by omega
      have hl0 := lstW_len (mv (σ 114)) (σ 115) i
      have ew : wh (τ 116) (τ 113 3) = whl (lstW (mv (σ 114)) (σ 115) i) := by rw [e3]; exact whl_eq hrow
      refine z_aload_n hO 0 dX9_takesPicked_100 rfl ?_
      refine z_cvB hO (t_X9_isSaid (by rw [ew, e3]; exact whl_PF (by omega) (lstW_mem hV hp i (show (i : Int) ≤ σ 114 0 by omega)))) cv_X9_126 rfl rfl rfl rfl (by decide) (Nat.le_of_ble_eq_true rfl) dX9_takesPicked_101 (fun s101 p101 => ?_) (fun s101 p101 => ?_)
      ·
        exact z_retT hO hR dX9_takesPicked_104 (hP _ _ (by rw [ew, e3, hi] at p101; exact tp_end e4 hi p101) ((hFm.mono fTW_TP).trans (((Fm.rf.up rfl).up rfl).trans (p101.2.2.2.2.mono fSaid_TP))))
      ·
        exact z_retF hO hR dX9_takesPicked_104 (hP _ _ (by rw [ew, e3, hi] at p101; exact tp_end e4 hi p101) ((hFm.mono fTW_TP).trans (((Fm.rf.up rfl).up rfl).trans (p101.2.2.2.2.mono fSaid_TP))))
    ·
      have hW := hV.2.2 i (by omega) (show (i : Int) < σ 114 0 by omega)
      have hQ := hp i (by omega) (show (i : Int) < σ 114 0 by omega)
      have hX := hW.2.2 (σ 115 i) hQ.1 hQ.2
      have hl0 := lstW_len (mv (σ 114)) (σ 115) i
      simp only [mv_c, mv_w, mv_q] at hW hQ hX
      refine z_aload_n hO 0 dX9_takesPicked_22 rfl ?_
      refine z_getR hO (114) fl_X9_7 rfl rfl dX9_takesPicked_23 ?_
      refine z_aload_n hO 0 dX9_takesPicked_26 rfl ?_
      refine z_iload_n hO 1 dX9_takesPicked_27 rfl ?_
      refine z_cvE hO (t_X9_at) cv_X9_79 rfl rfl rfl rfl (by decide) (Nat.le_of_ble_eq_true rfl) dX9_takesPicked_28 ?_
      try simp only [fl_row_ne, fl_ne, up_row_ne, up_ne, up_eq, up_nk, up_up, up_self, ne_eq, Nat.reduceEqDiff, Int.reduceEq, reduceCtorEq, not_false_eq_true, not_true_eq_false, e114, e115, e3, e4]
      refine z_iconst hO dX9_takesPicked_31 ?_
      refine z_iadd hO dX9_takesPicked_32 ?_
      refine z_aload_n hO 0 dX9_takesPicked_33 rfl ?_
      refine z_getR hO (115) fl_X9_13 rfl rfl dX9_takesPicked_34 ?_
      refine z_iload_n hO 1 dX9_takesPicked_37 rfl ?_
      refine z_iald hO rfl (by omega) (by decide) dX9_takesPicked_38 (fun r38 => ?_)
      try simp only [fl_row_ne, fl_ne, up_row_ne, up_ne, up_eq, up_nk, up_up, up_self, ne_eq, Nat.reduceEqDiff, Int.reduceEq, reduceCtorEq, not_false_eq_true, not_true_eq_false, e114, e115, e3, e4] at r38 ⊢
      refine z_iadd hO dX9_takesPicked_39 ?_
      refine z_iald hO rfl (by omega) (by decide) dX9_takesPicked_40 (fun r40 => ?_)
      try simp only [fl_row_ne, fl_ne, up_row_ne, up_ne, up_eq, up_nk, up_up, up_self, ne_eq, Nat.reduceEqDiff, Int.reduceEq, reduceCtorEq, not_false_eq_true, not_true_eq_false, e114, e115, e3, e4] at r40 ⊢
      refine z_istore_n hO (L' := [(2, _), (0, _), (1, _)]) dX9_takesPicked_41 (by decide) rfl ?_
      refine z_aload_n hO 1 dX9_takesPicked_42 rfl ?_
      refine z_dup hO dX9_takesPicked_43 rfl ?_
      refine z_getI hO 4 fl_X9_123 rfl rfl rfl dX9_takesPicked_44 (fun r44 => ?_)
      try simp only [fl_row_ne, fl_ne, up_row_ne, up_ne, up_eq, up_nk, up_up, up_self, ne_eq, Nat.reduceEqDiff, Int.reduceEq, reduceCtorEq, not_false_eq_true, not_true_eq_false, e114, e115, e3, e4] at r44 ⊢
      refine z_aload_n hO 1 dX9_takesPicked_47 rfl ?_
      refine z_getR hO (114) fl_X9_7 rfl rfl dX9_takesPicked_48 ?_
      refine z_aload_n hO 1 dX9_takesPicked_51 rfl ?_
      refine z_iload_n hO 2 dX9_takesPicked_52 rfl ?_
      refine z_cvE hO (t_X9_at) cv_X9_79 rfl rfl rfl rfl (by decide) (Nat.le_of_ble_eq_true rfl) dX9_takesPicked_53 ?_
      try simp only [fl_row_ne, fl_ne, up_row_ne, up_ne, up_eq, up_nk, up_up, up_self, ne_eq, Nat.reduceEqDiff, Int.reduceEq, reduceCtorEq, not_false_eq_true, not_true_eq_false, e114, e115, e3, e4]
      refine z_iconst hO dX9_takesPicked_56 ?_
      refine z_iadd hO dX9_takesPicked_57 ?_
      refine z_aload_n hO 1 dX9_takesPicked_58 rfl ?_
      refine z_getR hO (115) fl_X9_13 rfl rfl dX9_takesPicked_59 ?_
      refine z_iload_n hO 2 dX9_takesPicked_62 rfl ?_
      refine z_iald hO rfl (by omega) (by decide) dX9_takesPicked_63 (fun r63 => ?_)
      try simp only [fl_row_ne, fl_ne, up_row_ne, up_ne, up_eq, up_nk, up_up, up_self, ne_eq, Nat.reduceEqDiff, Int.reduceEq, reduceCtorEq, not_false_eq_true, not_true_eq_false, e114, e115, e3, e4] at r63 ⊢
      refine z_iadd hO dX9_takesPicked_64 ?_
      refine z_iald hO rfl (by omega) (by decide) dX9_takesPicked_65 (fun r65 => ?_)
      try simp only [fl_row_ne, fl_ne, up_row_ne, up_ne, up_eq, up_nk, up_up, up_self, ne_eq, Nat.reduceEqDiff, Int.reduceEq, reduceCtorEq, not_false_eq_true, not_true_eq_false, e114, e115, e3, e4] at r65 ⊢
      refine z_iadd hO dX9_takesPicked_66 ?_
      refine z_putI hO 4 fp_X9_123 rfl rfl rfl (by omega) rfl rfl dX9_takesPicked_67 ?_
      refine z_iload_n hO 0 dX9_takesPicked_70 rfl ?_
      refine z_if_eq hO 94 dX9_takesPicked_71 (by decide) (by omega) (fun c71 => ?_) (fun c71 => ?_)
      ·
        refine z_iinc hO (L' := [(1, _), (2, _), (0, _)]) 2 dX9_takesPicked_94 rfl (by decide) rfl ?_
        refine z_goto hO 12 dX9_takesPicked_97 (by decide) ?_
        refine z_pick [2, 0] rfl (ih (i + 1) _ (by omega) (by omega) ?_ ?_ ?_ ?_)
        · simp only [fl_row_ne, fl_ne, up_row_ne, up_ne, up_eq, up_nk, up_up, up_self, ne_eq, Nat.reduceEqDiff, Int.reduceEq, reduceCtorEq, not_false_eq_true, not_true_eq_false, e3]; rw [lstW_s, mv_w]; first | rw [if_pos (by omega), List.append_nil] | (rw [if_neg (by omega), List.length_append]; simp)
        · rw [lstW_s, mv_w]; first | (rw [if_pos (by omega), List.append_nil]; simp only [fl_row_ne, fl_ne, up_row_ne, up_ne, up_eq, up_nk, up_up, up_self, ne_eq, Nat.reduceEqDiff, Int.reduceEq, reduceCtorEq, not_false_eq_true, not_true_eq_false]; exact hrow) | (rw [if_neg (by omega)]; exact rowIs_snoc hrow (fun j hj => by simp only [fl_row_ne, fl_ne, up_row_ne, up_ne, up_eq, up_nk, up_up, up_self, ne_eq, Nat.reduceEqDiff, Int.reduceEq, reduceCtorEq, not_false_eq_true, not_true_eq_false]; rw [up_nk (by omega)]; try simp only [fl_row_ne, fl_ne, up_row_ne, up_ne, up_eq, up_nk, up_up, up_self, ne_eq, Nat.reduceEqDiff, Int.reduceEq, reduceCtorEq, not_false_eq_true, not_true_eq_false]) (by simp only [fl_row_ne, fl_ne, up_row_ne, up_ne, up_eq, up_nk, up_up, up_self, ne_eq, Nat.reduceEqDiff, Int.reduceEq, reduceCtorEq, not_false_eq_true, not_true_eq_false]))
        · simp only [fl_row_ne, fl_ne, up_row_ne, up_ne, up_eq, up_nk, up_up, up_self, ne_eq, Nat.reduceEqDiff, Int.reduceEq, reduceCtorEq, not_false_eq_true, not_true_eq_false, e4]; rw [sumC_s, mv_q]
        · first | exact hFm.up rfl | exact ((hFm.up rfl).up rfl).up rfl
      ·
        refine z_aload_n hO 1 dX9_takesPicked_74 rfl ?_
        refine z_getR hO (116) fl_X9_16 rfl rfl dX9_takesPicked_75 ?_
        refine z_aload_n hO 1 dX9_takesPicked_78 rfl ?_
        refine z_getI hO 3 fl_X9_86 rfl rfl rfl dX9_takesPicked_79 (fun r79 => ?_)
        try simp only [fl_row_ne, fl_ne, up_row_ne, up_ne, up_eq, up_nk, up_up, up_self, ne_eq, Nat.reduceEqDiff, Int.reduceEq, reduceCtorEq, not_false_eq_true, not_true_eq_false, e114, e115, e3, e4] at r79 ⊢
        refine z_iload_n hO 0 dX9_takesPicked_82 rfl ?_
        refine z_iast hO rfl (by omega) (by decide) (by omega) dX9_takesPicked_83 ?_
        refine z_aload_n hO 1 dX9_takesPicked_84 rfl ?_
        refine z_dup hO dX9_takesPicked_85 rfl ?_
        refine z_getI hO 3 fl_X9_86 rfl rfl rfl dX9_takesPicked_86 (fun r86 => ?_)
        try simp only [fl_row_ne, fl_ne, up_row_ne, up_ne, up_eq, up_nk, up_up, up_self, ne_eq, Nat.reduceEqDiff, Int.reduceEq, reduceCtorEq, not_false_eq_true, not_true_eq_false, e114, e115, e3, e4] at r86 ⊢
        refine z_iconst hO dX9_takesPicked_89 ?_
        refine z_iadd hO dX9_takesPicked_90 ?_
        refine z_putI hO 3 fp_X9_86 rfl rfl rfl (by omega) rfl rfl dX9_takesPicked_91 ?_
        refine z_iinc hO (L' := [(1, _), (2, _), (0, _)]) 2 dX9_takesPicked_94 rfl (by decide) rfl ?_
        refine z_goto hO 12 dX9_takesPicked_97 (by decide) ?_
        refine z_pick [2, 0] rfl (ih (i + 1) _ (by omega) (by omega) ?_ ?_ ?_ ?_)
        · simp only [fl_row_ne, fl_ne, up_row_ne, up_ne, up_eq, up_nk, up_up, up_self, ne_eq, Nat.reduceEqDiff, Int.reduceEq, reduceCtorEq, not_false_eq_true, not_true_eq_false, e3]; rw [lstW_s, mv_w]; first | rw [if_pos (by omega), List.append_nil] | (rw [if_neg (by omega), List.length_append]; simp)
        · rw [lstW_s, mv_w]; first | (rw [if_pos (by omega), List.append_nil]; simp only [fl_row_ne, fl_ne, up_row_ne, up_ne, up_eq, up_nk, up_up, up_self, ne_eq, Nat.reduceEqDiff, Int.reduceEq, reduceCtorEq, not_false_eq_true, not_true_eq_false]; exact hrow) | (rw [if_neg (by omega)]; exact rowIs_snoc hrow (fun j hj => by simp only [fl_row_ne, fl_ne, up_row_ne, up_ne, up_eq, up_nk, up_up, up_self, ne_eq, Nat.reduceEqDiff, Int.reduceEq, reduceCtorEq, not_false_eq_true, not_true_eq_false]; rw [up_nk (by omega)]; try simp only [fl_row_ne, fl_ne, up_row_ne, up_ne, up_eq, up_nk, up_up, up_self, ne_eq, Nat.reduceEqDiff, Int.reduceEq, reduceCtorEq, not_false_eq_true, not_true_eq_false]) (by simp only [fl_row_ne, fl_ne, up_row_ne, up_ne, up_eq, up_nk, up_up, up_self, ne_eq, Nat.reduceEqDiff, Int.reduceEq, reduceCtorEq, not_false_eq_true, not_true_eq_false]))
        · simp only [fl_row_ne, fl_ne, up_row_ne, up_ne, up_eq, up_nk, up_up, up_self, ne_eq, Nat.reduceEqDiff, Int.reduceEq, reduceCtorEq, not_false_eq_true, not_true_eq_false, e4]; rw [sumC_s, mv_q]
        · first | exact hFm.up rfl | exact ((hFm.up rfl).up rfl).up rfl

set_option maxHeartbeats 4000000 in
set_option maxRecDepth 100000 in
theorem t_X9_takesPicked {g : G} {σ : Sg} (hV : WV (mv (σ 114))) (hp : WP (mv (σ 114)) (σ 115)) : MM g mX9_takesPicked [.ref (g.2.2.1 113)] σ (pB (fun b σ' => tpQ (mv (σ 114)) (σ 115) σ' b ∧ Fm fTP σ σ')) := by
  refine mm_of rfl (by decide) rfl rfl (Nat.le_of_ble_eq_true rfl) (fun x hO hR => ?_)
  refine z_aload_n hO 0 dX9_takesPicked_0 rfl ?_
  refine z_iconst hO dX9_takesPicked_1 ?_
  refine z_putI hO 3 fp_X9_86 rfl rfl rfl (by omega) rfl rfl dX9_takesPicked_2 ?_
  refine z_aload_n hO 0 dX9_takesPicked_5 rfl ?_
  refine z_iconst hO dX9_takesPicked_6 ?_
  refine z_putI hO 4 fp_X9_123 rfl rfl rfl (by omega) rfl rfl dX9_takesPicked_7 ?_
  refine z_iconst hO dX9_takesPicked_10 ?_
  refine z_istore_n hO (L' := [(1, _), (0, _)]) dX9_takesPicked_11 (by decide) rfl ?_
  exact z_pick [1, 0] rfl (lp_takesPicked (σ := σ) hO hR hV hp (fun b τ' q1 q2 => ⟨q1, q2⟩) 9 0 _ hV.1 (by have := hV.2.1; rw [mv_n] at this; omega) (by simp only [fl_row_ne, fl_ne, up_row_ne, up_ne, up_eq, up_nk, up_up, up_self, ne_eq, Nat.reduceEqDiff, Int.reduceEq, reduceCtorEq, not_false_eq_true, not_true_eq_false]; rfl) (fun j hj => absurd hj (Nat.not_lt_zero j)) (by simp only [fl_row_ne, fl_ne, up_row_ne, up_ne, up_eq, up_nk, up_up, up_self, ne_eq, Nat.reduceEqDiff, Int.reduceEq, reduceCtorEq, not_false_eq_true, not_true_eq_false]; rfl) ((Fm.rf.up rfl).up rfl))
