set_option maxHeartbeats 4000000 in
set_option maxRecDepth 100000 in
theorem t_X9_in {g : G} {σ : Sg} {v lo hi : Int} (rv : -9223372036854775808 ≤ v ∧ v ≤ 9223372036854775807) (rl : -9223372036854775808 ≤ lo ∧ lo ≤ 9223372036854775807) (rh : -9223372036854775808 ≤ hi ∧ hi ≤ 9223372036854775807) : MM g mX9_in [vL v, vL lo, vL hi] σ (pB (pQ (lo ≤ v ∧ v ≤ hi) σ)) := by
  refine mm_of rfl (by decide) rfl rfl (Nat.le_of_ble_eq_true rfl) (fun x hO hR => ?_)
  refine z_lload_n hO 0 dX9_in_0 rfl ?_
  refine z_lload_n hO 1 dX9_in_1 rfl ?_
  refine z_lcmp hO dX9_in_2 (by omega) (by omega) (fun c2 => ?_) (fun c2 => ?_) (fun c2 => ?_)
  ·
    refine z_if_lt hO 17 dX9_in_3 (by decide) (by decide) (fun c3 => absurd c3 (by omega)) (fun c3 => ?_)
    refine z_lload_n hO 0 dX9_in_6 rfl ?_
    refine z_lload hO 2 dX9_in_7 rfl ?_
    refine z_lcmp hO dX9_in_9 (by omega) (by omega) (fun c9 => ?_) (fun c9 => ?_) (fun c9 => ?_)
    ·
      refine z_if_gt hO 17 dX9_in_10 (by decide) (by decide) (fun c10 => ?_) (fun c10 => absurd c10 (by omega))
      refine z_iconst hO dX9_in_17 ?_
      exact z_retQF hO hR dX9_in_18 (by omega) rfl
    ·
      refine z_if_gt hO 17 dX9_in_10 (by decide) (by decide) (fun c10 => absurd c10 (by omega)) (fun c10 => ?_)
      refine z_iconst hO dX9_in_13 ?_
      refine z_goto hO 18 dX9_in_14 (by decide) ?_
      exact z_retQT hO hR dX9_in_18 (by omega) rfl
    ·
      refine z_if_gt hO 17 dX9_in_10 (by decide) (by decide) (fun c10 => absurd c10 (by omega)) (fun c10 => ?_)
      refine z_iconst hO dX9_in_13 ?_
      refine z_goto hO 18 dX9_in_14 (by decide) ?_
      exact z_retQT hO hR dX9_in_18 (by omega) rfl
  ·
    refine z_if_lt hO 17 dX9_in_3 (by decide) (by decide) (fun c3 => absurd c3 (by omega)) (fun c3 => ?_)
    refine z_lload_n hO 0 dX9_in_6 rfl ?_
    refine z_lload hO 2 dX9_in_7 rfl ?_
    refine z_lcmp hO dX9_in_9 (by omega) (by omega) (fun c9 => ?_) (fun c9 => ?_) (fun c9 => ?_)
    ·
      refine z_if_gt hO 17 dX9_in_10 (by decide) (by decide) (fun c10 => ?_) (fun c10 => absurd c10 (by omega))
      refine z_iconst hO dX9_in_17 ?_
      exact z_retQF hO hR dX9_in_18 (by omega) rfl
    ·
      refine z_if_gt hO 17 dX9_in_10 (by decide) (by decide) (fun c10 => absurd c10 (by omega)) (fun c10 => ?_)
      refine z_iconst hO dX9_in_13 ?_
      refine z_goto hO 18 dX9_in_14 (by decide) ?_
      exact z_retQT hO hR dX9_in_18 (by omega) rfl
    ·
      refine z_if_gt hO 17 dX9_in_10 (by decide) (by decide) (fun c10 => absurd c10 (by omega)) (fun c10 => ?_)
      refine z_iconst hO dX9_in_13 ?_
      refine z_goto hO 18 dX9_in_14 (by decide) ?_
      exact z_retQT hO hR dX9_in_18 (by omega) rfl
  ·
    refine z_if_lt hO 17 dX9_in_3 (by decide) (by decide) (fun c3 => ?_) (fun c3 => absurd c3 (by omega))
    refine z_iconst hO dX9_in_17 ?_
    exact z_retQF hO hR dX9_in_18 (by omega) rfl

set_option maxHeartbeats 4000000 in
set_option maxRecDepth 100000 in
theorem t_X9_at {g : G} {σ : Sg} {s : Int} : MM g mX9_at [.ref (g.2.2.1 113), vI s] σ (pI (pE (4 + 9 * s) σ)) := by
  refine mm_of rfl (by decide) rfl rfl (Nat.le_of_ble_eq_true rfl) (fun x hO hR => ?_)
  refine z_iconst hO dX9_at_0 ?_
  refine z_bipush hO dX9_at_1 (by decide) ?_
  refine z_iload_n hO 1 dX9_at_3 rfl ?_
  refine z_imul hO dX9_at_4 ?_
  refine z_iadd hO dX9_at_5 ?_
  exact z_retE hO hR dX9_at_6 (by omega) rfl

set_option maxHeartbeats 4000000 in
set_option maxRecDepth 100000 in
theorem t_X9_isSlot {g : G} {σ : Sg} {s : Int} (rs : -2147483648 ≤ s ∧ s ≤ 2147483647) (hn : 0 ≤ σ 114 0) : MM g mX9_isSlot [.ref (g.2.2.1 113), vI s] σ (pB (pQ (0 ≤ s ∧ s < σ 114 0) σ)) := by
  refine mm_of rfl (by decide) rfl rfl (Nat.le_of_ble_eq_true rfl) (fun x hO hR => ?_)
  refine z_iload_n hO 1 dX9_isSlot_0 rfl ?_
  refine z_i2l hO dX9_isSlot_1 (by omega) ?_
  refine z_lconst hO 0 dX9_isSlot_2 (by decide) ?_
  refine z_aload_n hO 0 dX9_isSlot_3 rfl ?_
  refine z_getR hO (114) fl_X9_7 rfl rfl dX9_isSlot_4 ?_
  refine z_iconst hO dX9_isSlot_7 ?_
  refine z_iald hO rfl (by omega) (by decide) dX9_isSlot_8 (fun r8 => ?_)
  refine z_iconst hO dX9_isSlot_9 ?_
  refine z_isub hO dX9_isSlot_10 ?_
  refine z_i2l hO dX9_isSlot_11 (by omega) ?_
  refine z_csQ hO (t_X9_in (by omega) (by omega) (by omega)) cs_X9_75 rfl rfl (by decide) (Nat.le_of_ble_eq_true rfl) dX9_isSlot_12 (fun c12 => ?_) (fun c12 => ?_)
  ·
    exact z_retQT hO hR dX9_isSlot_15 (by omega) rfl
  ·
    exact z_retQF hO hR dX9_isSlot_15 (by omega) rfl

/-- the word at a place; -4: there is none -/
def wh (w : Int → Int) (n i : Int) : Int := if 0 ≤ i ∧ i < n then w i else -4
def wth (v : Int) : Int := if 1 ≤ v ∧ v ≤ 19 then v else if 20 ≤ v ∧ v ≤ 27 then 10 * v - 180 else 0

set_option maxHeartbeats 4000000 in
set_option maxRecDepth 100000 in
theorem t_X9_wordHere {g : G} {σ : Sg} (h0 : 0 ≤ σ 113 7) (hn : σ 113 3 ≤ 9) : MM g mX9_wordHere [.ref (g.2.2.1 113)] σ (pI (pE (wh (σ 116) (σ 113 3) (σ 113 7)) σ)) := by
  refine mm_of rfl (by decide) rfl rfl (Nat.le_of_ble_eq_true rfl) (fun x hO hR => ?_)
  refine z_aload_n hO 0 dX9_wordHere_0 rfl ?_
  refine z_getI hO 7 fl_X9_83 rfl rfl rfl dX9_wordHere_1 (fun r1 => ?_)
  refine z_aload_n hO 0 dX9_wordHere_4 rfl ?_
  refine z_getI hO 3 fl_X9_86 rfl rfl rfl dX9_wordHere_5 (fun r5 => ?_)
  refine z_icmp_ge hO 23 dX9_wordHere_8 (by decide) (by omega) (by omega) (fun c8 => ?_) (fun c8 => ?_)
  ·
    refine z_bipush hO dX9_wordHere_23 (by decide) ?_
    exact z_retE hO hR dX9_wordHere_25 (by simp only [wh]; split <;> first | rfl | omega) rfl
  ·
    refine z_aload_n hO 0 dX9_wordHere_11 rfl ?_
    refine z_getR hO (116) fl_X9_16 rfl rfl dX9_wordHere_12 ?_
    refine z_aload_n hO 0 dX9_wordHere_15 rfl ?_
    refine z_getI hO 7 fl_X9_83 rfl rfl rfl dX9_wordHere_16 (fun r16 => ?_)
    refine z_iald hO rfl (by omega) (by decide) dX9_wordHere_19 (fun r19 => ?_)
    refine z_goto hO 25 dX9_wordHere_20 (by decide) ?_
    exact z_retE hO hR dX9_wordHere_25 (by simp only [wh]; split <;> first | rfl | omega) rfl

set_option maxHeartbeats 4000000 in
set_option maxRecDepth 100000 in
theorem t_X9_worth {g : G} {σ : Sg} {w : Int} (rw : -2147483648 ≤ w ∧ w ≤ 2147483647) : MM g mX9_worth [vI w] σ (pI (pE (wth w) σ)) := by
  refine mm_of rfl (by decide) rfl rfl (Nat.le_of_ble_eq_true rfl) (fun x hO hR => ?_)
  refine z_iload_n hO 0 dX9_worth_0 rfl ?_
  refine z_i2l hO dX9_worth_1 (by omega) ?_
  refine z_lconst hO 1 dX9_worth_2 (by decide) ?_
  refine z_ldc2 hO k_X9_89 dX9_worth_3 ?_
  refine z_csQ hO (t_X9_in (by omega) (by omega) (by omega)) cs_X9_75 rfl rfl (by decide) (Nat.le_of_ble_eq_true rfl) dX9_worth_6 (fun c6 => ?_) (fun c6 => ?_)
  ·
    refine z_if_eq hO 16 dX9_worth_9 (by decide) (by decide) (fun c9 => absurd c9 (by omega)) (fun c9 => ?_)
    refine z_iload_n hO 0 dX9_worth_12 rfl ?_
    refine z_goto hO 42 dX9_worth_13 (by decide) ?_
    exact z_retE hO hR dX9_worth_42 (by simp only [wth]; (repeat split) <;> omega) rfl
  ·
    refine z_if_eq hO 16 dX9_worth_9 (by decide) (by decide) (fun c9 => ?_) (fun c9 => absurd c9 (by omega))
    refine z_iload_n hO 0 dX9_worth_16 rfl ?_
    refine z_i2l hO dX9_worth_17 (by omega) ?_
    refine z_ldc2 hO k_X9_91 dX9_worth_18 ?_
    refine z_ldc2 hO k_X9_93 dX9_worth_21 ?_
    refine z_csQ hO (t_X9_in (by omega) (by omega) (by omega)) cs_X9_75 rfl rfl (by decide) (Nat.le_of_ble_eq_true rfl) dX9_worth_24 (fun c24 => ?_) (fun c24 => ?_)
    ·
      refine z_if_eq hO 41 dX9_worth_27 (by decide) (by decide) (fun c27 => absurd c27 (by omega)) (fun c27 => ?_)
      refine z_bipush hO dX9_worth_30 (by decide) ?_
      refine z_iload_n hO 0 dX9_worth_32 rfl ?_
      refine z_imul hO dX9_worth_33 ?_
      refine z_sipush hO dX9_worth_34 (by decide) ?_
      refine z_isub hO dX9_worth_37 ?_
      refine z_goto hO 42 dX9_worth_38 (by decide) ?_
      exact z_retE hO hR dX9_worth_42 (by simp only [wth]; (repeat split) <;> omega) rfl
    ·
      refine z_if_eq hO 41 dX9_worth_27 (by decide) (by decide) (fun c27 => ?_) (fun c27 => absurd c27 (by omega))
      refine z_iconst hO dX9_worth_41 ?_
      exact z_retE hO hR dX9_worth_42 (by simp only [wth]; (repeat split) <;> omega) rfl

/-! what the reference's readers answer, and where they stand then; f: the word at a place, -4 where there is none -/
def lowF (f : Int → Int) (i : Int) : Int × Int := if wth (f i) = 0 then (0, i) else if 19 < f i ∧ 1 ≤ f (i + 1) ∧ f (i + 1) ≤ 9 then (wth (f i) + f (i + 1), i + 1 + 1) else (wth (f i), i + 1)
def moreF (f : Int → Int) (i : Int) : Int × Int := if f i = 30 then (if (lowF f (i + 1)).1 = 0 then (-4, (lowF f (i + 1)).2) else lowF f (i + 1)) else lowF f i
def smallF (f : Int → Int) (i : Int) : Int × Int := if 1 ≤ f i ∧ f i ≤ 9 ∧ f (i + 1) = 28 then (if (moreF f (i + 2)).1 < 0 then (-4, (moreF f (i + 2)).2) else (100 * f i + (moreF f (i + 2)).1, (moreF f (i + 2)).2)) else lowF f i
def restF (f : Int → Int) (i : Int) : Int × Int := if f i = 30 then moreF f i else smallF f i
def numF (f : Int → Int) (i : Int) : Int × Int := if (smallF f i).1 ≤ 0 ∨ f (smallF f i).2 ≠ 29 then smallF f i else if (restF f ((smallF f i).2 + 1)).1 < 0 then (-4, (restF f ((smallF f i).2 + 1)).2) else (1000 * (smallF f i).1 + (restF f ((smallF f i).2 + 1)).1, (restF f ((smallF f i).2 + 1)).2)
/-- words at the places below n, none elsewhere -/
def PF (f : Int → Int) (n : Int) : Prop := 0 ≤ n ∧ n ≤ 8 ∧ (∀ i, 0 ≤ i → i < n → 0 ≤ f i ∧ f i ≤ 31) ∧ ∀ i, (i < 0 ∨ n ≤ i) → f i = -4
theorem PF.r {f : Int → Int} {n : Int} (h : PF f n) (i : Int) : -4 ≤ f i ∧ f i ≤ 31 := by
  by_cases q : 0 ≤ i ∧ i < n
  · have := h.2.2.1 i q.1 q.2; omega
  · have := h.2.2.2 i (by omega); omega
theorem PF.lt {f : Int → Int} {n : Int} (h : PF f n) {i : Int} (q : f i ≠ -4) : 0 ≤ i ∧ i < n := by
  apply Classical.byContradiction; intro z; exact q (h.2.2.2 i (by omega))
theorem wth_r (v : Int) : 0 ≤ wth v ∧ wth v ≤ 90 := by
  unfold wth; split
  · omega
  · split <;> omega
theorem wth_4 {v : Int} (h : wth v ≠ 0) : v ≠ -4 := by rintro rfl; exact h (by decide)
theorem lowF_r {f : Int → Int} {n i : Int} (h : PF f n) (hi : 0 ≤ i) (hn : i ≤ n) : 0 ≤ (lowF f i).1 ∧ (lowF f i).1 ≤ 99 ∧ i ≤ (lowF f i).2 ∧ (lowF f i).2 ≤ n := by
  unfold lowF
  have a := wth_r (f i)
  split
  · simp only; omega
  · rename_i h1
    have b := h.lt (wth_4 h1)
    split
    · rename_i h2
      have c := h.lt (i := i + 1) (by omega)
      simp only; omega
    · simp only; omega
theorem moreF_r {f : Int → Int} {n i : Int} (h : PF f n) (hi : 0 ≤ i) (hn : i ≤ n) : -4 ≤ (moreF f i).1 ∧ (moreF f i).1 ≤ 99 ∧ i ≤ (moreF f i).2 ∧ (moreF f i).2 ≤ n := by
  unfold moreF
  split
  · rename_i h1
    have b := h.lt (i := i) (by omega)
    have c := lowF_r h (i := i + 1) (by omega) (by omega)
    split
    · simp only; omega
    · omega
  · have c := lowF_r h hi hn; omega
theorem smallF_r {f : Int → Int} {n i : Int} (h : PF f n) (hi : 0 ≤ i) (hn : i ≤ n) : -4 ≤ (smallF f i).1 ∧ (smallF f i).1 ≤ 999 ∧ i ≤ (smallF f i).2 ∧ (smallF f i).2 ≤ n := by
  unfold smallF
  split
  · have b := h.lt (i := i + 1) (by omega)
    have c := moreF_r h (i := i + 2) (by omega) (by omega)
    split
    · simp only; omega
    · simp only; omega
  · have c := lowF_r h hi hn; omega
theorem restF_r {f : Int → Int} {n i : Int} (h : PF f n) (hi : 0 ≤ i) (hn : i ≤ n) : -4 ≤ (restF f i).1 ∧ (restF f i).1 ≤ 999 ∧ i ≤ (restF f i).2 ∧ (restF f i).2 ≤ n := by
  unfold restF
  split
  · have := moreF_r h hi hn; omega
  · exact smallF_r h hi hn
theorem numF_r {f : Int → Int} {n i : Int} (h : PF f n) (hi : 0 ≤ i) (hn : i ≤ n) : -4 ≤ (numF f i).1 ∧ (numF f i).1 ≤ 999999 ∧ i ≤ (numF f i).2 ∧ (numF f i).2 ≤ n := by
  unfold numF
  have a := smallF_r h hi hn
  split
  · omega
  · have b := h.lt (i := (smallF f i).2) (by omega)
    have c := restF_r h (i := (smallF f i).2 + 1) (by omega) (by omega)
    split
    · simp only; omega
    · simp only; omega
