/-! ===== texts ===== -/
def skN (t : Int → Int) (n : Int) : Nat → Int → Int
  | 0, i => i
  | k + 1, i => if i < n ∧ t i = 32 then skN t n k (i + 1) else i
/-- the first place from i on that is no blank, or the end -/
def sk (t : Int → Int) (n i : Int) : Int := skN t n (n - i).toNat i
def chr (t : Int → Int) (n i : Int) : Int := if i < n then t i else 0
theorem sk_t {t : Int → Int} {n i : Int} (h : i < n ∧ t i = 32) : sk t n i = sk t n (i + 1) := by
  unfold sk; rw [show (n - i).toNat = (n - (i + 1)).toNat + 1 by omega]
  show (if i < n ∧ t i = 32 then _ else _) = _
  rw [if_pos h]
theorem sk_f {t : Int → Int} {n i : Int} (h : ¬ (i < n ∧ t i = 32)) : sk t n i = i := by
  unfold sk
  cases (n - i).toNat with
  | zero => rfl
  | succ k => show (if i < n ∧ t i = 32 then _ else _) = _; rw [if_neg h]
theorem skN_r (t : Int → Int) (n : Int) (k : Nat) : ∀ i, i + k ≤ n ∨ k = 0 → i ≤ skN t n k i ∧ skN t n k i ≤ i + k := by
  induction k with
  | zero => intro i _; exact ⟨Int.le_refl _, by show i ≤ i + 0; omega⟩
  | succ k ih =>
    intro i h
    show i ≤ (if i < n ∧ t i = 32 then skN t n k (i + 1) else i) ∧ (if i < n ∧ t i = 32 then skN t n k (i + 1) else i) ≤ i + (k + 1 : Nat)
    split
    · have := ih (i + 1) (by omega); omega
    · omega
theorem sk_r {t : Int → Int} {n i : Int} (h : i ≤ n) : i ≤ sk t n i ∧ sk t n i ≤ n := by
  have := skN_r t n (n - i).toNat i (by omega)
  unfold sk; omega
theorem skN_nb (t : Int → Int) (n : Int) (k : Nat) : ∀ i, n - i ≤ k → ¬ (skN t n k i < n ∧ t (skN t n k i) = 32) := by
  induction k with
  | zero => intro i h; show ¬ (i < n ∧ _); omega
  | succ k ih =>
    intro i h
    show ¬ ((if i < n ∧ t i = 32 then skN t n k (i + 1) else i) < n ∧ t (if i < n ∧ t i = 32 then skN t n k (i + 1) else i) = 32)
    split
    · exact ih (i + 1) (by omega)
    · assumption
theorem sk_nb (t : Int → Int) (n i : Int) : ¬ (sk t n i < n ∧ t (sk t n i) = 32) := skN_nb t n _ i (by omega)
theorem sk_sk (t : Int → Int) (n i : Int) : sk t n (sk t n i) = sk t n i := sk_f (sk_nb t n i)
/-- letters on the tape -/
def TW (t : Int → Int) (n : Int) : Prop := (0 ≤ n ∧ n ≤ 120) ∧ ∀ i, 0 ≤ i → i < n → 32 ≤ t i ∧ t i ≤ 126
theorem chr_r {t : Int → Int} {n i : Int} (h : TW t n) (hi : 0 ≤ i) : 0 ≤ chr t n i ∧ chr t n i ≤ 126 ∧ (chr t n i = 0 ↔ n ≤ i) := by
  unfold chr; split
  · have := h.2 i hi (by assumption); omega
  · omega
def ltW (v : Int) : Int := if v = 104 then 28 else if v = 116 then 29 else if v = 97 then 30 else if v = 115 then 31 else if v = 110 then 0 else -4
def vlW (v : Int) : Int := if 1 ≤ v ∧ v ≤ 19 then v else if 19 < v ∧ v % 10 = 0 then 18 + v / 10 else -4
/-- a word at a place that is no blank: which, and where it ends; -4: none -/
def wrF (t : Int → Int) (n q : Int) : Int × Int := if 48 ≤ chr t n q ∧ chr t n q ≤ 57 then
    (if q + 1 < n ∧ 48 ≤ t (q + 1) ∧ t (q + 1) ≤ 57 then (if vlW (10 * (t q - 48) + t (q + 1) - 48) = -4 then (-4, q) else (vlW (10 * (t q - 48) + t (q + 1) - 48), q + 1 + 1))
     else (if vlW (t q - 48) = -4 then (-4, q) else (vlW (t q - 48), q + 1)))
  else (if ltW (chr t n q) = -4 then (-4, q) else (ltW (chr t n q), q + 1))
theorem ltW_r (v : Int) : -4 ≤ ltW v ∧ ltW v ≤ 31 := by unfold ltW; (repeat' split) <;> omega
theorem vlW_r {v : Int} (h : 0 ≤ v ∧ v ≤ 99) : -4 ≤ vlW v ∧ vlW v ≤ 27 ∧ (vlW v = -4 ∨ 1 ≤ vlW v) := by unfold vlW; (repeat' split) <;> omega
theorem ltW_g (v : Int) : ltW v = -4 ∨ 0 ≤ ltW v := by unfold ltW; (repeat' split) <;> omega

set_option maxHeartbeats 4000000 in
set_option maxRecDepth 100000 in
theorem lp_here {g : G} {x : Cx} {P : Int → Sg → Prop} (hO : Ok g x RX9 cX9_here 1 1) (hR : Rt g x (some .int) (pI P)) : ∀ (k : Nat) (τ : Sg), TW (τ 124) (τ 113 23) → (0 ≤ τ 113 24 ∧ τ 113 24 ≤ τ 113 23) → τ 113 23 - τ 113 24 < k → P (chr (τ 124) (τ 113 23) (sk (τ 124) (τ 113 23) (τ 113 24))) (up τ 113 24 (sk (τ 124) (τ 113 23) (τ 113 24))) → Z g x 1 0 [(0, .ref (g.2.2.1 113))] [] τ := by
  intro k
  induction k with
  | zero => intro τ hT hp hk; exact absurd hk (by omega)
  | succ k ih =>
    intro τ hT hp hk hP
    refine z_aload_n hO 0 dX9_here_0 rfl ?_
    refine z_getI hO 24 fl_X9_202 rfl rfl rfl dX9_here_1 (fun r1 => ?_)
    refine z_aload_n hO 0 dX9_here_4 rfl ?_
    refine z_getI hO 23 fl_X9_199 rfl rfl rfl dX9_here_5 (fun r5 => ?_)
    refine z_icmp_ge hO 38 dX9_here_8 (by decide) (by omega) (by omega) (fun c8 => ?_) (fun c8 => ?_)
    ·
      have e := sk_f (t := τ 124) (n := τ 113 23) (i := τ 113 24) (by omega)
      rw [e, up_self] at hP
      refine z_aload_n hO 0 dX9_here_38 rfl ?_
      refine z_getI hO 24 fl_X9_202 rfl rfl rfl dX9_here_39 (fun r39 => ?_)
      refine z_aload_n hO 0 dX9_here_42 rfl ?_
      refine z_getI hO 23 fl_X9_199 rfl rfl rfl dX9_here_43 (fun r43 => ?_)
      refine z_icmp_ge hO 61 dX9_here_46 (by decide) (by omega) (by omega) (fun c46 => ?_) (fun c46 => ?_)
      ·
        refine z_iconst hO dX9_here_61 ?_
        exact z_retI hO hR dX9_here_62 (by first | (rw [chr, if_pos (by omega)] at hP; exact hP) | (rw [chr, if_neg (by omega)] at hP; exact hP))
      ·
        refine z_aload_n hO 0 dX9_here_49 rfl ?_
        refine z_getR hO (124) fl_X9_41 rfl rfl dX9_here_50 ?_
        refine z_aload_n hO 0 dX9_here_53 rfl ?_
        refine z_getI hO 24 fl_X9_202 rfl rfl rfl dX9_here_54 (fun r54 => ?_)
        refine z_iald hO rfl (by have := hT.1; omega) (by decide) dX9_here_57 (fun r57 => ?_)
        refine z_goto hO 62 dX9_here_58 (by decide) ?_
        exact z_retI hO hR dX9_here_62 (by first | (rw [chr, if_pos (by omega)] at hP; exact hP) | (rw [chr, if_neg (by omega)] at hP; exact hP))
    ·
      refine z_aload_n hO 0 dX9_here_11 rfl ?_
      refine z_getR hO (124) fl_X9_41 rfl rfl dX9_here_12 ?_
      refine z_aload_n hO 0 dX9_here_15 rfl ?_
      refine z_getI hO 24 fl_X9_202 rfl rfl rfl dX9_here_16 (fun r16 => ?_)
      refine z_iald hO rfl (by have := hT.1; omega) (by decide) dX9_here_19 (fun r19 => ?_)
      refine z_bipush hO dX9_here_20 (by decide) ?_
      refine z_icmp_ne hO 38 dX9_here_22 (by decide) (by omega) (by decide) (fun c22 => ?_) (fun c22 => ?_)
      ·
        have e := sk_f (t := τ 124) (n := τ 113 23) (i := τ 113 24) (by omega)
        rw [e, up_self] at hP
        refine z_aload_n hO 0 dX9_here_38 rfl ?_
        refine z_getI hO 24 fl_X9_202 rfl rfl rfl dX9_here_39 (fun r39 => ?_)
        refine z_aload_n hO 0 dX9_here_42 rfl ?_
        refine z_getI hO 23 fl_X9_199 rfl rfl rfl dX9_here_43 (fun r43 => ?_)
        refine z_icmp_ge hO 61 dX9_here_46 (by decide) (by omega) (by omega) (fun c46 => ?_) (fun c46 => ?_)
        ·
          refine z_iconst hO dX9_here_61 ?_
          exact z_retI hO hR dX9_here_62 (by first | (rw [chr, if_pos (by omega)] at hP; exact hP) | (rw [chr, if_neg (by omega)] at hP; exact hP))
        ·
          refine z_aload_n hO 0 dX9_here_49 rfl ?_
          refine z_getR hO (124) fl_X9_41 rfl rfl dX9_here_50 ?_
          refine z_aload_n hO 0 dX9_here_53 rfl ?_
          refine z_getI hO 24 fl_X9_202 rfl rfl rfl dX9_here_54 (fun r54 => ?_)
          refine z_iald hO rfl (by have := hT.1; omega) (by decide) dX9_here_57 (fun r57 => ?_)
          refine z_goto hO 62 dX9_here_58 (by decide) ?_
          exact z_retI hO hR dX9_here_62 (by first | (rw [chr, if_pos (by omega)] at hP; exact hP) | (rw [chr, if_neg (by omega)] at hP; exact hP))
      ·
        refine z_aload_n hO 0 dX9_here_25 rfl ?_
        refine z_dup hO dX9_here_26 rfl ?_
        refine z_getI hO 24 fl_X9_202 rfl rfl rfl dX9_here_27 (fun r27 => ?_)
        refine z_iconst hO dX9_here_30 ?_
        refine z_iadd hO dX9_here_31 ?_
        refine z_putI hO 24 fp_X9_202 rfl rfl rfl (by omega) rfl rfl dX9_here_32 ?_
        refine z_goto hO 0 dX9_here_35 (by decide) ?_
        have e := sk_t (t := τ 124) (n := τ 113 23) (i := τ 113 24) ⟨by omega, by omega⟩
        refine z_pick [0] rfl (ih _ (by simp only [fl_row_ne, fl_ne, up_row_ne, up_ne, up_eq, up_nk, up_up, up_self, ne_eq, Nat.reduceEqDiff, Int.reduceEq, reduceCtorEq, not_false_eq_true, not_true_eq_false]; exact hT) (by simp only [fl_row_ne, fl_ne, up_row_ne, up_ne, up_eq, up_nk, up_up, up_self, ne_eq, Nat.reduceEqDiff, Int.reduceEq, reduceCtorEq, not_false_eq_true, not_true_eq_false]; omega) (by simp only [fl_row_ne, fl_ne, up_row_ne, up_ne, up_eq, up_nk, up_up, up_self, ne_eq, Nat.reduceEqDiff, Int.reduceEq, reduceCtorEq, not_false_eq_true, not_true_eq_false]; omega) ?_)
        simp only [fl_row_ne, fl_ne, up_row_ne, up_ne, up_eq, up_nk, up_up, up_self, ne_eq, Nat.reduceEqDiff, Int.reduceEq, reduceCtorEq, not_false_eq_true, not_true_eq_false]
        rw [← e]; exact hP

theorem t_X9_here {g : G} {σ : Sg} (hT : TW (σ 124) (σ 113 23)) (hp : 0 ≤ (σ 113 24) ∧ (σ 113 24) ≤ (σ 113 23)) : MM g mX9_here [.ref (g.2.2.1 113)] σ (pI (fun r σ' => r = chr (σ 124) (σ 113 23) (sk (σ 124) (σ 113 23) (σ 113 24)) ∧ σ' = up σ 113 24 (sk (σ 124) (σ 113 23) (σ 113 24)))) := by
  refine mm_of rfl (by decide) rfl rfl (Nat.le_of_ble_eq_true rfl) (fun x hO hR => ?_)
  exact lp_here hO hR 121 σ hT hp (by have := hT.1; omega) ⟨rfl, rfl⟩

set_option maxHeartbeats 4000000 in
set_option maxRecDepth 100000 in
theorem t_X9_has {g : G} {σ : Sg} {l : Int} (rl : -2147483648 ≤ l ∧ l ≤ 2147483647) (hT : TW (σ 124) (σ 113 23)) (hp : 0 ≤ (σ 113 24) ∧ (σ 113 24) ≤ (σ 113 23)) : MM g mX9_has [.ref (g.2.2.1 113), vI l] σ (pB (fun b σ' => (b = true → chr (σ 124) (σ 113 23) (sk (σ 124) (σ 113 23) (σ 113 24)) = l ∧ σ' = up σ 113 24 ((sk (σ 124) (σ 113 23) (σ 113 24)) + 1)) ∧ (b = false → chr (σ 124) (σ 113 23) (sk (σ 124) (σ 113 23) (σ 113 24)) ≠ l ∧ σ' = up σ 113 24 (sk (σ 124) (σ 113 23) (σ 113 24))))) := by
  refine mm_of rfl (by decide) rfl rfl (Nat.le_of_ble_eq_true rfl) (fun x hO hR => ?_)
  have hs := sk_r (t := (σ 124)) hp.2
  have hc := chr_r hT (i := (sk (σ 124) (σ 113 23) (σ 113 24))) (by omega)
  have hn := hT.1
  refine z_aload_n hO 0 dX9_has_0 rfl ?_
  refine z_cvI hO (t_X9_here hT hp) cv_X9_205 rfl rfl rfl rfl (by decide) (Nat.le_of_ble_eq_true rfl) dX9_has_1 (fun v1 s1 p1 => ?_)
  obtain ⟨rfl, rfl⟩ := p1
  refine z_iload_n hO 1 dX9_has_4 rfl ?_
  refine z_icmp_eq hO 10 dX9_has_5 (by decide) (by omega) (by omega) (fun c5 => ?_) (fun c5 => ?_)
  ·
    refine z_aload_n hO 0 dX9_has_10 rfl ?_
    refine z_dup hO dX9_has_11 rfl ?_
    refine z_getI hO 24 fl_X9_202 rfl rfl rfl dX9_has_12 (fun r12 => ?_)
    try simp only [fl_row_ne, fl_ne, up_row_ne, up_ne, up_eq, up_nk, up_up, up_self, ne_eq, Nat.reduceEqDiff, Int.reduceEq, reduceCtorEq, not_false_eq_true, not_true_eq_false] at r12 ⊢
    refine z_iconst hO dX9_has_15 ?_
    refine z_iadd hO dX9_has_16 ?_
    refine z_putI hO 24 fp_X9_202 rfl rfl rfl (by omega) rfl rfl dX9_has_17 ?_
    refine z_iconst hO dX9_has_20 ?_
    exact z_retT hO hR dX9_has_21 (⟨fun _ => ⟨by omega, by rw [up_up]⟩, fun q => absurd q (by decide)⟩)
  ·
    refine z_iconst hO dX9_has_8 ?_
    exact z_retF hO hR dX9_has_9 (⟨fun q => absurd q (by decide), fun _ => ⟨by omega, rfl⟩⟩)

set_option maxHeartbeats 4000000 in
set_option maxRecDepth 100000 in
theorem t_X9_letterWord {g : G} {σ : Sg} {l : Int} (rl : -2147483648 ≤ l ∧ l ≤ 2147483647) : MM g mX9_letterWord [vI l] σ (pI (pE (ltW l) σ)) := by
  refine mm_of rfl (by decide) rfl rfl (Nat.le_of_ble_eq_true rfl) (fun x hO hR => ?_)
  refine z_iload_n hO 0 dX9_letterWord_0 rfl ?_
  refine z_bipush hO dX9_letterWord_1 (by decide) ?_
  refine z_icmp_ne hO 11 dX9_letterWord_3 (by decide) (by omega) (by decide) (fun c3 => ?_) (fun c3 => ?_)
  ·
    refine z_iload_n hO 0 dX9_letterWord_11 rfl ?_
    refine z_bipush hO dX9_letterWord_12 (by decide) ?_
    refine z_icmp_ne hO 22 dX9_letterWord_14 (by decide) (by omega) (by decide) (fun c14 => ?_) (fun c14 => ?_)
    ·
      refine z_iload_n hO 0 dX9_letterWord_22 rfl ?_
      refine z_bipush hO dX9_letterWord_23 (by decide) ?_
      refine z_icmp_ne hO 33 dX9_letterWord_25 (by decide) (by omega) (by decide) (fun c25 => ?_) (fun c25 => ?_)
      ·
        refine z_iload_n hO 0 dX9_letterWord_33 rfl ?_
        refine z_bipush hO dX9_letterWord_34 (by decide) ?_
        refine z_icmp_ne hO 44 dX9_letterWord_36 (by decide) (by omega) (by decide) (fun c36 => ?_) (fun c36 => ?_)
        ·
          refine z_iload_n hO 0 dX9_letterWord_44 rfl ?_
          refine z_bipush hO dX9_letterWord_45 (by decide) ?_
          refine z_icmp_ne hO 54 dX9_letterWord_47 (by decide) (by omega) (by decide) (fun c47 => ?_) (fun c47 => ?_)
          ·
            refine z_bipush hO dX9_letterWord_54 (by decide) ?_
            exact z_retE hO hR dX9_letterWord_56 (by unfold ltW; (repeat' split) <;> omega) rfl
          ·
            refine z_iconst hO dX9_letterWord_50 ?_
            refine z_goto hO 56 dX9_letterWord_51 (by decide) ?_
            exact z_retE hO hR dX9_letterWord_56 (by unfold ltW; (repeat' split) <;> omega) rfl
        ·
          refine z_bipush hO dX9_letterWord_39 (by decide) ?_
          refine z_goto hO 56 dX9_letterWord_41 (by decide) ?_
          exact z_retE hO hR dX9_letterWord_56 (by unfold ltW; (repeat' split) <;> omega) rfl
      ·
        refine z_bipush hO dX9_letterWord_28 (by decide) ?_
        refine z_goto hO 56 dX9_letterWord_30 (by decide) ?_
        exact z_retE hO hR dX9_letterWord_56 (by unfold ltW; (repeat' split) <;> omega) rfl
    ·
      refine z_bipush hO dX9_letterWord_17 (by decide) ?_
      refine z_goto hO 56 dX9_letterWord_19 (by decide) ?_
      exact z_retE hO hR dX9_letterWord_56 (by unfold ltW; (repeat' split) <;> omega) rfl
  ·
    refine z_bipush hO dX9_letterWord_6 (by decide) ?_
    refine z_goto hO 56 dX9_letterWord_8 (by decide) ?_
    exact z_retE hO hR dX9_letterWord_56 (by unfold ltW; (repeat' split) <;> omega) rfl

set_option maxHeartbeats 4000000 in
set_option maxRecDepth 100000 in
theorem t_X9_fault {g : G} {σ : Sg} (hT : TW (σ 124) (σ 113 23)) (hp : 0 ≤ (σ 113 24) ∧ (σ 113 24) ≤ (σ 113 23)) : MM g mX9_fault [.ref (g.2.2.1 113)] σ (pI (fun r σ' => r = -20 - (sk (σ 124) (σ 113 23) (σ 113 24)) ∧ σ' = up (up σ 113 24 (sk (σ 124) (σ 113 23) (σ 113 24))) 113 23 0)) := by
  refine mm_of rfl (by decide) rfl rfl (Nat.le_of_ble_eq_true rfl) (fun x hO hR => ?_)
  have hs := sk_r (t := (σ 124)) hp.2
  have hc := chr_r hT (i := (sk (σ 124) (σ 113 23) (σ 113 24))) (by omega)
  have hn := hT.1
  refine z_aload_n hO 0 dX9_fault_0 rfl ?_
  refine z_cvI hO (t_X9_here hT hp) cv_X9_205 rfl rfl rfl rfl (by decide) (Nat.le_of_ble_eq_true rfl) dX9_fault_1 (fun v1 s1 p1 => ?_)
  obtain ⟨rfl, rfl⟩ := p1
  refine z_if_ne hO 11 dX9_fault_4 (by decide) (by omega) (fun c4 => ?_) (fun c4 => ?_)
  ·
    refine z_iconst hO dX9_fault_11 ?_
    refine z_istore_n hO (L' := [(1, _), (0, _)]) dX9_fault_12 (by decide) rfl ?_
    refine z_bipush hO dX9_fault_13 (by decide) ?_
    refine z_iload_n hO 0 dX9_fault_15 rfl ?_
    refine z_if_eq hO 26 dX9_fault_16 (by decide) (by decide) (fun c16 => ?_) (fun c16 => absurd c16 (by omega))
    refine z_aload_n hO 1 dX9_fault_26 rfl ?_
    refine z_getI hO 24 fl_X9_202 rfl rfl rfl dX9_fault_27 (fun r27 => ?_)
    try simp only [fl_row_ne, fl_ne, up_row_ne, up_ne, up_eq, up_nk, up_up, up_self, ne_eq, Nat.reduceEqDiff, Int.reduceEq, reduceCtorEq, not_false_eq_true, not_true_eq_false] at r27 ⊢
    refine z_isub hO dX9_fault_30 ?_
    refine z_istore_n hO (L' := [(2, _), (1, _), (0, _)]) dX9_fault_31 (by decide) rfl ?_
    refine z_aload_n hO 2 dX9_fault_32 rfl ?_
    refine z_iconst hO dX9_fault_33 ?_
    refine z_putI hO 23 fp_X9_199 rfl rfl rfl (by omega) rfl rfl dX9_fault_34 ?_
    refine z_iload_n hO 0 dX9_fault_37 rfl ?_
    exact z_retI hO hR dX9_fault_38 (⟨by omega, by simp only [fl_row_ne, fl_ne, up_row_ne, up_ne, up_eq, up_nk, up_up, up_self, ne_eq, Nat.reduceEqDiff, Int.reduceEq, reduceCtorEq, not_false_eq_true, not_true_eq_false]⟩)
  ·
    refine z_iconst hO dX9_fault_7 ?_
    refine z_goto hO 12 dX9_fault_8 (by decide) ?_
    refine z_istore_n hO (L' := [(1, _), (0, _)]) dX9_fault_12 (by decide) rfl ?_
    refine z_bipush hO dX9_fault_13 (by decide) ?_
    refine z_iload_n hO 0 dX9_fault_15 rfl ?_
    refine z_if_eq hO 26 dX9_fault_16 (by decide) (by decide) (fun c16 => absurd c16 (by omega)) (fun c16 => ?_)
    refine z_aload_n hO 1 dX9_fault_19 rfl ?_
    refine z_getI hO 23 fl_X9_199 rfl rfl rfl dX9_fault_20 (fun r20 => ?_)
    try simp only [fl_row_ne, fl_ne, up_row_ne, up_ne, up_eq, up_nk, up_up, up_self, ne_eq, Nat.reduceEqDiff, Int.reduceEq, reduceCtorEq, not_false_eq_true, not_true_eq_false] at r20 ⊢
    refine z_goto hO 30 dX9_fault_23 (by decide) ?_
    refine z_isub hO dX9_fault_30 ?_
    refine z_istore_n hO (L' := [(2, _), (1, _), (0, _)]) dX9_fault_31 (by decide) rfl ?_
    refine z_aload_n hO 2 dX9_fault_32 rfl ?_
    refine z_iconst hO dX9_fault_33 ?_
    refine z_putI hO 23 fp_X9_199 rfl rfl rfl (by omega) rfl rfl dX9_fault_34 ?_
    refine z_iload_n hO 0 dX9_fault_37 rfl ?_
    exact z_retI hO hR dX9_fault_38 (⟨by omega, by simp only [fl_row_ne, fl_ne, up_row_ne, up_ne, up_eq, up_nk, up_up, up_self, ne_eq, Nat.reduceEqDiff, Int.reduceEq, reduceCtorEq, not_false_eq_true, not_true_eq_false]⟩)

set_option maxHeartbeats 4000000 in
set_option maxRecDepth 100000 in
theorem t_X9_wordRead {g : G} {σ : Sg} (hT : TW (σ 124) (σ 113 23)) (hp : 0 ≤ (σ 113 24) ∧ (σ 113 24) ≤ (σ 113 23)) : MM g mX9_wordRead [.ref (g.2.2.1 113)] σ (pI (fun r σ' => r = (wrF (σ 124) (σ 113 23) (sk (σ 124) (σ 113 23) (σ 113 24))).1 ∧ σ' = up σ 113 24 (wrF (σ 124) (σ 113 23) (sk (σ 124) (σ 113 23) (σ 113 24))).2)) := by
  refine mm_of rfl (by decide) rfl rfl (Nat.le_of_ble_eq_true rfl) (fun x hO hR => ?_)
  have hs := sk_r (t := (σ 124)) hp.2
  have hc := chr_r hT (i := (sk (σ 124) (σ 113 23) (σ 113 24))) (by omega)
  have hn := hT.1
  refine z_aload_n hO 0 dX9_wordRead_0 rfl ?_
  refine z_cvI hO (t_X9_here hT hp) cv_X9_205 rfl rfl rfl rfl (by decide) (Nat.le_of_ble_eq_true rfl) dX9_wordRead_1 (fun v1 s1 p1 => ?_)
  obtain ⟨rfl, rfl⟩ := p1
  refine z_i2l hO dX9_wordRead_4 (by omega) ?_
  refine z_ldc2 hO k_X9_208 dX9_wordRead_5 ?_
  refine z_ldc2 hO k_X9_210 dX9_wordRead_8 ?_
  refine z_csQ hO (t_X9_in (by omega) (by omega) (by omega)) cs_X9_75 rfl rfl (by decide) (Nat.le_of_ble_eq_true rfl) dX9_wordRead_11 (fun c11 => ?_) (fun c11 => ?_)
  ·
    try simp only [fl_row_ne, fl_ne, up_row_ne, up_ne, up_eq, up_nk, up_up, up_self, ne_eq, Nat.reduceEqDiff, Int.reduceEq, reduceCtorEq, not_false_eq_true, not_true_eq_false, sk_sk] at c11 ⊢
    refine z_if_ne hO 47 dX9_wordRead_14 (by decide) (by decide) (fun c14 => ?_) (fun c14 => absurd c14 (by omega))
    have hlt : (sk (σ 124) (σ 113 23) (σ 113 24)) < (σ 113 23) := by omega
    have hce : chr (σ 124) (σ 113 23) (sk (σ 124) (σ 113 23) (σ 113 24)) = (σ 124) (sk (σ 124) (σ 113 23) (σ 113 24)) := by unfold chr; rw [if_pos hlt]
    refine z_aload_n hO 0 dX9_wordRead_47 rfl ?_
    refine z_getI hO 24 fl_X9_202 rfl rfl rfl dX9_wordRead_48 (fun r48 => ?_)
    try simp only [fl_row_ne, fl_ne, up_row_ne, up_ne, up_eq, up_nk, up_up, up_self, ne_eq, Nat.reduceEqDiff, Int.reduceEq, reduceCtorEq, not_false_eq_true, not_true_eq_false, sk_sk] at r48 ⊢
    refine z_istore_n hO (L' := [(1, _), (0, _)]) dX9_wordRead_51 (by decide) rfl ?_
    refine z_aload_n hO 1 dX9_wordRead_52 rfl ?_
    refine z_getR hO (124) fl_X9_41 rfl rfl dX9_wordRead_53 ?_
    refine z_aload_n hO 1 dX9_wordRead_56 rfl ?_
    refine z_getI hO 24 fl_X9_202 rfl rfl rfl dX9_wordRead_57 (fun r57 => ?_)
    try simp only [fl_row_ne, fl_ne, up_row_ne, up_ne, up_eq, up_nk, up_up, up_self, ne_eq, Nat.reduceEqDiff, Int.reduceEq, reduceCtorEq, not_false_eq_true, not_true_eq_false, sk_sk] at r57 ⊢
    refine z_iald hO rfl (by omega) (by decide) dX9_wordRead_60 (fun r60 => ?_)
    try simp only [fl_row_ne, fl_ne, up_row_ne, up_ne, up_eq, up_nk, up_up, up_self, ne_eq, Nat.reduceEqDiff, Int.reduceEq, reduceCtorEq, not_false_eq_true, not_true_eq_false, sk_sk] at r60 ⊢
    refine z_bipush hO dX9_wordRead_61 (by decide) ?_
    refine z_isub hO dX9_wordRead_63 ?_
    refine z_istore_n hO (L' := [(2, _), (1, _), (0, _)]) dX9_wordRead_64 (by decide) rfl ?_
    refine z_aload_n hO 2 dX9_wordRead_65 rfl ?_
    refine z_dup hO dX9_wordRead_66 rfl ?_
    refine z_getI hO 24 fl_X9_202 rfl rfl rfl dX9_wordRead_67 (fun r67 => ?_)
    try simp only [fl_row_ne, fl_ne, up_row_ne, up_ne, up_eq, up_nk, up_up, up_self, ne_eq, Nat.reduceEqDiff, Int.reduceEq, reduceCtorEq, not_false_eq_true, not_true_eq_false, sk_sk] at r67 ⊢
    refine z_iconst hO dX9_wordRead_70 ?_
    refine z_iadd hO dX9_wordRead_71 ?_
    refine z_putI hO 24 fp_X9_202 rfl rfl rfl (by omega) rfl rfl dX9_wordRead_72 ?_
    refine z_aload_n hO 2 dX9_wordRead_75 rfl ?_
    refine z_getI hO 24 fl_X9_202 rfl rfl rfl dX9_wordRead_76 (fun r76 => ?_)
    try simp only [fl_row_ne, fl_ne, up_row_ne, up_ne, up_eq, up_nk, up_up, up_self, ne_eq, Nat.reduceEqDiff, Int.reduceEq, reduceCtorEq, not_false_eq_true, not_true_eq_false, sk_sk] at r76 ⊢
    refine z_aload_n hO 2 dX9_wordRead_79 rfl ?_
    refine z_getI hO 23 fl_X9_199 rfl rfl rfl dX9_wordRead_80 (fun r80 => ?_)
    try simp only [fl_row_ne, fl_ne, up_row_ne, up_ne, up_eq, up_nk, up_up, up_self, ne_eq, Nat.reduceEqDiff, Int.reduceEq, reduceCtorEq, not_false_eq_true, not_true_eq_false, sk_sk] at r80 ⊢
    refine z_icmp_ge hO 136 dX9_wordRead_83 (by decide) (by omega) (by omega) (fun c83 => ?_) (fun c83 => ?_)
    ·
      refine z_iload_n hO 0 dX9_wordRead_136 rfl ?_
      refine z_i2l hO dX9_wordRead_137 (by omega) ?_
      refine z_lconst hO 1 dX9_wordRead_138 (by decide) ?_
      refine z_ldc2 hO k_X9_89 dX9_wordRead_139 ?_
      refine z_csQ hO (t_X9_in (by omega) (by omega) (by omega)) cs_X9_75 rfl rfl (by decide) (Nat.le_of_ble_eq_true rfl) dX9_wordRead_142 (fun c142 => ?_) (fun c142 => ?_)
      ·
        try simp only [fl_row_ne, fl_ne, up_row_ne, up_ne, up_eq, up_nk, up_up, up_self, ne_eq, Nat.reduceEqDiff, Int.reduceEq, reduceCtorEq, not_false_eq_true, not_true_eq_false, sk_sk] at c142 ⊢
        refine z_if_eq hO 152 dX9_wordRead_145 (by decide) (by decide) (fun c145 => absurd c145 (by omega)) (fun c145 => ?_)
        refine z_iload_n hO 0 dX9_wordRead_148 rfl ?_
        refine z_goto hO 177 dX9_wordRead_149 (by decide) ?_
        refine z_istore_n hO (L' := [(3, _), (2, _), (1, _), (0, _)]) dX9_wordRead_177 (by decide) rfl ?_
        refine z_aload_n hO 3 dX9_wordRead_178 rfl ?_
        refine z_iload_n hO 0 dX9_wordRead_179 rfl ?_
        refine z_bipush hO dX9_wordRead_180 (by decide) ?_
        refine z_icmp_ne hO 189 dX9_wordRead_182 (by decide) (by omega) (by decide) (fun c182 => ?_) (fun c182 => ?_)
        ·
          refine z_aload_n hO 3 dX9_wordRead_189 rfl ?_
          refine z_getI hO 24 fl_X9_202 rfl rfl rfl dX9_wordRead_190 (fun r190 => ?_)
          try simp only [fl_row_ne, fl_ne, up_row_ne, up_ne, up_eq, up_nk, up_up, up_self, ne_eq, Nat.reduceEqDiff, Int.reduceEq, reduceCtorEq, not_false_eq_true, not_true_eq_false, sk_sk] at r190 ⊢
          refine z_putI hO 24 fp_X9_202 rfl rfl rfl (by omega) rfl rfl dX9_wordRead_193 ?_
          refine z_iload_n hO 0 dX9_wordRead_196 rfl ?_
          exact z_retI hO hR dX9_wordRead_197 (by unfold wrF; rw [if_pos (by omega)]; (first | rw [if_pos (by omega)] | rw [if_neg (by omega)]); unfold vlW; (repeat' split) <;> first | (exfalso; omega) | (simp [fl_row_ne, fl_ne, up_row_ne, up_ne, up_eq, up_nk, up_up, up_self, ne_eq, Nat.reduceEqDiff, Int.reduceEq, reduceCtorEq, not_false_eq_true, not_true_eq_false]; done) | (constructor <;> first | rfl | omega | simp [fl_row_ne, fl_ne, up_row_ne, up_ne, up_eq, up_nk, up_up, up_self, ne_eq, Nat.reduceEqDiff, Int.reduceEq, reduceCtorEq, not_false_eq_true, not_true_eq_false]))
        ·
          refine z_iload_n hO 2 dX9_wordRead_185 rfl ?_
          refine z_goto hO 193 dX9_wordRead_186 (by decide) ?_
          refine z_putI hO 24 fp_X9_202 rfl rfl rfl (by omega) rfl rfl dX9_wordRead_193 ?_
          refine z_iload_n hO 0 dX9_wordRead_196 rfl ?_
          exact z_retI hO hR dX9_wordRead_197 (by unfold wrF; rw [if_pos (by omega)]; (first | rw [if_pos (by omega)] | rw [if_neg (by omega)]); unfold vlW; (repeat' split) <;> first | (exfalso; omega) | (simp [fl_row_ne, fl_ne, up_row_ne, up_ne, up_eq, up_nk, up_up, up_self, ne_eq, Nat.reduceEqDiff, Int.reduceEq, reduceCtorEq, not_false_eq_true, not_true_eq_false]; done) | (constructor <;> first | rfl | omega | simp [fl_row_ne, fl_ne, up_row_ne, up_ne, up_eq, up_nk, up_up, up_self, ne_eq, Nat.reduceEqDiff, Int.reduceEq, reduceCtorEq, not_false_eq_true, not_true_eq_false]))
      ·
        try simp only [fl_row_ne, fl_ne, up_row_ne, up_ne, up_eq, up_nk, up_up, up_self, ne_eq, Nat.reduceEqDiff, Int.reduceEq, reduceCtorEq, not_false_eq_true, not_true_eq_false, sk_sk] at c142 ⊢
        refine z_if_eq hO 152 dX9_wordRead_145 (by decide) (by decide) (fun c145 => ?_) (fun c145 => absurd c145 (by omega))
        refine z_iload_n hO 0 dX9_wordRead_152 rfl ?_
        refine z_bipush hO dX9_wordRead_153 (by decide) ?_
        refine z_icmp_le hO 175 dX9_wordRead_155 (by decide) (by omega) (by decide) (fun c155 => ?_) (fun c155 => ?_)
        ·
          refine z_bipush hO dX9_wordRead_175 (by decide) ?_
          refine z_istore_n hO (L' := [(3, _), (2, _), (1, _), (0, _)]) dX9_wordRead_177 (by decide) rfl ?_
          refine z_aload_n hO 3 dX9_wordRead_178 rfl ?_
          refine z_iload_n hO 0 dX9_wordRead_179 rfl ?_
          refine z_bipush hO dX9_wordRead_180 (by decide) ?_
          refine z_icmp_ne hO 189 dX9_wordRead_182 (by decide) (by decide) (by decide) (fun c182 => absurd c182 (by omega)) (fun c182 => ?_)
          refine z_iload_n hO 2 dX9_wordRead_185 rfl ?_
          refine z_goto hO 193 dX9_wordRead_186 (by decide) ?_
          refine z_putI hO 24 fp_X9_202 rfl rfl rfl (by omega) rfl rfl dX9_wordRead_193 ?_
          refine z_iload_n hO 0 dX9_wordRead_196 rfl ?_
          exact z_retI hO hR dX9_wordRead_197 (by unfold wrF; rw [if_pos (by omega)]; (first | rw [if_pos (by omega)] | rw [if_neg (by omega)]); unfold vlW; (repeat' split) <;> first | (exfalso; omega) | (simp [fl_row_ne, fl_ne, up_row_ne, up_ne, up_eq, up_nk, up_up, up_self, ne_eq, Nat.reduceEqDiff, Int.reduceEq, reduceCtorEq, not_false_eq_true, not_true_eq_false]; done) | (constructor <;> first | rfl | omega | simp [fl_row_ne, fl_ne, up_row_ne, up_ne, up_eq, up_nk, up_up, up_self, ne_eq, Nat.reduceEqDiff, Int.reduceEq, reduceCtorEq, not_false_eq_true, not_true_eq_false]))
        ·
          refine z_iload_n hO 0 dX9_wordRead_158 rfl ?_
          refine z_bipush hO dX9_wordRead_159 (by decide) ?_
          refine z_irem hO dX9_wordRead_161 (by omega) (by omega) ?_
          refine z_if_ne hO 175 dX9_wordRead_162 (by decide) (by omega) (fun c162 => ?_) (fun c162 => ?_)
          ·
            refine z_bipush hO dX9_wordRead_175 (by decide) ?_
            refine z_istore_n hO (L' := [(3, _), (2, _), (1, _), (0, _)]) dX9_wordRead_177 (by decide) rfl ?_
            refine z_aload_n hO 3 dX9_wordRead_178 rfl ?_
            refine z_iload_n hO 0 dX9_wordRead_179 rfl ?_
            refine z_bipush hO dX9_wordRead_180 (by decide) ?_
            refine z_icmp_ne hO 189 dX9_wordRead_182 (by decide) (by decide) (by decide) (fun c182 => absurd c182 (by omega)) (fun c182 => ?_)
            refine z_iload_n hO 2 dX9_wordRead_185 rfl ?_
            refine z_goto hO 193 dX9_wordRead_186 (by decide) ?_
            refine z_putI hO 24 fp_X9_202 rfl rfl rfl (by omega) rfl rfl dX9_wordRead_193 ?_
            refine z_iload_n hO 0 dX9_wordRead_196 rfl ?_
            exact z_retI hO hR dX9_wordRead_197 (by unfold wrF; rw [if_pos (by omega)]; (first | rw [if_pos (by omega)] | rw [if_neg (by omega)]); unfold vlW; (repeat' split) <;> first | (exfalso; omega) | (simp [fl_row_ne, fl_ne, up_row_ne, up_ne, up_eq, up_nk, up_up, up_self, ne_eq, Nat.reduceEqDiff, Int.reduceEq, reduceCtorEq, not_false_eq_true, not_true_eq_false]; done) | (constructor <;> first | rfl | omega | simp [fl_row_ne, fl_ne, up_row_ne, up_ne, up_eq, up_nk, up_up, up_self, ne_eq, Nat.reduceEqDiff, Int.reduceEq, reduceCtorEq, not_false_eq_true, not_true_eq_false]))
          ·
            refine z_bipush hO dX9_wordRead_165 (by decide) ?_
            refine z_iload_n hO 0 dX9_wordRead_167 rfl ?_
            refine z_bipush hO dX9_wordRead_168 (by decide) ?_
            refine z_idiv hO dX9_wordRead_170 (by omega) (by omega) ?_
            refine z_iadd hO dX9_wordRead_171 ?_
            refine z_goto hO 177 dX9_wordRead_172 (by decide) ?_
            refine z_istore_n hO (L' := [(3, _), (2, _), (1, _), (0, _)]) dX9_wordRead_177 (by decide) rfl ?_
            refine z_aload_n hO 3 dX9_wordRead_178 rfl ?_
            refine z_iload_n hO 0 dX9_wordRead_179 rfl ?_
            refine z_bipush hO dX9_wordRead_180 (by decide) ?_
            refine z_icmp_ne hO 189 dX9_wordRead_182 (by decide) (by omega) (by decide) (fun c182 => ?_) (fun c182 => ?_)
            ·
              refine z_aload_n hO 3 dX9_wordRead_189 rfl ?_
              refine z_getI hO 24 fl_X9_202 rfl rfl rfl dX9_wordRead_190 (fun r190 => ?_)
              try simp only [fl_row_ne, fl_ne, up_row_ne, up_ne, up_eq, up_nk, up_up, up_self, ne_eq, Nat.reduceEqDiff, Int.reduceEq, reduceCtorEq, not_false_eq_true, not_true_eq_false, sk_sk] at r190 ⊢
              refine z_putI hO 24 fp_X9_202 rfl rfl rfl (by omega) rfl rfl dX9_wordRead_193 ?_
              refine z_iload_n hO 0 dX9_wordRead_196 rfl ?_
              exact z_retI hO hR dX9_wordRead_197 (by unfold wrF; rw [if_pos (by omega)]; (first | rw [if_pos (by omega)] | rw [if_neg (by omega)]); unfold vlW; (repeat' split) <;> first | (exfalso; omega) | (simp [fl_row_ne, fl_ne, up_row_ne, up_ne, up_eq, up_nk, up_up, up_self, ne_eq, Nat.reduceEqDiff, Int.reduceEq, reduceCtorEq, not_false_eq_true, not_true_eq_false]; done) | (constructor <;> first | rfl | omega | simp [fl_row_ne, fl_ne, up_row_ne, up_ne, up_eq, up_nk, up_up, up_self, ne_eq, Nat.reduceEqDiff, Int.reduceEq, reduceCtorEq, not_false_eq_true, not_true_eq_false]))
            ·
              refine z_iload_n hO 2 dX9_wordRead_185 rfl ?_
              refine z_goto hO 193 dX9_wordRead_186 (by decide) ?_
              refine z_putI hO 24 fp_X9_202 rfl rfl rfl (by omega) rfl rfl dX9_wordRead_193 ?_
              refine z_iload_n hO 0 dX9_wordRead_196 rfl ?_
              exact z_retI hO hR dX9_wordRead_197 (by unfold wrF; rw [if_pos (by omega)]; (first | rw [if_pos (by omega)] | rw [if_neg (by omega)]); unfold vlW; (repeat' split) <;> first | (exfalso; omega) | (simp [fl_row_ne, fl_ne, up_row_ne, up_ne, up_eq, up_nk, up_up, up_self, ne_eq, Nat.reduceEqDiff, Int.reduceEq, reduceCtorEq, not_false_eq_true, not_true_eq_false]; done) | (constructor <;> first | rfl | omega | simp [fl_row_ne, fl_ne, up_row_ne, up_ne, up_eq, up_nk, up_up, up_self, ne_eq, Nat.reduceEqDiff, Int.reduceEq, reduceCtorEq, not_false_eq_true, not_true_eq_false]))
    ·
      refine z_aload_n hO 2 dX9_wordRead_86 rfl ?_
      refine z_getR hO (124) fl_X9_41 rfl rfl dX9_wordRead_87 ?_
      refine z_aload_n hO 2 dX9_wordRead_90 rfl ?_
      refine z_getI hO 24 fl_X9_202 rfl rfl rfl dX9_wordRead_91 (fun r91 => ?_)
      try simp only [fl_row_ne, fl_ne, up_row_ne, up_ne, up_eq, up_nk, up_up, up_self, ne_eq, Nat.reduceEqDiff, Int.reduceEq, reduceCtorEq, not_false_eq_true, not_true_eq_false, sk_sk] at r91 ⊢
      refine z_iald hO rfl (by omega) (by decide) dX9_wordRead_94 (fun r94 => ?_)
      try simp only [fl_row_ne, fl_ne, up_row_ne, up_ne, up_eq, up_nk, up_up, up_self, ne_eq, Nat.reduceEqDiff, Int.reduceEq, reduceCtorEq, not_false_eq_true, not_true_eq_false, sk_sk] at r94 ⊢
      refine z_i2l hO dX9_wordRead_95 (by omega) ?_
      refine z_ldc2 hO k_X9_208 dX9_wordRead_96 ?_
      refine z_ldc2 hO k_X9_210 dX9_wordRead_99 ?_
      refine z_csQ hO (t_X9_in (by omega) (by omega) (by omega)) cs_X9_75 rfl rfl (by decide) (Nat.le_of_ble_eq_true rfl) dX9_wordRead_102 (fun c102 => ?_) (fun c102 => ?_)
      ·
        try simp only [fl_row_ne, fl_ne, up_row_ne, up_ne, up_eq, up_nk, up_up, up_self, ne_eq, Nat.reduceEqDiff, Int.reduceEq, reduceCtorEq, not_false_eq_true, not_true_eq_false, sk_sk] at c102 ⊢
        refine z_if_eq hO 136 dX9_wordRead_105 (by decide) (by decide) (fun c105 => absurd c105 (by omega)) (fun c105 => ?_)
        refine z_bipush hO dX9_wordRead_108 (by decide) ?_
        refine z_iload_n hO 0 dX9_wordRead_110 rfl ?_
        refine z_imul hO dX9_wordRead_111 ?_
        refine z_aload_n hO 2 dX9_wordRead_112 rfl ?_
        refine z_getR hO (124) fl_X9_41 rfl rfl dX9_wordRead_113 ?_
        refine z_aload_n hO 2 dX9_wordRead_116 rfl ?_
        refine z_getI hO 24 fl_X9_202 rfl rfl rfl dX9_wordRead_117 (fun r117 => ?_)
        try simp only [fl_row_ne, fl_ne, up_row_ne, up_ne, up_eq, up_nk, up_up, up_self, ne_eq, Nat.reduceEqDiff, Int.reduceEq, reduceCtorEq, not_false_eq_true, not_true_eq_false, sk_sk] at r117 ⊢
        refine z_iald hO rfl (by omega) (by decide) dX9_wordRead_120 (fun r120 => ?_)
        try simp only [fl_row_ne, fl_ne, up_row_ne, up_ne, up_eq, up_nk, up_up, up_self, ne_eq, Nat.reduceEqDiff, Int.reduceEq, reduceCtorEq, not_false_eq_true, not_true_eq_false, sk_sk] at r120 ⊢
        refine z_iadd hO dX9_wordRead_121 ?_
        refine z_bipush hO dX9_wordRead_122 (by decide) ?_
        refine z_isub hO dX9_wordRead_124 ?_
        refine z_istore_n hO (L' := [(2, _), (1, _), (0, _)]) dX9_wordRead_125 (by decide) rfl ?_
        refine z_aload_n hO 2 dX9_wordRead_126 rfl ?_
        refine z_dup hO dX9_wordRead_127 rfl ?_
        refine z_getI hO 24 fl_X9_202 rfl rfl rfl dX9_wordRead_128 (fun r128 => ?_)
        try simp only [fl_row_ne, fl_ne, up_row_ne, up_ne, up_eq, up_nk, up_up, up_self, ne_eq, Nat.reduceEqDiff, Int.reduceEq, reduceCtorEq, not_false_eq_true, not_true_eq_false, sk_sk] at r128 ⊢
        refine z_iconst hO dX9_wordRead_131 ?_
        refine z_iadd hO dX9_wordRead_132 ?_
        refine z_putI hO 24 fp_X9_202 rfl rfl rfl (by omega) rfl rfl dX9_wordRead_133 ?_
        refine z_iload_n hO 0 dX9_wordRead_136 rfl ?_
        refine z_i2l hO dX9_wordRead_137 (by omega) ?_
        refine z_lconst hO 1 dX9_wordRead_138 (by decide) ?_
        refine z_ldc2 hO k_X9_89 dX9_wordRead_139 ?_
        refine z_csQ hO (t_X9_in (by omega) (by omega) (by omega)) cs_X9_75 rfl rfl (by decide) (Nat.le_of_ble_eq_true rfl) dX9_wordRead_142 (fun c142 => ?_) (fun c142 => ?_)
        ·
          try simp only [fl_row_ne, fl_ne, up_row_ne, up_ne, up_eq, up_nk, up_up, up_self, ne_eq, Nat.reduceEqDiff, Int.reduceEq, reduceCtorEq, not_false_eq_true, not_true_eq_false, sk_sk] at c142 ⊢
          refine z_if_eq hO 152 dX9_wordRead_145 (by decide) (by decide) (fun c145 => absurd c145 (by omega)) (fun c145 => ?_)
          refine z_iload_n hO 0 dX9_wordRead_148 rfl ?_
          refine z_goto hO 177 dX9_wordRead_149 (by decide) ?_
          refine z_istore_n hO (L' := [(3, _), (2, _), (1, _), (0, _)]) dX9_wordRead_177 (by decide) rfl ?_
          refine z_aload_n hO 3 dX9_wordRead_178 rfl ?_
          refine z_iload_n hO 0 dX9_wordRead_179 rfl ?_
          refine z_bipush hO dX9_wordRead_180 (by decide) ?_
          refine z_icmp_ne hO 189 dX9_wordRead_182 (by decide) (by omega) (by decide) (fun c182 => ?_) (fun c182 => ?_)
          ·
            refine z_aload_n hO 3 dX9_wordRead_189 rfl ?_
            refine z_getI hO 24 fl_X9_202 rfl rfl rfl dX9_wordRead_190 (fun r190 => ?_)
            try simp only [fl_row_ne, fl_ne, up_row_ne, up_ne, up_eq, up_nk, up_up, up_self, ne_eq, Nat.reduceEqDiff, Int.reduceEq, reduceCtorEq, not_false_eq_true, not_true_eq_false, sk_sk] at r190 ⊢
            refine z_putI hO 24 fp_X9_202 rfl rfl rfl (by omega) rfl rfl dX9_wordRead_193 ?_
            refine z_iload_n hO 0 dX9_wordRead_196 rfl ?_
            exact z_retI hO hR dX9_wordRead_197 (by unfold wrF; rw [if_pos (by omega)]; (first | rw [if_pos (by omega)] | rw [if_neg (by omega)]); unfold vlW; (repeat' split) <;> first | (exfalso; omega) | (simp [fl_row_ne, fl_ne, up_row_ne, up_ne, up_eq, up_nk, up_up, up_self, ne_eq, Nat.reduceEqDiff, Int.reduceEq, reduceCtorEq, not_false_eq_true, not_true_eq_false]; done) | (constructor <;> first | rfl | omega | simp [fl_row_ne, fl_ne, up_row_ne, up_ne, up_eq, up_nk, up_up, up_self, ne_eq, Nat.reduceEqDiff, Int.reduceEq, reduceCtorEq, not_false_eq_true, not_true_eq_false]))
          ·
            refine z_iload_n hO 2 dX9_wordRead_185 rfl ?_
            refine z_goto hO 193 dX9_wordRead_186 (by decide) ?_
            refine z_putI hO 24 fp_X9_202 rfl rfl rfl (by omega) rfl rfl dX9_wordRead_193 ?_
            refine z_iload_n hO 0 dX9_wordRead_196 rfl ?_
            exact z_retI hO hR dX9_wordRead_197 (by unfold wrF; rw [if_pos (by omega)]; (first | rw [if_pos (by omega)] | rw [if_neg (by omega)]); unfold vlW; (repeat' split) <;> first | (exfalso; omega) | (simp [fl_row_ne, fl_ne, up_row_ne, up_ne, up_eq, up_nk, up_up, up_self, ne_eq, Nat.reduceEqDiff, Int.reduceEq, reduceCtorEq, not_false_eq_true, not_true_eq_false]; done) | (constructor <;> first | rfl | omega | simp [fl_row_ne, fl_ne, up_row_ne, up_ne, up_eq, up_nk, up_up, up_self, ne_eq, Nat.reduceEqDiff, Int.reduceEq, reduceCtorEq, not_false_eq_true, not_true_eq_false]))
        ·
          try simp only [fl_row_ne, fl_ne, up_row_ne, up_ne, up_eq, up_nk, up_up, up_self, ne_eq, Nat.reduceEqDiff, Int.reduceEq, reduceCtorEq, not_false_eq_true, not_true_eq_false, sk_sk] at c142 ⊢
          refine z_if_eq hO 152 dX9_wordRead_145 (by decide) (by decide) (fun c145 => ?_) (fun c145 => absurd c145 (by omega))
          refine z_iload_n hO 0 dX9_wordRead_152 rfl ?_
          refine z_bipush hO dX9_wordRead_153 (by decide) ?_
          refine z_icmp_le hO 175 dX9_wordRead_155 (by decide) (by omega) (by decide) (fun c155 => ?_) (fun c155 => ?_)
          ·
            refine z_bipush hO dX9_wordRead_175 (by decide) ?_
            refine z_istore_n hO (L' := [(3, _), (2, _), (1, _), (0, _)]) dX9_wordRead_177 (by decide) rfl ?_
            refine z_aload_n hO 3 dX9_wordRead_178 rfl ?_
            refine z_iload_n hO 0 dX9_wordRead_179 rfl ?_
            refine z_bipush hO dX9_wordRead_180 (by decide) ?_
            refine z_icmp_ne hO 189 dX9_wordRead_182 (by decide) (by decide) (by decide) (fun c182 => absurd c182 (by omega)) (fun c182 => ?_)
            refine z_iload_n hO 2 dX9_wordRead_185 rfl ?_
            refine z_goto hO 193 dX9_wordRead_186 (by decide) ?_
            refine z_putI hO 24 fp_X9_202 rfl rfl rfl (by omega) rfl rfl dX9_wordRead_193 ?_
            refine z_iload_n hO 0 dX9_wordRead_196 rfl ?_
            exact z_retI hO hR dX9_wordRead_197 (by unfold wrF; rw [if_pos (by omega)]; (first | rw [if_pos (by omega)] | rw [if_neg (by omega)]); unfold vlW; (repeat' split) <;> first | (exfalso; omega) | (simp [fl_row_ne, fl_ne, up_row_ne, up_ne, up_eq, up_nk, up_up, up_self, ne_eq, Nat.reduceEqDiff, Int.reduceEq, reduceCtorEq, not_false_eq_true, not_true_eq_false]; done) | (constructor <;> first | rfl | omega | simp [fl_row_ne, fl_ne, up_row_ne, up_ne, up_eq, up_nk, up_up, up_self, ne_eq, Nat.reduceEqDiff, Int.reduceEq, reduceCtorEq, not_false_eq_true, not_true_eq_false]))
          ·
            refine z_iload_n hO 0 dX9_wordRead_158 rfl ?_
            refine z_bipush hO dX9_wordRead_159 (by decide) ?_
            refine z_irem hO dX9_wordRead_161 (by omega) (by omega) ?_
            refine z_if_ne hO 175 dX9_wordRead_162 (by decide) (by omega) (fun c162 => ?_) (fun c162 => ?_)
            ·
              refine z_bipush hO dX9_wordRead_175 (by decide) ?_
              refine z_istore_n hO (L' := [(3, _), (2, _), (1, _), (0, _)]) dX9_wordRead_177 (by decide) rfl ?_
              refine z_aload_n hO 3 dX9_wordRead_178 rfl ?_
              refine z_iload_n hO 0 dX9_wordRead_179 rfl ?_
              refine z_bipush hO dX9_wordRead_180 (by decide) ?_
              refine z_icmp_ne hO 189 dX9_wordRead_182 (by decide) (by decide) (by decide) (fun c182 => absurd c182 (by omega)) (fun c182 => ?_)
              refine z_iload_n hO 2 dX9_wordRead_185 rfl ?_
              refine z_goto hO 193 dX9_wordRead_186 (by decide) ?_
              refine z_putI hO 24 fp_X9_202 rfl rfl rfl (by omega) rfl rfl dX9_wordRead_193 ?_
              refine z_iload_n hO 0 dX9_wordRead_196 rfl ?_
              exact z_retI hO hR dX9_wordRead_197 (by unfold wrF; rw [if_pos (by omega)]; (first | rw [if_pos (by omega)] | rw [if_neg (by omega)]); unfold vlW; (repeat' split) <;> first | (exfalso; omega) | (simp [fl_row_ne, fl_ne, up_row_ne, up_ne, up_eq, up_nk, up_up, up_self, ne_eq, Nat.reduceEqDiff, Int.reduceEq, reduceCtorEq, not_false_eq_true, not_true_eq_false]; done) | (constructor <;> first | rfl | omega | simp [fl_row_ne, fl_ne, up_row_ne, up_ne, up_eq, up_nk, up_up, up_self, ne_eq, Nat.reduceEqDiff, Int.reduceEq, reduceCtorEq, not_false_eq_true, not_true_eq_false]))
            ·
              refine z_bipush hO dX9_wordRead_165 (by decide) ?_
              refine z_iload_n hO 0 dX9_wordRead_167 rfl ?_
              refine z_bipush hO dX9_wordRead_168 (by decide) ?_
              refine z_idiv hO dX9_wordRead_170 (by omega) (by omega) ?_
              refine z_iadd hO dX9_wordRead_171 ?_
              refine z_goto hO 177 dX9_wordRead_172 (by decide) ?_
              refine z_istore_n hO (L' := [(3, _), (2, _), (1, _), (0, _)]) dX9_wordRead_177 (by decide) rfl ?_
              refine z_aload_n hO 3 dX9_wordRead_178 rfl ?_
              refine z_iload_n hO 0 dX9_wordRead_179 rfl ?_
              refine z_bipush hO dX9_wordRead_180 (by decide) ?_
              refine z_icmp_ne hO 189 dX9_wordRead_182 (by decide) (by omega) (by decide) (fun c182 => ?_) (fun c182 => ?_)
              ·
                refine z_aload_n hO 3 dX9_wordRead_189 rfl ?_
                refine z_getI hO 24 fl_X9_202 rfl rfl rfl dX9_wordRead_190 (fun r190 => ?_)
                try simp only [fl_row_ne, fl_ne, up_row_ne, up_ne, up_eq, up_nk, up_up, up_self, ne_eq, Nat.reduceEqDiff, Int.reduceEq, reduceCtorEq, not_false_eq_true, not_true_eq_false, sk_sk] at r190 ⊢
                refine z_putI hO 24 fp_X9_202 rfl rfl rfl (by omega) rfl rfl dX9_wordRead_193 ?_
                refine z_iload_n hO 0 dX9_wordRead_196 rfl ?_
                exact z_retI hO hR dX9_wordRead_197 (by unfold wrF; rw [if_pos (by omega)]; (first | rw [if_pos (by omega)] | rw [if_neg (by omega)]); unfold vlW; (repeat' split) <;> first | (exfalso; omega) | (simp [fl_row_ne, fl_ne, up_row_ne, up_ne, up_eq, up_nk, up_up, up_self, ne_eq, Nat.reduceEqDiff, Int.reduceEq, reduceCtorEq, not_false_eq_true, not_true_eq_false]; done) | (constructor <;> first | rfl | omega | simp [fl_row_ne, fl_ne, up_row_ne, up_ne, up_eq, up_nk, up_up, up_self, ne_eq, Nat.reduceEqDiff, Int.reduceEq, reduceCtorEq, not_false_eq_true, not_true_eq_false]))
              ·
                refine z_iload_n hO 2 dX9_wordRead_185 rfl ?_
                refine z_goto hO 193 dX9_wordRead_186 (by decide) ?_
                refine z_putI hO 24 fp_X9_202 rfl rfl rfl (by omega) rfl rfl dX9_wordRead_193 ?_
                refine z_iload_n hO 0 dX9_wordRead_196 rfl ?_
                exact z_retI hO hR dX9_wordRead_197 (by unfold wrF; rw [if_pos (by omega)]; (first | rw [if_pos (by omega)] | rw [if_neg (by omega)]); unfold vlW; (repeat' split) <;> first | (exfalso; omega) | (simp [fl_row_ne, fl_ne, up_row_ne, up_ne, up_eq, up_nk, up_up, up_self, ne_eq, Nat.reduceEqDiff, Int.reduceEq, reduceCtorEq, not_false_eq_true, not_true_eq_false]; done) | (constructor <;> first | rfl | omega | simp [fl_row_ne, fl_ne, up_row_ne, up_ne, up_eq, up_nk, up_up, up_self, ne_eq, Nat.reduceEqDiff, Int.reduceEq, reduceCtorEq, not_false_eq_true, not_true_eq_false]))
      ·
        try simp only [fl_row_ne, fl_ne, up_row_ne, up_ne, up_eq, up_nk, up_up, up_self, ne_eq, Nat.reduceEqDiff, Int.reduceEq, reduceCtorEq, not_false_eq_true, not_true_eq_false, sk_sk] at c102 ⊢
        refine z_if_eq hO 136 dX9_wordRead_105 (by decide) (by decide) (fun c105 => ?_) (fun c105 => absurd c105 (by omega))
        refine z_iload_n hO 0 dX9_wordRead_136 rfl ?_
        refine z_i2l hO dX9_wordRead_137 (by omega) ?_
        refine z_lconst hO 1 dX9_wordRead_138 (by decide) ?_
        refine z_ldc2 hO k_X9_89 dX9_wordRead_139 ?_
        refine z_csQ hO (t_X9_in (by omega) (by omega) (by omega)) cs_X9_75 rfl rfl (by decide) (Nat.le_of_ble_eq_true rfl) dX9_wordRead_142 (fun c142 => ?_) (fun c142 => ?_)
        ·
          try simp only [fl_row_ne, fl_ne, up_row_ne, up_ne, up_eq, up_nk, up_up, up_self, ne_eq, Nat.reduceEqDiff, Int.reduceEq, reduceCtorEq, not_false_eq_true, not_true_eq_false, sk_sk] at c142 ⊢
          refine z_if_eq hO 152 dX9_wordRead_145 (by decide) (by decide) (fun c145 => absurd c145 (by omega)) (fun c145 => ?_)
          refine z_iload_n hO 0 dX9_wordRead_148 rfl ?_
          refine z_goto hO 177 dX9_wordRead_149 (by decide) ?_
          refine z_istore_n hO (L' := [(3, _), (2, _), (1, _), (0, _)]) dX9_wordRead_177 (by decide) rfl ?_
          refine z_aload_n hO 3 dX9_wordRead_178 rfl ?_
          refine z_iload_n hO 0 dX9_wordRead_179 rfl ?_
          refine z_bipush hO dX9_wordRead_180 (by decide) ?_
          refine z_icmp_ne hO 189 dX9_wordRead_182 (by decide) (by omega) (by decide) (fun c182 => ?_) (fun c182 => ?_)
          ·
            refine z_aload_n hO 3 dX9_wordRead_189 rfl ?_
            refine z_getI hO 24 fl_X9_202 rfl rfl rfl dX9_wordRead_190 (fun r190 => ?_)
            try simp only [fl_row_ne, fl_ne, up_row_ne, up_ne, up_eq, up_nk, up_up, up_self, ne_eq, Nat.reduceEqDiff, Int.reduceEq, reduceCtorEq, not_false_eq_true, not_true_eq_false, sk_sk] at r190 ⊢
            refine z_putI hO 24 fp_X9_202 rfl rfl rfl (by omega) rfl rfl dX9_wordRead_193 ?_
            refine z_iload_n hO 0 dX9_wordRead_196 rfl ?_
            exact z_retI hO hR dX9_wordRead_197 (by unfold wrF; rw [if_pos (by omega)]; (first | rw [if_pos (by omega)] | rw [if_neg (by omega)]); unfold vlW; (repeat' split) <;> first | (exfalso; omega) | (simp [fl_row_ne, fl_ne, up_row_ne, up_ne, up_eq, up_nk, up_up, up_self, ne_eq, Nat.reduceEqDiff, Int.reduceEq, reduceCtorEq, not_false_eq_true, not_true_eq_false]; done) | (constructor <;> first | rfl | omega | simp [fl_row_ne, fl_ne, up_row_ne, up_ne, up_eq, up_nk, up_up, up_self, ne_eq, Nat.reduceEqDiff, Int.reduceEq, reduceCtorEq, not_false_eq_true, not_true_eq_false]))
          ·
            refine z_iload_n hO 2 dX9_wordRead_185 rfl ?_
            refine z_goto hO 193 dX9_wordRead_186 (by decide) ?_
            refine z_putI hO 24 fp_X9_202 rfl rfl rfl (by omega) rfl rfl dX9_wordRead_193 ?_
            refine z_iload_n hO 0 dX9_wordRead_196 rfl ?_
            exact z_retI hO hR dX9_wordRead_197 (by unfold wrF; rw [if_pos (by omega)]; (first | rw [if_pos (by omega)] | rw [if_neg (by omega)]); unfold vlW; (repeat' split) <;> first | (exfalso; omega) | (simp [fl_row_ne, fl_ne, up_row_ne, up_ne, up_eq, up_nk, up_up, up_self, ne_eq, Nat.reduceEqDiff, Int.reduceEq, reduceCtorEq, not_false_eq_true, not_true_eq_false]; done) | (constructor <;> first | rfl | omega | simp [fl_row_ne, fl_ne, up_row_ne, up_ne, up_eq, up_nk, up_up, up_self, ne_eq, Nat.reduceEqDiff, Int.reduceEq, reduceCtorEq, not_false_eq_true, not_true_eq_false]))
        ·
          try simp only [fl_row_ne, fl_ne, up_row_ne, up_ne, up_eq, up_nk, up_up, up_self, ne_eq, Nat.reduceEqDiff, Int.reduceEq, reduceCtorEq, not_false_eq_true, not_true_eq_false, sk_sk] at c142 ⊢
          refine z_if_eq hO 152 dX9_wordRead_145 (by decide) (by decide) (fun c145 => ?_) (fun c145 => absurd c145 (by omega))
          refine z_iload_n hO 0 dX9_wordRead_152 rfl ?_
          refine z_bipush hO dX9_wordRead_153 (by decide) ?_
          refine z_icmp_le hO 175 dX9_wordRead_155 (by decide) (by omega) (by decide) (fun c155 => ?_) (fun c155 => ?_)
          ·
            refine z_bipush hO dX9_wordRead_175 (by decide) ?_
            refine z_istore_n hO (L' := [(3, _), (2, _), (1, _), (0, _)]) dX9_wordRead_177 (by decide) rfl ?_
            refine z_aload_n hO 3 dX9_wordRead_178 rfl ?_
            refine z_iload_n hO 0 dX9_wordRead_179 rfl ?_
            refine z_bipush hO dX9_wordRead_180 (by decide) ?_
            refine z_icmp_ne hO 189 dX9_wordRead_182 (by decide) (by decide) (by decide) (fun c182 => absurd c182 (by omega)) (fun c182 => ?_)
            refine z_iload_n hO 2 dX9_wordRead_185 rfl ?_
            refine z_goto hO 193 dX9_wordRead_186 (by decide) ?_
            refine z_putI hO 24 fp_X9_202 rfl rfl rfl (by omega) rfl rfl dX9_wordRead_193 ?_
            refine z_iload_n hO 0 dX9_wordRead_196 rfl ?_
            exact z_retI hO hR dX9_wordRead_197 (by unfold wrF; rw [if_pos (by omega)]; (first | rw [if_pos (by omega)] | rw [if_neg (by omega)]); unfold vlW; (repeat' split) <;> first | (exfalso; omega) | (simp [fl_row_ne, fl_ne, up_row_ne, up_ne, up_eq, up_nk, up_up, up_self, ne_eq, Nat.reduceEqDiff, Int.reduceEq, reduceCtorEq, not_false_eq_true, not_true_eq_false]; done) | (constructor <;> first | rfl | omega | simp [fl_row_ne, fl_ne, up_row_ne, up_ne, up_eq, up_nk, up_up, up_self, ne_eq, Nat.reduceEqDiff, Int.reduceEq, reduceCtorEq, not_false_eq_true, not_true_eq_false]))
          ·
            refine z_iload_n hO 0 dX9_wordRead_158 rfl ?_
            refine z_bipush hO dX9_wordRead_159 (by decide) ?_
            refine z_irem hO dX9_wordRead_161 (by omega) (by omega) ?_
            refine z_if_ne hO 175 dX9_wordRead_162 (by decide) (by omega) (fun c162 => ?_) (fun c162 => ?_)
            ·
              refine z_bipush hO dX9_wordRead_175 (by decide) ?_
              refine z_istore_n hO (L' := [(3, _), (2, _), (1, _), (0, _)]) dX9_wordRead_177 (by decide) rfl ?_
              refine z_aload_n hO 3 dX9_wordRead_178 rfl ?_
              refine z_iload_n hO 0 dX9_wordRead_179 rfl ?_
              refine z_bipush hO dX9_wordRead_180 (by decide) ?_
              refine z_icmp_ne hO 189 dX9_wordRead_182 (by decide) (by decide) (by decide) (fun c182 => absurd c182 (by omega)) (fun c182 => ?_)
              refine z_iload_n hO 2 dX9_wordRead_185 rfl ?_
              refine z_goto hO 193 dX9_wordRead_186 (by decide) ?_
              refine z_putI hO 24 fp_X9_202 rfl rfl rfl (by omega) rfl rfl dX9_wordRead_193 ?_
              refine z_iload_n hO 0 dX9_wordRead_196 rfl ?_
              exact z_retI hO hR dX9_wordRead_197 (by unfold wrF; rw [if_pos (by omega)]; (first | rw [if_pos (by omega)] | rw [if_neg (by omega)]); unfold vlW; (repeat' split) <;> first | (exfalso; omega) | (simp [fl_row_ne, fl_ne, up_row_ne, up_ne, up_eq, up_nk, up_up, up_self, ne_eq, Nat.reduceEqDiff, Int.reduceEq, reduceCtorEq, not_false_eq_true, not_true_eq_false]; done) | (constructor <;> first | rfl | omega | simp [fl_row_ne, fl_ne, up_row_ne, up_ne, up_eq, up_nk, up_up, up_self, ne_eq, Nat.reduceEqDiff, Int.reduceEq, reduceCtorEq, not_false_eq_true, not_true_eq_false]))
            ·
              refine z_bipush hO dX9_wordRead_165 (by decide) ?_
              refine z_iload_n hO 0 dX9_wordRead_167 rfl ?_
              refine z_bipush hO dX9_wordRead_168 (by decide) ?_
              refine z_idiv hO dX9_wordRead_170 (by omega) (by omega) ?_
              refine z_iadd hO dX9_wordRead_171 ?_
              refine z_goto hO 177 dX9_wordRead_172 (by decide) ?_
              refine z_istore_n hO (L' := [(3, _), (2, _), (1, _), (0, _)]) dX9_wordRead_177 (by decide) rfl ?_
              refine z_aload_n hO 3 dX9_wordRead_178 rfl ?_
              refine z_iload_n hO 0 dX9_wordRead_179 rfl ?_
              refine z_bipush hO dX9_wordRead_180 (by decide) ?_
              refine z_icmp_ne hO 189 dX9_wordRead_182 (by decide) (by omega) (by decide) (fun c182 => ?_) (fun c182 => ?_)
              ·
                refine z_aload_n hO 3 dX9_wordRead_189 rfl ?_
                refine z_getI hO 24 fl_X9_202 rfl rfl rfl dX9_wordRead_190 (fun r190 => ?_)
                try simp only [fl_row_ne, fl_ne, up_row_ne, up_ne, up_eq, up_nk, up_up, up_self, ne_eq, Nat.reduceEqDiff, Int.reduceEq, reduceCtorEq, not_false_eq_true, not_true_eq_false, sk_sk] at r190 ⊢
                refine z_putI hO 24 fp_X9_202 rfl rfl rfl (by omega) rfl rfl dX9_wordRead_193 ?_
                refine z_iload_n hO 0 dX9_wordRead_196 rfl ?_
                exact z_retI hO hR dX9_wordRead_197 (by unfold wrF; rw [if_pos (by omega)]; (first | rw [if_pos (by omega)] | rw [if_neg (by omega)]); unfold vlW; (repeat' split) <;> first | (exfalso; omega) | (simp [fl_row_ne, fl_ne, up_row_ne, up_ne, up_eq, up_nk, up_up, up_self, ne_eq, Nat.reduceEqDiff, Int.reduceEq, reduceCtorEq, not_false_eq_true, not_true_eq_false]; done) | (constructor <;> first | rfl | omega | simp [fl_row_ne, fl_ne, up_row_ne, up_ne, up_eq, up_nk, up_up, up_self, ne_eq, Nat.reduceEqDiff, Int.reduceEq, reduceCtorEq, not_false_eq_true, not_true_eq_false]))
              ·
                refine z_iload_n hO 2 dX9_wordRead_185 rfl ?_
                refine z_goto hO 193 dX9_wordRead_186 (by decide) ?_
                refine z_putI hO 24 fp_X9_202 rfl rfl rfl (by omega) rfl rfl dX9_wordRead_193 ?_
                refine z_iload_n hO 0 dX9_wordRead_196 rfl ?_
                exact z_retI hO hR dX9_wordRead_197 (by unfold wrF; rw [if_pos (by omega)]; (first | rw [if_pos (by omega)] | rw [if_neg (by omega)]); unfold vlW; (repeat' split) <;> first | (exfalso; omega) | (simp [fl_row_ne, fl_ne, up_row_ne, up_ne, up_eq, up_nk, up_up, up_self, ne_eq, Nat.reduceEqDiff, Int.reduceEq, reduceCtorEq, not_false_eq_true, not_true_eq_false]; done) | (constructor <;> first | rfl | omega | simp [fl_row_ne, fl_ne, up_row_ne, up_ne, up_eq, up_nk, up_up, up_self, ne_eq, Nat.reduceEqDiff, Int.reduceEq, reduceCtorEq, not_false_eq_true, not_true_eq_false]))
  ·
    try simp only [fl_row_ne, fl_ne, up_row_ne, up_ne, up_eq, up_nk, up_up, up_self, ne_eq, Nat.reduceEqDiff, Int.reduceEq, reduceCtorEq, not_false_eq_true, not_true_eq_false, sk_sk] at c11 ⊢
    refine z_if_ne hO 47 dX9_wordRead_14 (by decide) (by decide) (fun c14 => absurd c14 (by omega)) (fun c14 => ?_)
    refine z_aload_n hO 0 dX9_wordRead_17 rfl ?_
    refine z_cvI hO (t_X9_here (by first | exact hT | (simp only [fl_row_ne, fl_ne, up_row_ne, up_ne, up_eq, up_nk, up_up, up_self, ne_eq, Nat.reduceEqDiff, Int.reduceEq, reduceCtorEq, not_false_eq_true, not_true_eq_false]; exact hT)) (by first | exact hp | (simp only [fl_row_ne, fl_ne, up_row_ne, up_ne, up_eq, up_nk, up_up, up_self, ne_eq, Nat.reduceEqDiff, Int.reduceEq, reduceCtorEq, not_false_eq_true, not_true_eq_false]; omega))) cv_X9_205 rfl rfl rfl rfl (by decide) (Nat.le_of_ble_eq_true rfl) dX9_wordRead_18 (fun v18 s18 p18 => ?_)
    try simp only [fl_row_ne, fl_ne, up_row_ne, up_ne, up_eq, up_nk, up_up, up_self, ne_eq, Nat.reduceEqDiff, Int.reduceEq, reduceCtorEq, not_false_eq_true, not_true_eq_false] at p18
    obtain ⟨rfl, rfl⟩ := p18
    try simp only [fl_row_ne, fl_ne, up_row_ne, up_ne, up_eq, up_nk, up_up, up_self, ne_eq, Nat.reduceEqDiff, Int.reduceEq, reduceCtorEq, not_false_eq_true, not_true_eq_false, sk_sk]
    refine z_csE hO (t_X9_letterWord (by omega)) cs_X9_212 rfl rfl (by decide) (Nat.le_of_ble_eq_true rfl) dX9_wordRead_21 ?_
    try simp only [fl_row_ne, fl_ne, up_row_ne, up_ne, up_eq, up_nk, up_up, up_self, ne_eq, Nat.reduceEqDiff, Int.reduceEq, reduceCtorEq, not_false_eq_true, not_true_eq_false, sk_sk]
    refine z_istore_n hO (L' := [(1, _), (0, _)]) dX9_wordRead_24 (by decide) rfl ?_
    refine z_aload_n hO 1 dX9_wordRead_25 rfl ?_
    refine z_dup hO dX9_wordRead_26 rfl ?_
    refine z_getI hO 24 fl_X9_202 rfl rfl rfl dX9_wordRead_27 (fun r27 => ?_)
    try simp only [fl_row_ne, fl_ne, up_row_ne, up_ne, up_eq, up_nk, up_up, up_self, ne_eq, Nat.reduceEqDiff, Int.reduceEq, reduceCtorEq, not_false_eq_true, not_true_eq_false, sk_sk] at r27 ⊢
    refine z_iload_n hO 0 dX9_wordRead_30 rfl ?_
    refine z_bipush hO dX9_wordRead_31 (by decide) ?_
    refine z_icmp_ne hO 40 dX9_wordRead_33 (by decide) (by have := ltW_r (chr (σ 124) (σ 113 23) (sk (σ 124) (σ 113 23) (σ 113 24))); omega) (by decide) (fun c33 => ?_) (fun c33 => ?_)
    ·
      refine z_iconst hO dX9_wordRead_40 ?_
      refine z_iadd hO dX9_wordRead_41 ?_
      refine z_putI hO 24 fp_X9_202 rfl rfl rfl (by omega) rfl rfl dX9_wordRead_42 ?_
      refine z_iload_n hO 0 dX9_wordRead_45 rfl ?_
      exact z_retI hO hR dX9_wordRead_46 (by unfold wrF; rw [if_neg (by omega)]; first | (rw [if_pos (by omega)]; simp [fl_row_ne, fl_ne, up_row_ne, up_ne, up_eq, up_nk, up_up, up_self, ne_eq, Nat.reduceEqDiff, Int.reduceEq, reduceCtorEq, not_false_eq_true, not_true_eq_false]; omega) | (rw [if_neg (by omega)]; simp [fl_row_ne, fl_ne, up_row_ne, up_ne, up_eq, up_nk, up_up, up_self, ne_eq, Nat.reduceEqDiff, Int.reduceEq, reduceCtorEq, not_false_eq_true, not_true_eq_false]))
    ·
      refine z_iconst hO dX9_wordRead_36 ?_
      refine z_goto hO 41 dX9_wordRead_37 (by decide) ?_
      refine z_iadd hO dX9_wordRead_41 ?_
      refine z_putI hO 24 fp_X9_202 rfl rfl rfl (by omega) rfl rfl dX9_wordRead_42 ?_
      refine z_iload_n hO 0 dX9_wordRead_45 rfl ?_
      exact z_retI hO hR dX9_wordRead_46 (by unfold wrF; rw [if_neg (by omega)]; first | (rw [if_pos (by omega)]; simp [fl_row_ne, fl_ne, up_row_ne, up_ne, up_eq, up_nk, up_up, up_self, ne_eq, Nat.reduceEqDiff, Int.reduceEq, reduceCtorEq, not_false_eq_true, not_true_eq_false]; omega) | (rw [if_neg (by omega)]; simp [fl_row_ne, fl_ne, up_row_ne, up_ne, up_eq, up_nk, up_up, up_self, ne_eq, Nat.reduceEqDiff, Int.reduceEq, reduceCtorEq, not_false_eq_true, not_true_eq_false]))
