/-- nothing has changed but where p says so -/
def Fm (p : Nat → Int → Bool) (σ τ : Sg) : Prop := ∀ c k, p c k = false → τ c k = σ c k
theorem Fm.rf {p : Nat → Int → Bool} {σ : Sg} : Fm p σ σ := fun _ _ _ => rfl
theorem Fm.trans {p : Nat → Int → Bool} {σ τ υ : Sg} (h1 : Fm p σ τ) (h2 : Fm p τ υ) : Fm p σ υ := fun c k q => (h2 c k q).trans (h1 c k q)
theorem Fm.mono {p q : Nat → Int → Bool} {σ τ : Sg} (h : Fm p σ τ) (hpq : ∀ c k, q c k = false → p c k = false) : Fm q σ τ := fun c k z => h c k (hpq c k z)
theorem Fm.up {p : Nat → Int → Bool} {σ τ : Sg} (h : Fm p σ τ) {c : Nat} {k v : Int} (hp : p c k = true) : Fm p σ (up τ c k v) := by
  intro c' k' q
  by_cases hc : c' = c
  · by_cases hk : k' = k
    · subst hc; subst hk; rw [hp] at q; cases q
    · rw [up_nk hk]; exact h c' k' q
  · rw [up_ne hc]; exact h c' k' q
theorem Fm.row {p : Nat → Int → Bool} {σ τ : Sg} (h : Fm p σ τ) (c : Nat) (hp : ∀ k, p c k = false) : τ c = σ c := funext fun k => h c k (hp k)
theorem lowF_p {f : Int → Int} {i : Int} (h : 0 < (lowF f i).1) : i < (lowF f i).2 := by
  unfold lowF at h ⊢
  split at h
  · simp at h
  · rename_i h1
    rw [if_neg h1]
    split <;> (simp only; omega)
theorem moreF_p {f : Int → Int} {i : Int} (h : 0 < (moreF f i).1) : i < (moreF f i).2 := by
  unfold moreF at h ⊢
  split at h
  · rename_i h1
    rw [if_pos h1]
    split at h
    · simp at h
    · rename_i h2
      rw [if_neg h2]
      have := lowF_p h; omega
  · rename_i h1
    rw [if_neg h1]; exact lowF_p h
theorem smallF_p {f : Int → Int} {n i : Int} (hf : PF f n) (hi : 0 ≤ i) (hn : i ≤ n) (h : 0 < (smallF f i).1) : i < (smallF f i).2 := by
  unfold smallF at h ⊢
  split at h
  · rename_i h1
    rw [if_pos h1]
    have b := hf.lt (i := i + 1) (by omega)
    have c := moreF_r hf (i := i + 2) (by omega) (by omega)
    split <;> (simp only; omega)
  · rename_i h1
    rw [if_neg h1]; exact lowF_p h
theorem numF_p {f : Int → Int} {n i : Int} (hf : PF f n) (hi : 0 ≤ i) (hn : i ≤ n) (h : 0 < (numF f i).1) : i < (numF f i).2 := by
  unfold numF at h ⊢
  have a := smallF_r hf hi hn
  split at h
  · rename_i h1
    rw [if_pos h1]; exact smallF_p hf hi hn h
  · rename_i h1
    rw [if_neg h1]
    have b := hf.lt (i := (smallF f i).2) (by omega)
    have c := restF_r hf (i := (smallF f i).2 + 1) (by omega) (by omega)
    split <;> (simp only; omega)
/-- numbers from a place on, and whether they are said -/
def sdF (f : Int → Int) (n : Int) : Nat → Int → List Int × Bool
  | 0, _ => ([], false)
  | k + 1, i => if (numF f i).1 ≤ 0 then ([(numF f i).1], false) else if f (numF f i).2 = 31 then ((numF f i).1 :: (sdF f n k ((numF f i).2 + 1)).1, (sdF f n k ((numF f i).2 + 1)).2) else ([(numF f i).1], decide ((numF f i).2 = n))
def fSaid : Nat → Int → Bool := fun c k => c == 117 || (c == 113 && (k == 6 || k == 7))
def sdQ (τ τ' : Sg) (r : List Int × Bool) (b : Bool) : Prop := b = r.2 ∧ τ' 113 6 = τ 113 6 + r.1.length ∧ (∀ (j : Nat) (h : j < r.1.length), τ' 117 (τ 113 6 + j) = r.1[j]) ∧ (∀ j, j < τ 113 6 → τ' 117 j = τ 117 j) ∧ Fm fSaid τ τ'
theorem sdQ_one {τ τ' : Sg} {v i a : Int} {b : Bool} (h : τ' = up (up (up (up τ 113 7 a) 117 (τ 113 6) v) 113 6 (τ 113 6 + 1)) 113 7 i) : sdQ τ τ' ([v], b) b := by
  subst h
  refine ⟨rfl, by simp [up_eq, up_nk], fun j hj => ?_, fun j hj => ?_, (((Fm.rf.up rfl).up rfl).up rfl).up rfl⟩
  · have : j = 0 := by simpa using hj
    subst this
    simp [up_ne, up_eq]
  · rw [up_ne (by decide), up_ne (by decide), up_nk (by omega), up_ne (by decide)]
theorem sdQ_cons {τ τ1 τ' : Sg} {v : Int} {r : List Int × Bool} {b : Bool} {i a : Int} (h : τ1 = up (up (up (up τ 113 7 a) 117 (τ 113 6) v) 113 6 (τ 113 6 + 1)) 113 7 i) (q : sdQ τ1 τ' r b) : sdQ τ τ' (v :: r.1, r.2) b := by
  obtain ⟨q1, q2, q3, q4, q5⟩ := q
  have e6 : τ1 113 6 = τ 113 6 + 1 := by rw [h]; simp [up_eq, up_nk]
  rw [e6] at q2 q3 q4
  refine ⟨q1, by simp only [List.length_cons]; omega, fun j hj => ?_, fun j hj => ?_, (show Fm fSaid τ τ1 by rw [h]; exact (((Fm.rf.up rfl).up rfl).up rfl).up rfl).trans q5⟩
  · cases j with
    | zero => simp only [List.getElem_cons_zero]; rw [show τ 113 6 + ((0 : Nat) : Int) = τ 113 6 by simp, q4 _ (by omega), h]; simp [up_ne, up_eq]
    | succ j =>
      have := q3 j (by simpa using hj)
      simp only [List.getElem_cons_succ]; rw [← this]; congr 1; omega
  · rw [q4 j (by omega), h, up_ne (by decide), up_ne (by decide), up_nk (by omega), up_ne (by decide)]

set_option maxHeartbeats 4000000 in
set_option maxRecDepth 100000 in
theorem lp_isSaid {g : G} {x : Cx} {P : Bool → Sg → Prop} (hO : Ok g x RX9 cX9_isSaid 4 7) (hR : Rt g x (some .boolean) (pB P)) : ∀ (k : Nat) (τ : Sg), PF (wh (τ 116) (τ 113 3)) (τ 113 3) → 0 ≤ τ 113 7 → τ 113 7 ≤ τ 113 3 → 0 ≤ τ 113 6 → 2 * τ 113 6 ≤ τ 113 7 → τ 113 3 - τ 113 7 < k → (∀ b τ', sdQ τ τ' (sdF (wh (τ 116) (τ 113 3)) (τ 113 3) k (τ 113 7)) b → P b τ') → Z g x 4 14 [(0, .ref (g.2.2.1 113)), (1, vI 1), (2, vI 1)] [] τ := by
  intro k
  induction k with
  | zero => intro τ hw h0 h1 h2 h3 h4; exfalso; omega
  | succ k ih =>
    intro τ hw h0 h1 h2 h3 h4 hp
    have hA := hw.1
    have hB := hw.2.1
    have hN := numF_r hw h0 h1
    have hNp := fun q => numF_p hw h0 h1 q
    have hC := hw.r (numF (wh (τ 116) (τ 113 3)) (τ 113 7)).2
    have hF : wh (τ 116) (τ 113 3) (numF (wh (τ 116) (τ 113 3)) (τ 113 7)).2 = 31 → (numF (wh (τ 116) (τ 113 3)) (τ 113 7)).2 + 1 ≤ τ 113 3 := fun q => by have := hw.lt (i := (numF (wh (τ 116) (τ 113 3)) (τ 113 7)).2) (by omega); omega
    refine z_iload_n hO 1 dX9_isSaid_14 rfl ?_
    refine z_if_eq hO 108 dX9_isSaid_15 (by decide) (by decide) (fun c15 => absurd c15 (by omega)) (fun c15 => ?_)
    refine z_iload_n hO 2 dX9_isSaid_18 rfl ?_
    refine z_if_eq hO 108 dX9_isSaid_19 (by decide) (by decide) (fun c19 => absurd c19 (by omega)) (fun c19 => ?_)
    refine z_aload_n hO 0 dX9_isSaid_22 rfl ?_
    refine z_cvI hO (t_X9_number hw h0 h1) cv_X9_116 rfl rfl rfl rfl (by decide) (Nat.le_of_ble_eq_true rfl) dX9_isSaid_23 (fun v23 s23 p23 => ?_)
    obtain ⟨rfl, rfl⟩ := p23
    try simp only [fl_row_ne, fl_ne, up_row_ne, up_ne, up_eq, up_nk, up_up, up_self, ne_eq, Nat.reduceEqDiff, Int.reduceEq, reduceCtorEq, not_false_eq_true, not_true_eq_false]
    refine z_istore_n hO (L' := [(3, _), (0, _), (1, _), (2, _)]) dX9_isSaid_26 (by decide) rfl ?_
    refine z_aload_n hO 1 dX9_isSaid_27 rfl ?_
    refine z_cvE hO (t_X9_wordHere (by (try simp only [fl_row_ne, fl_ne, up_row_ne, up_ne, up_eq, up_nk, up_up, up_self, ne_eq, Nat.reduceEqDiff, Int.reduceEq, reduceCtorEq, not_false_eq_true, not_true_eq_false]); omega) (by (try simp only [fl_row_ne, fl_ne, up_row_ne, up_ne, up_eq, up_nk, up_up, up_self, ne_eq, Nat.reduceEqDiff, Int.reduceEq, reduceCtorEq, not_false_eq_true, not_true_eq_false]); omega)) cv_X9_95 rfl rfl rfl rfl (by decide) (Nat.le_of_ble_eq_true rfl) dX9_isSaid_28 ?_
    try simp only [fl_row_ne, fl_ne, up_row_ne, up_ne, up_eq, up_nk, up_up, up_self, ne_eq, Nat.reduceEqDiff, Int.reduceEq, reduceCtorEq, not_false_eq_true, not_true_eq_false]
    refine z_bipush hO dX9_isSaid_31 (by decide) ?_
    refine z_icmp_ne hO 40 dX9_isSaid_33 (by decide) (by omega) (by decide) (fun c33 => ?_) (fun c33 => ?_)
    ·
      refine z_iconst hO dX9_isSaid_40 ?_
      refine z_istore_n hO (L' := [(2, _), (3, _), (0, _), (1, _)]) dX9_isSaid_41 (by decide) rfl ?_
      refine z_iload_n hO 1 dX9_isSaid_42 rfl ?_
      refine z_if_le hO 65 dX9_isSaid_43 (by decide) (by omega) (fun c43 => ?_) (fun c43 => ?_)
      ·
        refine z_iconst hO dX9_isSaid_65 ?_
        refine z_istore_n hO (L' := [(1, _), (2, _), (3, _), (0, _)]) dX9_isSaid_66 (by decide) rfl ?_
        refine z_aload_n hO 3 dX9_isSaid_67 rfl ?_
        refine z_getR hO (117) fl_X9_19 rfl rfl dX9_isSaid_68 ?_
        refine z_aload_n hO 3 dX9_isSaid_71 rfl ?_
        refine z_getI hO 6 fl_X9_113 rfl rfl rfl dX9_isSaid_72 (fun r72 => ?_)
        try simp only [fl_row_ne, fl_ne, up_row_ne, up_ne, up_eq, up_nk, up_up, up_self, ne_eq, Nat.reduceEqDiff, Int.reduceEq, reduceCtorEq, not_false_eq_true, not_true_eq_false] at r72 ⊢
        refine z_iload_n hO 2 dX9_isSaid_75 rfl ?_
        refine z_iast hO rfl (by omega) (by decide) (by omega) dX9_isSaid_76 ?_
        refine z_aload_n hO 3 dX9_isSaid_77 rfl ?_
        refine z_dup hO dX9_isSaid_78 rfl ?_
        refine z_getI hO 6 fl_X9_113 rfl rfl rfl dX9_isSaid_79 (fun r79 => ?_)
        try simp only [fl_row_ne, fl_ne, up_row_ne, up_ne, up_eq, up_nk, up_up, up_self, ne_eq, Nat.reduceEqDiff, Int.reduceEq, reduceCtorEq, not_false_eq_true, not_true_eq_false] at r79 ⊢
        refine z_iconst hO dX9_isSaid_82 ?_
        refine z_iadd hO dX9_isSaid_83 ?_
        refine z_putI hO 6 fp_X9_113 rfl rfl rfl (by omega) rfl rfl dX9_isSaid_84 ?_
        refine z_aload_n hO 3 dX9_isSaid_87 rfl ?_
        refine z_dup hO dX9_isSaid_88 rfl ?_
        refine z_getI hO 7 fl_X9_83 rfl rfl rfl dX9_isSaid_89 (fun r89 => ?_)
        try simp only [fl_row_ne, fl_ne, up_row_ne, up_ne, up_eq, up_nk, up_up, up_self, ne_eq, Nat.reduceEqDiff, Int.reduceEq, reduceCtorEq, not_false_eq_true, not_true_eq_false] at r89 ⊢
        refine z_iload_n hO 1 dX9_isSaid_92 rfl ?_
        refine z_if_eq hO 100 dX9_isSaid_93 (by decide) (by decide) (fun c93 => ?_) (fun c93 => absurd c93 (by omega))
        refine z_iconst hO dX9_isSaid_100 ?_
        refine z_iadd hO dX9_isSaid_101 ?_
        refine z_putI hO 7 fp_X9_83 rfl rfl rfl (by omega) rfl rfl dX9_isSaid_102 ?_
        refine z_goto hO 14 dX9_isSaid_105 (by decide) ?_
        refine z_iload_n hO 0 dX9_isSaid_14 rfl ?_
        refine z_if_eq hO 108 dX9_isSaid_15 (by decide) (by decide) (fun c15 => ?_) (fun c15 => absurd c15 (by omega))
        refine z_iload_n hO 0 dX9_isSaid_108 rfl ?_
        exact z_retF hO hR dX9_isSaid_109 (by refine hp _ _ ?_; rw [sdF]; first | (rw [if_pos (by omega)]; exact sdQ_one rfl) | (rw [if_neg (by omega), if_neg (by omega)]; first | (rw [decide_eq_true (by omega)]; exact sdQ_one rfl) | (rw [decide_eq_false (by omega)]; exact sdQ_one rfl)))
      ·
        refine z_iload_n hO 0 dX9_isSaid_46 rfl ?_
        refine z_if_ne hO 61 dX9_isSaid_47 (by decide) (by decide) (fun c47 => absurd c47 (by omega)) (fun c47 => ?_)
        refine z_aload_n hO 2 dX9_isSaid_50 rfl ?_
        refine z_getI hO 7 fl_X9_83 rfl rfl rfl dX9_isSaid_51 (fun r51 => ?_)
        try simp only [fl_row_ne, fl_ne, up_row_ne, up_ne, up_eq, up_nk, up_up, up_self, ne_eq, Nat.reduceEqDiff, Int.reduceEq, reduceCtorEq, not_false_eq_true, not_true_eq_false] at r51 ⊢
        refine z_aload_n hO 2 dX9_isSaid_54 rfl ?_
        refine z_getI hO 3 fl_X9_86 rfl rfl rfl dX9_isSaid_55 (fun r55 => ?_)
        try simp only [fl_row_ne, fl_ne, up_row_ne, up_ne, up_eq, up_nk, up_up, up_self, ne_eq, Nat.reduceEqDiff, Int.reduceEq, reduceCtorEq, not_false_eq_true, not_true_eq_false] at r55 ⊢
        refine z_icmp_ne hO 65 dX9_isSaid_58 (by decide) (by omega) (by omega) (fun c58 => ?_) (fun c58 => ?_)
        ·
          refine z_iconst hO dX9_isSaid_65 ?_
          refine z_istore_n hO (L' := [(1, _), (2, _), (3, _), (0, _)]) dX9_isSaid_66 (by decide) rfl ?_
          refine z_aload_n hO 3 dX9_isSaid_67 rfl ?_
          refine z_getR hO (117) fl_X9_19 rfl rfl dX9_isSaid_68 ?_
          refine z_aload_n hO 3 dX9_isSaid_71 rfl ?_
          refine z_getI hO 6 fl_X9_113 rfl rfl rfl dX9_isSaid_72 (fun r72 => ?_)
          try simp only [fl_row_ne, fl_ne, up_row_ne, up_ne, up_eq, up_nk, up_up, up_self, ne_eq, Nat.reduceEqDiff, Int.reduceEq, reduceCtorEq, not_false_eq_true, not_true_eq_false] at r72 ⊢
          refine z_iload_n hO 2 dX9_isSaid_75 rfl ?_
          refine z_iast hO rfl (by omega) (by decide) (by omega) dX9_isSaid_76 ?_
          refine z_aload_n hO 3 dX9_isSaid_77 rfl ?_
          refine z_dup hO dX9_isSaid_78 rfl ?_
          refine z_getI hO 6 fl_X9_113 rfl rfl rfl dX9_isSaid_79 (fun r79 => ?_)
          try simp only [fl_row_ne, fl_ne, up_row_ne, up_ne, up_eq, up_nk, up_up, up_self, ne_eq, Nat.reduceEqDiff, Int.reduceEq, reduceCtorEq, not_false_eq_true, not_true_eq_false] at r79 ⊢
          refine z_iconst hO dX9_isSaid_82 ?_
          refine z_iadd hO dX9_isSaid_83 ?_
          refine z_putI hO 6 fp_X9_113 rfl rfl rfl (by omega) rfl rfl dX9_isSaid_84 ?_
          refine z_aload_n hO 3 dX9_isSaid_87 rfl ?_
          refine z_dup hO dX9_isSaid_88 rfl ?_
          refine z_getI hO 7 fl_X9_83 rfl rfl rfl dX9_isSaid_89 (fun r89 => ?_)
          try simp only [fl_row_ne, fl_ne, up_row_ne, up_ne, up_eq, up_nk, up_up, up_self, ne_eq, Nat.reduceEqDiff, Int.reduceEq, reduceCtorEq, not_false_eq_true, not_true_eq_false] at r89 ⊢
          refine z_iload_n hO 1 dX9_isSaid_92 rfl ?_
          refine z_if_eq hO 100 dX9_isSaid_93 (by decide) (by decide) (fun c93 => ?_) (fun c93 => absurd c93 (by omega))
          refine z_iconst hO dX9_isSaid_100 ?_
          refine z_iadd hO dX9_isSaid_101 ?_
          refine z_putI hO 7 fp_X9_83 rfl rfl rfl (by omega) rfl rfl dX9_isSaid_102 ?_
          refine z_goto hO 14 dX9_isSaid_105 (by decide) ?_
          refine z_iload_n hO 0 dX9_isSaid_14 rfl ?_
          refine z_if_eq hO 108 dX9_isSaid_15 (by decide) (by decide) (fun c15 => ?_) (fun c15 => absurd c15 (by omega))
          refine z_iload_n hO 0 dX9_isSaid_108 rfl ?_
          exact z_retF hO hR dX9_isSaid_109 (by refine hp _ _ ?_; rw [sdF]; first | (rw [if_pos (by omega)]; exact sdQ_one rfl) | (rw [if_neg (by omega), if_neg (by omega)]; first | (rw [decide_eq_true (by omega)]; exact sdQ_one rfl) | (rw [decide_eq_false (by omega)]; exact sdQ_one rfl)))
        ·
          refine z_iconst hO dX9_isSaid_61 ?_
          refine z_goto hO 66 dX9_isSaid_62 (by decide) ?_
          refine z_istore_n hO (L' := [(1, _), (2, _), (3, _), (0, _)]) dX9_isSaid_66 (by decide) rfl ?_
          refine z_aload_n hO 3 dX9_isSaid_67 rfl ?_
          refine z_getR hO (117) fl_X9_19 rfl rfl dX9_isSaid_68 ?_
          refine z_aload_n hO 3 dX9_isSaid_71 rfl ?_
          refine z_getI hO 6 fl_X9_113 rfl rfl rfl dX9_isSaid_72 (fun r72 => ?_)
          try simp only [fl_row_ne, fl_ne, up_row_ne, up_ne, up_eq, up_nk, up_up, up_self, ne_eq, Nat.reduceEqDiff, Int.reduceEq, reduceCtorEq, not_false_eq_true, not_true_eq_false] at r72 ⊢
          refine z_iload_n hO 2 dX9_isSaid_75 rfl ?_
          refine z_iast hO rfl (by omega) (by decide) (by omega) dX9_isSaid_76 ?_
          refine z_aload_n hO 3 dX9_isSaid_77 rfl ?_
          refine z_dup hO dX9_isSaid_78 rfl ?_
          refine z_getI hO 6 fl_X9_113 rfl rfl rfl dX9_isSaid_79 (fun r79 => ?_)
          try simp only [fl_row_ne, fl_ne, up_row_ne, up_ne, up_eq, up_nk, up_up, up_self, ne_eq, Nat.reduceEqDiff, Int.reduceEq, reduceCtorEq, not_false_eq_true, not_true_eq_false] at r79 ⊢
          refine z_iconst hO dX9_isSaid_82 ?_
          refine z_iadd hO dX9_isSaid_83 ?_
          refine z_putI hO 6 fp_X9_113 rfl rfl rfl (by omega) rfl rfl dX9_isSaid_84 ?_
          refine z_aload_n hO 3 dX9_isSaid_87 rfl ?_
          refine z_dup hO dX9_isSaid_88 rfl ?_
          refine z_getI hO 7 fl_X9_83 rfl rfl rfl dX9_isSaid_89 (fun r89 => ?_)
          try simp only [fl_row_ne, fl_ne, up_row_ne, up_ne, up_eq, up_nk, up_up, up_self, ne_eq, Nat.reduceEqDiff, Int.reduceEq, reduceCtorEq, not_false_eq_true, not_true_eq_false] at r89 ⊢
          refine z_iload_n hO 1 dX9_isSaid_92 rfl ?_
          refine z_if_eq hO 100 dX9_isSaid_93 (by decide) (by decide) (fun c93 => ?_) (fun c93 => absurd c93 (by omega))
          refine z_iconst hO dX9_isSaid_100 ?_
          refine z_iadd hO dX9_isSaid_101 ?_
          refine z_putI hO 7 fp_X9_83 rfl rfl rfl (by omega) rfl rfl dX9_isSaid_102 ?_
          refine z_goto hO 14 dX9_isSaid_105 (by decide) ?_
          refine z_iload_n hO 0 dX9_isSaid_14 rfl ?_
          refine z_if_eq hO 108 dX9_isSaid_15 (by decide) (by decide) (fun c15 => absurd c15 (by omega)) (fun c15 => ?_)
          refine z_iload_n hO 1 dX9_isSaid_18 rfl ?_
          refine z_if_eq hO 108 dX9_isSaid_19 (by decide) (by decide) (fun c19 => ?_) (fun c19 => absurd c19 (by omega))
          refine z_iload_n hO 0 dX9_isSaid_108 rfl ?_
          exact z_retT hO hR dX9_isSaid_109 (by refine hp _ _ ?_; rw [sdF]; first | (rw [if_pos (by omega)]; exact sdQ_one rfl) | (rw [if_neg (by omega), if_neg (by omega)]; first | (rw [decide_eq_true (by omega)]; exact sdQ_one rfl) | (rw [decide_eq_false (by omega)]; exact sdQ_one rfl)))
    ·
      refine z_iconst hO dX9_isSaid_36 ?_
      refine z_goto hO 41 dX9_isSaid_37 (by decide) ?_
      refine z_istore_n hO (L' := [(2, _), (3, _), (0, _), (1, _)]) dX9_isSaid_41 (by decide) rfl ?_
      refine z_iload_n hO 1 dX9_isSaid_42 rfl ?_
      refine z_if_le hO 65 dX9_isSaid_43 (by decide) (by omega) (fun c43 => ?_) (fun c43 => ?_)
      ·
        refine z_iconst hO dX9_isSaid_65 ?_
        refine z_istore_n hO (L' := [(1, _), (2, _), (3, _), (0, _)]) dX9_isSaid_66 (by decide) rfl ?_
        refine z_aload_n hO 3 dX9_isSaid_67 rfl ?_
        refine z_getR hO (117) fl_X9_19 rfl rfl dX9_isSaid_68 ?_
        refine z_aload_n hO 3 dX9_isSaid_71 rfl ?_
        refine z_getI hO 6 fl_X9_113 rfl rfl rfl dX9_isSaid_72 (fun r72 => ?_)
        try simp only [fl_row_ne, fl_ne, up_row_ne, up_ne, up_eq, up_nk, up_up, up_self, ne_eq, Nat.reduceEqDiff, Int.reduceEq, reduceCtorEq, not_false_eq_true, not_true_eq_false] at r72 ⊢
        refine z_iload_n hO 2 dX9_isSaid_75 rfl ?_
        refine z_iast hO rfl (by omega) (by decide) (by omega) dX9_isSaid_76 ?_
        refine z_aload_n hO 3 dX9_isSaid_77 rfl ?_
        refine z_dup hO dX9_isSaid_78 rfl ?_
        refine z_getI hO 6 fl_X9_113 rfl rfl rfl dX9_isSaid_79 (fun r79 => ?_)
        try simp only [fl_row_ne, fl_ne, up_row_ne, up_ne, up_eq, up_nk, up_up, up_self, ne_eq, Nat.reduceEqDiff, Int.reduceEq, reduceCtorEq, not_false_eq_true, not_true_eq_false] at r79 ⊢
        refine z_iconst hO dX9_isSaid_82 ?_
        refine z_iadd hO dX9_isSaid_83 ?_
        refine z_putI hO 6 fp_X9_113 rfl rfl rfl (by omega) rfl rfl dX9_isSaid_84 ?_
        refine z_aload_n hO 3 dX9_isSaid_87 rfl ?_
        refine z_dup hO dX9_isSaid_88 rfl ?_
        refine z_getI hO 7 fl_X9_83 rfl rfl rfl dX9_isSaid_89 (fun r89 => ?_)
        try simp only [fl_row_ne, fl_ne, up_row_ne, up_ne, up_eq, up_nk, up_up, up_self, ne_eq, Nat.reduceEqDiff, Int.reduceEq, reduceCtorEq, not_false_eq_true, not_true_eq_false] at r89 ⊢
        refine z_iload_n hO 1 dX9_isSaid_92 rfl ?_
        refine z_if_eq hO 100 dX9_isSaid_93 (by decide) (by decide) (fun c93 => absurd c93 (by omega)) (fun c93 => ?_)
        refine z_iconst hO dX9_isSaid_96 ?_
        refine z_goto hO 101 dX9_isSaid_97 (by decide) ?_
        refine z_iadd hO dX9_isSaid_101 ?_
        refine z_putI hO 7 fp_X9_83 rfl rfl rfl (by omega) rfl rfl dX9_isSaid_102 ?_
        refine z_goto hO 14 dX9_isSaid_105 (by decide) ?_
        refine z_iload_n hO 0 dX9_isSaid_14 rfl ?_
        refine z_if_eq hO 108 dX9_isSaid_15 (by decide) (by decide) (fun c15 => ?_) (fun c15 => absurd c15 (by omega))
        refine z_iload_n hO 0 dX9_isSaid_108 rfl ?_
        exact z_retF hO hR dX9_isSaid_109 (by refine hp _ _ ?_; rw [sdF]; first | (rw [if_pos (by omega)]; exact sdQ_one rfl) | (rw [if_neg (by omega), if_neg (by omega)]; first | (rw [decide_eq_true (by omega)]; exact sdQ_one rfl) | (rw [decide_eq_false (by omega)]; exact sdQ_one rfl)))
      ·
        refine z_iload_n hO 0 dX9_isSaid_46 rfl ?_
        refine z_if_ne hO 61 dX9_isSaid_47 (by decide) (by decide) (fun c47 => ?_) (fun c47 => absurd c47 (by omega))
        refine z_iconst hO dX9_isSaid_61 ?_
        refine z_goto hO 66 dX9_isSaid_62 (by decide) ?_
        refine z_istore_n hO (L' := [(1, _), (2, _), (3, _), (0, _)]) dX9_isSaid_66 (by decide) rfl ?_
        refine z_aload_n hO 3 dX9_isSaid_67 rfl ?_
        refine z_getR hO (117) fl_X9_19 rfl rfl dX9_isSaid_68 ?_
        refine z_aload_n hO 3 dX9_isSaid_71 rfl ?_
        refine z_getI hO 6 fl_X9_113 rfl rfl rfl dX9_isSaid_72 (fun r72 => ?_)
        try simp only [fl_row_ne, fl_ne, up_row_ne, up_ne, up_eq, up_nk, up_up, up_self, ne_eq, Nat.reduceEqDiff, Int.reduceEq, reduceCtorEq, not_false_eq_true, not_true_eq_false] at r72 ⊢
        refine z_iload_n hO 2 dX9_isSaid_75 rfl ?_
        refine z_iast hO rfl (by omega) (by decide) (by omega) dX9_isSaid_76 ?_
        refine z_aload_n hO 3 dX9_isSaid_77 rfl ?_
        refine z_dup hO dX9_isSaid_78 rfl ?_
        refine z_getI hO 6 fl_X9_113 rfl rfl rfl dX9_isSaid_79 (fun r79 => ?_)
        try simp only [fl_row_ne, fl_ne, up_row_ne, up_ne, up_eq, up_nk, up_up, up_self, ne_eq, Nat.reduceEqDiff, Int.reduceEq, reduceCtorEq, not_false_eq_true, not_true_eq_false] at r79 ⊢
        refine z_iconst hO dX9_isSaid_82 ?_
        refine z_iadd hO dX9_isSaid_83 ?_
        refine z_putI hO 6 fp_X9_113 rfl rfl rfl (by omega) rfl rfl dX9_isSaid_84 ?_
        refine z_aload_n hO 3 dX9_isSaid_87 rfl ?_
        refine z_dup hO dX9_isSaid_88 rfl ?_
        refine z_getI hO 7 fl_X9_83 rfl rfl rfl dX9_isSaid_89 (fun r89 => ?_)
        try simp only [fl_row_ne, fl_ne, up_row_ne, up_ne, up_eq, up_nk, up_up, up_self, ne_eq, Nat.reduceEqDiff, Int.reduceEq, reduceCtorEq, not_false_eq_true, not_true_eq_false] at r89 ⊢
        refine z_iload_n hO 1 dX9_isSaid_92 rfl ?_
        refine z_if_eq hO 100 dX9_isSaid_93 (by decide) (by decide) (fun c93 => absurd c93 (by omega)) (fun c93 => ?_)
        refine z_iconst hO dX9_isSaid_96 ?_
        refine z_goto hO 101 dX9_isSaid_97 (by decide) ?_
        refine z_iadd hO dX9_isSaid_101 ?_
        refine z_putI hO 7 fp_X9_83 rfl rfl rfl (by omega) rfl rfl dX9_isSaid_102 ?_
        refine z_goto hO 14 dX9_isSaid_105 (by decide) ?_
        refine z_pick [3, 0, 1] rfl (ih _ (by simp only [fl_row_ne, fl_ne, up_row_ne, up_ne, up_eq, up_nk, up_up, up_self, ne_eq, Nat.reduceEqDiff, Int.reduceEq, reduceCtorEq, not_false_eq_true, not_true_eq_false]; exact hw) (by simp only [fl_row_ne, fl_ne, up_row_ne, up_ne, up_eq, up_nk, up_up, up_self, ne_eq, Nat.reduceEqDiff, Int.reduceEq, reduceCtorEq, not_false_eq_true, not_true_eq_false]; omega) (by simp only [fl_row_ne, fl_ne, up_row_ne, up_ne, up_eq, up_nk, up_up, up_self, ne_eq, Nat.reduceEqDiff, Int.reduceEq, reduceCtorEq, not_false_eq_true, not_true_eq_false]; omega) (by simp only [fl_row_ne, fl_ne, up_row_ne, up_ne, up_eq, up_nk, up_up, up_self, ne_eq, Nat.reduceEqDiff, Int.reduceEq, reduceCtorEq, not_false_eq_true, not_true_eq_false]; omega) (by simp only [fl_row_ne, fl_ne, up_row_ne, up_ne, up_eq, up_nk, up_up, up_self, ne_eq, Nat.reduceEqDiff, Int.reduceEq, reduceCtorEq, not_false_eq_true, not_true_eq_false]; omega) (by simp only [fl_row_ne, fl_ne, up_row_ne, up_ne, up_eq, up_nk, up_up, up_self, ne_eq, Nat.reduceEqDiff, Int.reduceEq, reduceCtorEq, not_false_eq_true, not_true_eq_false]; omega) (fun b τ' q => hp b τ' ?_))
        try simp only [fl_row_ne, fl_ne, up_row_ne, up_ne, up_eq, up_nk, up_up, up_self, ne_eq, Nat.reduceEqDiff, Int.reduceEq, reduceCtorEq, not_false_eq_true, not_true_eq_false] at q
        rw [sdF, if_neg (by omega), if_pos (by omega)]
        exact sdQ_cons rfl q

set_option maxHeartbeats 4000000 in
set_option maxRecDepth 100000 in
theorem t_X9_isSaid {g : G} {σ : Sg} (hw : PF (wh (σ 116) (σ 113 3)) (σ 113 3)) : MM g mX9_isSaid [.ref (g.2.2.1 113)] σ (pB (fun b σ' => sdQ (up (up σ 113 7 0) 113 6 0) σ' (sdF (wh (σ 116) (σ 113 3)) (σ 113 3) 9 0) b)) := by
  refine mm_of rfl (by decide) rfl rfl (Nat.le_of_ble_eq_true rfl) (fun x hO hR => ?_)
  have hA := hw.1
  have hB := hw.2.1
  refine z_aload_n hO 0 dX9_isSaid_0 rfl ?_
  refine z_iconst hO dX9_isSaid_1 ?_
  refine z_putI hO 7 fp_X9_83 rfl rfl rfl (by omega) rfl rfl dX9_isSaid_2 ?_
  refine z_aload_n hO 0 dX9_isSaid_5 rfl ?_
  refine z_iconst hO dX9_isSaid_6 ?_
  refine z_putI hO 6 fp_X9_113 rfl rfl rfl (by omega) rfl rfl dX9_isSaid_7 ?_
  refine z_iconst hO dX9_isSaid_10 ?_
  refine z_istore_n hO (L' := [(1, _), (0, _)]) dX9_isSaid_11 (by decide) rfl ?_
  refine z_iconst hO dX9_isSaid_12 ?_
  refine z_istore_n hO (L' := [(2, _), (1, _), (0, _)]) dX9_isSaid_13 (by decide) rfl ?_
  exact z_pick [2, 1, 0] rfl (lp_isSaid hO hR 9 _ (by simp only [fl_row_ne, fl_ne, up_row_ne, up_ne, up_eq, up_nk, up_up, up_self, ne_eq, Nat.reduceEqDiff, Int.reduceEq, reduceCtorEq, not_false_eq_true, not_true_eq_false]; exact hw) (by simp only [fl_row_ne, fl_ne, up_row_ne, up_ne, up_eq, up_nk, up_up, up_self, ne_eq, Nat.reduceEqDiff, Int.reduceEq, reduceCtorEq, not_false_eq_true, not_true_eq_false]; omega) (by simp only [fl_row_ne, fl_ne, up_row_ne, up_ne, up_eq, up_nk, up_up, up_self, ne_eq, Nat.reduceEqDiff, Int.reduceEq, reduceCtorEq, not_false_eq_true, not_true_eq_false]; omega) (by simp only [fl_row_ne, fl_ne, up_row_ne, up_ne, up_eq, up_nk, up_up, up_self, ne_eq, Nat.reduceEqDiff, Int.reduceEq, reduceCtorEq, not_false_eq_true, not_true_eq_false]; omega) (by simp only [fl_row_ne, fl_ne, up_row_ne, up_ne, up_eq, up_nk, up_up, up_self, ne_eq, Nat.reduceEqDiff, Int.reduceEq, reduceCtorEq, not_false_eq_true, not_true_eq_false]; omega) (by simp only [fl_row_ne, fl_ne, up_row_ne, up_ne, up_eq, up_nk, up_up, up_self, ne_eq, Nat.reduceEqDiff, Int.reduceEq, reduceCtorEq, not_false_eq_true, not_true_eq_false]; omega) (fun b τ' q => by simp only [fl_row_ne, fl_ne, up_row_ne, up_ne, up_eq, up_nk, up_up, up_self, ne_eq, Nat.reduceEqDiff, Int.reduceEq, reduceCtorEq, not_false_eq_true, not_true_eq_false] at q; exact q))
