set_option maxHeartbeats 4000000 in
set_option maxRecDepth 100000 in
theorem lp_tellsBest {g : G} {x : Cx} {σ : Sg} (hO : Ok g x RX6 cX6_tellsBest 2 1) (hR : Rt g x (some .boolean) (pB (pQ (σ 88 10 = σ 83 7 ∧ ∀ j : Int, 0 ≤ j → j < σ 83 7 → σ 96 j = σ 84 j) σ))) (h7 : 0 ≤ σ 83 7 ∧ σ 83 7 ≤ 4) (he : σ 88 10 = σ 83 7) : ∀ (f i : Nat), (i : Int) ≤ σ 83 7 → σ 83 7 - i < f → (∀ j : Int, 0 ≤ j → j < i → σ 96 j = σ 84 j) → Z g x 2 18 [(0, .ref (g.2.2.1 83)), (1, vI i)] [] σ := by
  intro f
  induction f with
  | zero => intro i h0 hk; exact absurd hk (by omega)
  | succ f ih =>
    intro i h0 hk ha
    refine z_iload_n hO 1 dX6_tellsBest_18 rfl ?_
    refine z_aload_n hO 0 dX6_tellsBest_19 rfl ?_
    refine z_getI hO 7 fl_X6_67 rfl rfl rfl dX6_tellsBest_20 (fun r20 => ?_)
    refine z_icmp_ge hO 52 dX6_tellsBest_23 (by decide) (by omega) (by omega) (fun c23 => ?_) (fun c23 => ?_)
    ·
      refine z_iconst hO dX6_tellsBest_52 ?_
      exact z_retQT hO hR dX6_tellsBest_53 (⟨he, fun j j0 j1 => ha j j0 (by omega)⟩) rfl
    ·
      refine z_aload_n hO 0 dX6_tellsBest_26 rfl ?_
      refine z_getR hO (88) fl_X6_40 rfl rfl dX6_tellsBest_27 ?_
      refine z_getR hO (96) fl_X6_116 rfl rfl dX6_tellsBest_30 ?_
      refine z_iload_n hO 1 dX6_tellsBest_33 rfl ?_
      refine z_iald hO rfl (by omega) (by decide) dX6_tellsBest_34 (fun r34 => ?_)
      refine z_aload_n hO 0 dX6_tellsBest_35 rfl ?_
      refine z_getR hO (84) fl_X6_18 rfl rfl dX6_tellsBest_36 ?_
      refine z_iload_n hO 1 dX6_tellsBest_39 rfl ?_
      refine z_iald hO rfl (by omega) (by decide) dX6_tellsBest_40 (fun r40 => ?_)
      refine z_icmp_eq hO 46 dX6_tellsBest_41 (by decide) (by omega) (by omega) (fun c41 => ?_) (fun c41 => ?_)
      ·
        refine z_iinc hO (L' := [(1, _), (0, _)]) 1 dX6_tellsBest_46 rfl (by decide) rfl ?_
        refine z_goto hO 18 dX6_tellsBest_49 (by decide) ?_
        exact z_pick [1, 0] rfl (ih (i + 1) (by omega) (by omega) (fun j j0 j1 => by by_cases q : j = i; (subst q; exact c41); exact ha j j0 (by omega)))
      ·
        refine z_iconst hO dX6_tellsBest_44 ?_
        exact z_retQF hO hR dX6_tellsBest_45 (fun z => c41 (z.2 i (by omega) (by omega))) rfl

set_option maxHeartbeats 4000000 in
set_option maxRecDepth 100000 in
theorem t_X6_tellsBest {g : G} {σ : Sg} (h7 : 0 ≤ σ 83 7 ∧ σ 83 7 ≤ 4) : MM g mX6_tellsBest [.ref (g.2.2.1 83)] σ (pB (pQ (σ 88 10 = σ 83 7 ∧ ∀ j : Int, 0 ≤ j → j < σ 83 7 → σ 96 j = σ 84 j) σ)) := by
  refine mm_of rfl (by decide) rfl rfl (Nat.le_of_ble_eq_true rfl) (fun x hO hR => ?_)
  refine z_aload_n hO 0 dX6_tellsBest_0 rfl ?_
  refine z_getR hO (88) fl_X6_40 rfl rfl dX6_tellsBest_1 ?_
  refine z_getI hO 10 fl_X6_119 rfl rfl rfl dX6_tellsBest_4 (fun r4 => ?_)
  refine z_aload_n hO 0 dX6_tellsBest_7 rfl ?_
  refine z_getI hO 7 fl_X6_67 rfl rfl rfl dX6_tellsBest_8 (fun r8 => ?_)
  refine z_icmp_eq hO 16 dX6_tellsBest_11 (by decide) (by omega) (by omega) (fun c11 => ?_) (fun c11 => ?_)
  ·
    refine z_iconst hO dX6_tellsBest_16 ?_
    refine z_istore_n hO (L' := [(1, _), (0, _)]) dX6_tellsBest_17 (by decide) rfl ?_
    exact z_pick [1, 0] rfl (lp_tellsBest hO hR h7 c11 5 0 (by omega) (by omega) (fun j j0 j1 => absurd j1 (by omega)))
  ·
    refine z_iconst hO dX6_tellsBest_14 ?_
    exact z_retQF hO hR dX6_tellsBest_15 (fun z => c11 z.1) rfl

def fCl : Nat → Int → Bool := fun c k => c == 98 || c == 102 || (c == 97 && (k == 0 || k == 1))

set_option maxHeartbeats 4000000 in
set_option maxRecDepth 100000 in
theorem lp_cclear {g : G} {x : Cx} {σ : Sg} (hO : Ok g x RX1 cX1_clear 2 1) (hR : Rt g x none (pV (fun σ' => (∀ c : Int, 0 ≤ c → c < 32 → σ' 98 c = 0 ∧ σ' 102 c = 0) ∧ σ' 97 0 = 1 ∧ σ' 97 1 = 0 ∧ Fm fCl σ σ'))) : ∀ (f i : Nat) (τ : Sg), i ≤ 32 → 32 - i < f → (∀ c : Int, 0 ≤ c → c < i → τ 98 c = 0 ∧ τ 102 c = 0) → τ 97 0 = 1 → τ 97 1 = 0 → Fm fCl σ τ → Z g x 2 12 [(0, .ref (g.2.2.1 97)), (1, vI i)] [] τ := by
  intro f
  induction f with
  | zero => intro i τ h0 hk; exact absurd hk (by omega)
  | succ f ih =>
    intro i τ hi hk ha h0 h1 hFm
    refine z_iload_n hO 1 dX1_clear_12 rfl ?_
    refine z_bipush hO dX1_clear_13 (by decide) ?_
    refine z_icmp_ge hO 38 dX1_clear_15 (by decide) (by omega) (by decide) (fun c15 => ?_) (fun c15 => ?_)
    ·
      exact z_retV hO hR dX1_clear_38 (⟨fun c c0 c1 => ha c c0 (by omega), h0, h1, hFm⟩)
    ·
      refine z_aload_n hO 0 dX1_clear_18 rfl ?_
      refine z_getR hO (98) fl_X1_9 rfl rfl dX1_clear_19 ?_
      refine z_iload_n hO 1 dX1_clear_22 rfl ?_
      refine z_iconst hO dX1_clear_23 ?_
      refine z_iast hO rfl (by omega) (by decide) (by omega) dX1_clear_24 ?_
      refine z_aload_n hO 0 dX1_clear_25 rfl ?_
      refine z_getR hO (102) fl_X1_24 rfl rfl dX1_clear_26 ?_
      refine z_iload_n hO 1 dX1_clear_29 rfl ?_
      refine z_lconst hO 0 dX1_clear_30 (by decide) ?_
      refine z_last hO rfl (by omega) (by decide) (by omega) dX1_clear_31 ?_
      refine z_iinc hO (L' := [(1, _), (0, _)]) 1 dX1_clear_32 rfl (by decide) rfl ?_
      refine z_goto hO 12 dX1_clear_35 (by decide) ?_
      refine z_pick [1, 0] rfl (ih (i + 1) _ (by omega) (by omega) (fun c c0 c1 => ?_) ?_ ?_ ((hFm.up rfl).up rfl))
      · by_cases q : c = i
        · subst q; rw [up_eq, up_ne (by decide), up_eq]; exact ⟨rfl, rfl⟩
        · have := ha c c0 (by omega); rw [up_ne (by decide), up_nk q, up_nk q, up_ne (by decide)]; exact this
      · rw [up_ne (by decide), up_ne (by decide)]; exact h0
      · rw [up_ne (by decide), up_ne (by decide)]; exact h1

set_option maxHeartbeats 4000000 in
set_option maxRecDepth 100000 in
theorem t_X1_clear {g : G} {σ : Sg}  : MM g mX1_clear [.ref (g.2.2.1 97)] σ (pV (fun σ' => (∀ c : Int, 0 ≤ c → c < 32 → σ' 98 c = 0 ∧ σ' 102 c = 0) ∧ σ' 97 0 = 1 ∧ σ' 97 1 = 0 ∧ Fm fCl σ σ')) := by
  refine mm_of rfl (by decide) rfl rfl (Nat.le_of_ble_eq_true rfl) (fun x hO hR => ?_)
  refine z_aload_n hO 0 dX1_clear_0 rfl ?_
  refine z_iconst hO dX1_clear_1 ?_
  refine z_putI hO 0 fp_X1_31 rfl rfl rfl (by omega) (by decide) (by decide) dX1_clear_2 ?_
  refine z_aload_n hO 0 dX1_clear_5 rfl ?_
  refine z_iconst hO dX1_clear_6 ?_
  refine z_putI hO 1 fp_X1_35 rfl rfl rfl (by omega) rfl rfl dX1_clear_7 ?_
  refine z_iconst hO dX1_clear_10 ?_
  refine z_istore_n hO (L' := [(1, _), (0, _)]) dX1_clear_11 (by decide) rfl ?_
  exact z_pick [1, 0] rfl (lp_cclear (σ := σ) hO hR 33 0 _ (by omega) (by omega) (fun c c0 c1 => absurd c1 (by omega)) (by rw [up_nk (by decide), up_eq]) up_eq ((Fm.rf.up rfl).up rfl))

/-- the bit of the next one counted -/
def adB (m : Int) : Nat := if m < 60 then 2 ^ m.toNat else 0
theorem adB_or {m : Int} {A : Nat} (h0 : 0 ≤ m) (h : A < 2 ^ (min m 60).toNat) : A ||| adB m = A + adB m := by
  unfold adB
  by_cases q : m < 60
  · rw [if_pos q, bl_addbit]; rw [show min m 60 = m by omega] at h; exact h
  · rw [if_neg q, Nat.or_zero, Nat.add_zero]
theorem adB_lt {m : Int} {A : Nat} (h0 : 0 ≤ m) (h : A < 2 ^ (min m 60).toNat) : A + adB m < 2 ^ 60 := by
  unfold adB
  by_cases q : m < 60
  · rw [if_pos q]; rw [show min m 60 = m by omega] at h
    have : 2 ^ m.toNat * 2 ≤ 2 ^ 60 := by rw [← Nat.pow_succ]; exact Nat.pow_le_pow_right (by decide) (by omega)
    omega
  · rw [if_neg q]; rw [show min m 60 = 60 by omega] at h; exact h
def fAd : Nat → Int → Bool := fun c k => decide (98 ≤ c ∧ c ≤ 102) || (c == 97 && k == 1)
def adQ (σ : Sg) (n : Int) (σ' : Sg) : Prop := σ' 97 1 = σ 97 1 + 1 ∧ (∀ i k : Int, 0 ≤ i → i < 8 → 0 ≤ k → k < 4 → σ' 98 (i * 4 + k) = σ 98 (i * 4 + k) + (if i < n ∧ σ 89 i - 1 = k then 1 else 0) ∧ σ' 102 (i * 4 + k) = σ 102 (i * 4 + k) + (if i < n ∧ σ 89 i - 1 = k then (adB (σ 97 1) : Int) else 0)) ∧ (σ 97 1 < 60 → σ' 99 (σ 97 1) = σ 88 11 ∧ σ' 100 (σ 97 1) = σ 88 10 ∧ ∀ j : Int, 0 ≤ j → j < σ 88 10 → σ' 101 (σ 97 1 * 4 + j) = σ 96 j) ∧ (∀ t : Int, t ≠ σ 97 1 → σ' 99 t = σ 99 t ∧ σ' 100 t = σ 100 t ∧ ∀ j : Int, 0 ≤ j → j < 4 → σ' 101 (t * 4 + j) = σ 101 (t * 4 + j)) ∧ (60 ≤ σ 97 1 → σ' 100 = σ 100) ∧ Fm fAd σ σ'

set_option maxHeartbeats 4000000 in
set_option maxRecDepth 100000 in
theorem lp_cadd {g : G} {x : Cx} {σ : Sg} {n : Int} (hO : Ok g x RX1 cX1_add 7 2) (hR : Rt g x none (pV (fun σ' => adQ σ n σ'))) (hm : 0 ≤ σ 97 1 ∧ σ 97 1 ≤ 65536) (hn : 0 ≤ n ∧ n ≤ 8) (h89 : ∀ e : Int, 0 ≤ e → e < n → 1 ≤ σ 89 e ∧ σ 89 e ≤ 4) (h10 : 0 ≤ σ 88 10 ∧ σ 88 10 ≤ 4) (h98 : ∀ i k : Int, 0 ≤ i → i < 8 → 0 ≤ k → k < 4 → 0 ≤ σ 98 (i * 4 + k) ∧ σ 98 (i * 4 + k) ≤ 70000) (h102 : ∀ i k : Int, 0 ≤ i → i < 8 → 0 ≤ k → k < 4 → ∃ A : Nat, σ 102 (i * 4 + k) = A ∧ A < 2 ^ (min (σ 97 1) 60).toNat) : ∀ (f i : Nat) (τ : Sg), (i : Int) ≤ n → n - i < f → (∀ a k : Int, 0 ≤ a → a < 8 → 0 ≤ k → k < 4 → τ 98 (a * 4 + k) = σ 98 (a * 4 + k) + (if a < (i : Int) ∧ σ 89 a - 1 = k then 1 else 0) ∧ τ 102 (a * 4 + k) = σ 102 (a * 4 + k) + (if a < (i : Int) ∧ σ 89 a - 1 = k then (adB (σ 97 1) : Int) else 0)) → Fm fAd σ τ → (∀ t : Int, τ 99 t = σ 99 t ∧ τ 100 t = σ 100 t ∧ τ 101 t = σ 101 t ∧ τ 97 t = σ 97 t) → Z g x 7 23 [(0, .ref (g.2.2.1 97)), (1, .ref (g.2.2.1 88)), (2, vI n), (3, vL (adB (σ 97 1) : Int)), (5, vI i)] [] τ := by
  intro f
  induction f with
  | zero => intro i τ h0 hk; exact absurd hk (by omega)
  | succ f ih =>
    intro i τ hi hk ha hFm h9x
    have e97 : τ 97 1 = σ 97 1 := (h9x 1).2.2.2
    have h101 : ∀ t : Int, τ 101 t = σ 101 t := fun t => (h9x t).2.2.1
    have e88 : τ 88 = σ 88 := hFm.row 88 (fun _ => rfl)
    have e89 : τ 89 = σ 89 := hFm.row 89 (fun _ => rfl)
    have e96 : τ 96 = σ 96 := hFm.row 96 (fun _ => rfl)
    refine z_iload hO 4 dX1_add_23 rfl ?_
    refine z_iload_n hO 2 dX1_add_25 rfl ?_
    refine z_icmp_ge hO 70 dX1_add_26 (by decide) (by omega) (by omega) (fun c26 => ?_) (fun c26 => ?_)
    ·
      have hin : (i : Int) = n := by omega
      refine z_aload_n hO 0 dX1_add_70 rfl ?_
      refine z_getI hO 1 fl_X1_35 rfl rfl rfl dX1_add_71 (fun r71 => ?_)
      try simp (disch := omega) only [fl_row_ne, fl_ne, up_row_ne, up_ne, up_eq, up_nk, up_up, up_self, ne_eq, Nat.reduceEqDiff, Int.reduceEq, reduceCtorEq, not_false_eq_true, not_true_eq_false, cp_row_ne, cp_ne, e97, e88, e89, e96] at r71 ⊢
      refine z_bipush hO dX1_add_74 (by decide) ?_
      refine z_icmp_ge hO 127 dX1_add_76 (by decide) (by omega) (by decide) (fun c76 => ?_) (fun c76 => ?_)
      ·
        refine z_aload_n hO 0 dX1_add_127 rfl ?_
        refine z_dup hO dX1_add_128 rfl ?_
        refine z_getI hO 1 fl_X1_35 rfl rfl rfl dX1_add_129 (fun r129 => ?_)
        try simp (disch := omega) only [fl_row_ne, fl_ne, up_row_ne, up_ne, up_eq, up_nk, up_up, up_self, ne_eq, Nat.reduceEqDiff, Int.reduceEq, reduceCtorEq, not_false_eq_true, not_true_eq_false, cp_row_ne, cp_ne, e97, e88, e89, e96] at r129 ⊢
        refine z_iconst hO dX1_add_132 ?_
        refine z_iadd hO dX1_add_133 ?_
        refine z_putI hO 1 fp_X1_35 rfl rfl rfl (by omega) rfl rfl dX1_add_134 ?_
        refine z_retV hO hR dX1_add_137 ?_
        refine ⟨?_, ?_, ?_, ?_, ?_, ?_⟩
        · simp (disch := omega) only [fl_row_ne, fl_ne, up_row_ne, up_ne, up_eq, up_nk, up_up, up_self, ne_eq, Nat.reduceEqDiff, Int.reduceEq, reduceCtorEq, not_false_eq_true, not_true_eq_false, cp_ne, cp_row_ne, e97]
        · intro a k a0 a1 k0 k1; have h := ha a k a0 a1 k0 k1; rw [hin] at h; simp (disch := omega) only [fl_row_ne, fl_ne, up_row_ne, up_ne, up_eq, up_nk, up_up, up_self, ne_eq, Nat.reduceEqDiff, Int.reduceEq, reduceCtorEq, not_false_eq_true, not_true_eq_false, cp_ne, cp_row_ne]; exact h
        · intro z; first | (exfalso; omega) | (refine ⟨?_, ?_, fun j j0 j1 => ?_⟩ <;> simp (disch := omega) only [fl_row_ne, fl_ne, up_row_ne, up_ne, up_eq, up_nk, up_up, up_self, ne_eq, Nat.reduceEqDiff, Int.reduceEq, reduceCtorEq, not_false_eq_true, not_true_eq_false, cp_ne, cp_row_ne, e88, e97]; (rw [cp_in (by omega)]; simp (disch := omega) only [fl_row_ne, fl_ne, up_row_ne, up_ne, up_eq, up_nk, up_up, up_self, ne_eq, Nat.reduceEqDiff, Int.reduceEq, reduceCtorEq, not_false_eq_true, not_true_eq_false, e96]; congr 1; omega))
        · intro t ht; have h := h9x t; refine ⟨?_, ?_, fun j j0 j1 => ?_⟩
          · simp (disch := omega) only [fl_row_ne, fl_ne, up_row_ne, up_ne, up_eq, up_nk, up_up, up_self, ne_eq, Nat.reduceEqDiff, Int.reduceEq, reduceCtorEq, not_false_eq_true, not_true_eq_false, cp_ne, cp_row_ne]; exact h.1
          · simp (disch := omega) only [fl_row_ne, fl_ne, up_row_ne, up_ne, up_eq, up_nk, up_up, up_self, ne_eq, Nat.reduceEqDiff, Int.reduceEq, reduceCtorEq, not_false_eq_true, not_true_eq_false, cp_ne, cp_row_ne]; exact h.2.1
          · first | (rw [up_ne (by decide), cp_out (by omega), up_ne (by decide), up_ne (by decide)]; exact h101 _) | (rw [up_ne (by decide)]; exact h101 _)
        · intro z; first | (exfalso; omega) | (funext t; rw [up_ne (by decide)]; exact (h9x t).2.1)
        · first | exact hFm.up rfl | exact Fm.up (fun c k q => (cp_ne (by rintro rfl; cases (show true = false from q))).trans (((hFm.up rfl).up rfl) c k q)) rfl
      ·
        refine z_aload_n hO 0 dX1_add_79 rfl ?_
        refine z_getR hO (99) fl_X1_15 rfl rfl dX1_add_80 ?_
        refine z_aload_n hO 0 dX1_add_83 rfl ?_
        refine z_getI hO 1 fl_X1_35 rfl rfl rfl dX1_add_84 (fun r84 => ?_)
        try simp (disch := omega) only [fl_row_ne, fl_ne, up_row_ne, up_ne, up_eq, up_nk, up_up, up_self, ne_eq, Nat.reduceEqDiff, Int.reduceEq, reduceCtorEq, not_false_eq_true, not_true_eq_false, cp_row_ne, cp_ne, e97, e88, e89, e96] at r84 ⊢
        refine z_aload_n hO 1 dX1_add_87 rfl ?_
        refine z_getI hO 11 fl_X1_45 rfl rfl rfl dX1_add_88 (fun r88 => ?_)
        try simp (disch := omega) only [fl_row_ne, fl_ne, up_row_ne, up_ne, up_eq, up_nk, up_up, up_self, ne_eq, Nat.reduceEqDiff, Int.reduceEq, reduceCtorEq, not_false_eq_true, not_true_eq_false, cp_row_ne, cp_ne, e97, e88, e89, e96] at r88 ⊢
        refine z_iast hO rfl (by omega) (by decide) (by omega) dX1_add_91 ?_
        refine z_aload_n hO 0 dX1_add_92 rfl ?_
        refine z_getR hO (100) fl_X1_18 rfl rfl dX1_add_93 ?_
        refine z_aload_n hO 0 dX1_add_96 rfl ?_
        refine z_getI hO 1 fl_X1_35 rfl rfl rfl dX1_add_97 (fun r97 => ?_)
        try simp (disch := omega) only [fl_row_ne, fl_ne, up_row_ne, up_ne, up_eq, up_nk, up_up, up_self, ne_eq, Nat.reduceEqDiff, Int.reduceEq, reduceCtorEq, not_false_eq_true, not_true_eq_false, cp_row_ne, cp_ne, e97, e88, e89, e96] at r97 ⊢
        refine z_aload_n hO 1 dX1_add_100 rfl ?_
        refine z_getI hO 10 fl_X1_47 rfl rfl rfl dX1_add_101 (fun r101 => ?_)
        try simp (disch := omega) only [fl_row_ne, fl_ne, up_row_ne, up_ne, up_eq, up_nk, up_up, up_self, ne_eq, Nat.reduceEqDiff, Int.reduceEq, reduceCtorEq, not_false_eq_true, not_true_eq_false, cp_row_ne, cp_ne, e97, e88, e89, e96] at r101 ⊢
        refine z_iast hO rfl (by omega) (by decide) (by omega) dX1_add_104 ?_
        refine z_aload_n hO 1 dX1_add_105 rfl ?_
        refine z_getR hO (96) fl_X1_48 rfl rfl dX1_add_106 ?_
        refine z_iconst hO dX1_add_109 ?_
        refine z_aload_n hO 0 dX1_add_110 rfl ?_
        refine z_getR hO (101) fl_X1_21 rfl rfl dX1_add_111 ?_
        refine z_aload_n hO 0 dX1_add_114 rfl ?_
        refine z_getI hO 1 fl_X1_35 rfl rfl rfl dX1_add_115 (fun r115 => ?_)
        try simp (disch := omega) only [fl_row_ne, fl_ne, up_row_ne, up_ne, up_eq, up_nk, up_up, up_self, ne_eq, Nat.reduceEqDiff, Int.reduceEq, reduceCtorEq, not_false_eq_true, not_true_eq_false, cp_row_ne, cp_ne, e97, e88, e89, e96] at r115 ⊢
        refine z_iconst hO dX1_add_118 ?_
        refine z_imul hO dX1_add_119 ?_
        refine z_aload_n hO 1 dX1_add_120 rfl ?_
        refine z_getI hO 10 fl_X1_47 rfl rfl rfl dX1_add_121 (fun r121 => ?_)
        try simp (disch := omega) only [fl_row_ne, fl_ne, up_row_ne, up_ne, up_eq, up_nk, up_up, up_self, ne_eq, Nat.reduceEqDiff, Int.reduceEq, reduceCtorEq, not_false_eq_true, not_true_eq_false, cp_row_ne, cp_ne, e97, e88, e89, e96] at r121 ⊢
        refine z_copyI hO ac_X1_49 (by decide) rfl rfl (by decide) (by decide) (by omega) (by omega) (by omega) (by omega) (by omega) (Nat.le_of_ble_eq_true rfl) dX1_add_124 ?_
        refine z_aload_n hO 0 dX1_add_127 rfl ?_
        refine z_dup hO dX1_add_128 rfl ?_
        refine z_getI hO 1 fl_X1_35 rfl rfl rfl dX1_add_129 (fun r129 => ?_)
        try simp (disch := omega) only [fl_row_ne, fl_ne, up_row_ne, up_ne, up_eq, up_nk, up_up, up_self, ne_eq, Nat.reduceEqDiff, Int.reduceEq, reduceCtorEq, not_false_eq_true, not_true_eq_false, cp_row_ne, cp_ne, e97, e88, e89, e96] at r129 ⊢
        refine z_iconst hO dX1_add_132 ?_
        refine z_iadd hO dX1_add_133 ?_
        refine z_putI hO 1 fp_X1_35 rfl rfl rfl (by omega) rfl rfl dX1_add_134 ?_
        refine z_retV hO hR dX1_add_137 ?_
        refine ⟨?_, ?_, ?_, ?_, ?_, ?_⟩
        · simp (disch := omega) only [fl_row_ne, fl_ne, up_row_ne, up_ne, up_eq, up_nk, up_up, up_self, ne_eq, Nat.reduceEqDiff, Int.reduceEq, reduceCtorEq, not_false_eq_true, not_true_eq_false, cp_ne, cp_row_ne, e97]
        · intro a k a0 a1 k0 k1; have h := ha a k a0 a1 k0 k1; rw [hin] at h; simp (disch := omega) only [fl_row_ne, fl_ne, up_row_ne, up_ne, up_eq, up_nk, up_up, up_self, ne_eq, Nat.reduceEqDiff, Int.reduceEq, reduceCtorEq, not_false_eq_true, not_true_eq_false, cp_ne, cp_row_ne]; exact h
        · intro z; first | (exfalso; omega) | (refine ⟨?_, ?_, fun j j0 j1 => ?_⟩ <;> simp (disch := omega) only [fl_row_ne, fl_ne, up_row_ne, up_ne, up_eq, up_nk, up_up, up_self, ne_eq, Nat.reduceEqDiff, Int.reduceEq, reduceCtorEq, not_false_eq_true, not_true_eq_false, cp_ne, cp_row_ne, e88, e97]; (rw [cp_in (by omega)]; simp (disch := omega) only [fl_row_ne, fl_ne, up_row_ne, up_ne, up_eq, up_nk, up_up, up_self, ne_eq, Nat.reduceEqDiff, Int.reduceEq, reduceCtorEq, not_false_eq_true, not_true_eq_false, e96]; congr 1; omega))
        · intro t ht; have h := h9x t; refine ⟨?_, ?_, fun j j0 j1 => ?_⟩
          · simp (disch := omega) only [fl_row_ne, fl_ne, up_row_ne, up_ne, up_eq, up_nk, up_up, up_self, ne_eq, Nat.reduceEqDiff, Int.reduceEq, reduceCtorEq, not_false_eq_true, not_true_eq_false, cp_ne, cp_row_ne]; exact h.1
          · simp (disch := omega) only [fl_row_ne, fl_ne, up_row_ne, up_ne, up_eq, up_nk, up_up, up_self, ne_eq, Nat.reduceEqDiff, Int.reduceEq, reduceCtorEq, not_false_eq_true, not_true_eq_false, cp_ne, cp_row_ne]; exact h.2.1
          · first | (rw [up_ne (by decide), cp_out (by omega), up_ne (by decide), up_ne (by decide)]; exact h101 _) | (rw [up_ne (by decide)]; exact h101 _)
        · intro z; first | (exfalso; omega) | (funext t; rw [up_ne (by decide)]; exact (h9x t).2.1)
        · first | exact hFm.up rfl | exact Fm.up (fun c k q => (cp_ne (by rintro rfl; cases (show true = false from q))).trans (((hFm.up rfl).up rfl) c k q)) rfl
    ·
      have h9 := h89 i (by omega) (by omega)
      have hA := ha i (σ 89 i - 1) (by omega) (by omega) (by omega) (by omega)
      have hb := h98 i (σ 89 i - 1) (by omega) (by omega) (by omega) (by omega)
      obtain ⟨A, hA1, hA2⟩ := h102 i (σ 89 i - 1) (by omega) (by omega) (by omega) (by omega)
      have hA3 : τ 98 ((i : Int) * 4 + (σ 89 i - 1)) = σ 98 ((i : Int) * 4 + (σ 89 i - 1)) := by rw [hA.1, if_neg (by omega)]; omega
      have hA4 : τ 102 ((i : Int) * 4 + (σ 89 i - 1)) = (A : Int) := by rw [hA.2, if_neg (by omega), hA1]; omega
      have hA5 := adB_or hm.1 hA2
      have hA6 := adB_lt hm.1 hA2
      refine z_iload hO 4 dX1_add_29 rfl ?_
      refine z_iconst hO dX1_add_31 ?_
      refine z_imul hO dX1_add_32 ?_
      refine z_aload_n hO 1 dX1_add_33 rfl ?_
      refine z_iload hO 4 dX1_add_34 rfl ?_
      refine z_cvE hO (t_X7_pick (by omega) (by rw [e89]; omega)) cv_X1_39 rfl rfl rfl rfl (by decide) (Nat.le_of_ble_eq_true rfl) dX1_add_36 ?_
      try simp (disch := omega) only [fl_row_ne, fl_ne, up_row_ne, up_ne, up_eq, up_nk, up_up, up_self, ne_eq, Nat.reduceEqDiff, Int.reduceEq, reduceCtorEq, not_false_eq_true, not_true_eq_false, cp_row_ne, cp_ne, e97, e88, e89, e96]
      refine z_iadd hO dX1_add_39 ?_
      refine z_istore hO (L' := [(6, _), (0, _), (1, _), (2, _), (3, _), (5, _)]) dX1_add_40 (by decide) rfl ?_
      refine z_aload_n hO 1 dX1_add_42 rfl ?_
      refine z_getR hO (98) fl_X1_9 rfl rfl dX1_add_43 ?_
      refine z_iload hO 0 dX1_add_46 rfl ?_
      refine z_dup2 hO dX1_add_48 rfl rfl ?_
      refine z_iald hO rfl (by omega) (by decide) dX1_add_49 (fun r49 => ?_)
      try simp (disch := omega) only [fl_row_ne, fl_ne, up_row_ne, up_ne, up_eq, up_nk, up_up, up_self, ne_eq, Nat.reduceEqDiff, Int.reduceEq, reduceCtorEq, not_false_eq_true, not_true_eq_false, cp_row_ne, cp_ne, e97, e88, e89, e96] at r49 ⊢
      refine z_iconst hO dX1_add_50 ?_
      refine z_iadd hO dX1_add_51 ?_
      refine z_iast hO rfl (by omega) (by decide) (by omega) dX1_add_52 ?_
      refine z_aload_n hO 1 dX1_add_53 rfl ?_
      refine z_getR hO (102) fl_X1_24 rfl rfl dX1_add_54 ?_
      refine z_iload hO 0 dX1_add_57 rfl ?_
      refine z_dup2 hO dX1_add_59 rfl rfl ?_
      refine z_lald hO rfl (by omega) (by decide) dX1_add_60 (fun r60 => ?_)
      try simp (disch := omega) only [fl_row_ne, fl_ne, up_row_ne, up_ne, up_eq, up_nk, up_up, up_self, ne_eq, Nat.reduceEqDiff, Int.reduceEq, reduceCtorEq, not_false_eq_true, not_true_eq_false, cp_row_ne, cp_ne, e97, e88, e89, e96] at r60 ⊢
      refine z_lload_n hO 4 dX1_add_61 rfl ?_
      refine z_lor hO (((A + adB (σ 97 1) : Nat) : Int)) dX1_add_62 (by rw [hA4, bl_or, hA5]) ?_
      refine z_last hO rfl (by omega) (by decide) (by omega) dX1_add_63 ?_
      refine z_iinc hO (L' := [(5, _), (6, _), (0, _), (1, _), (2, _), (3, _)]) 5 dX1_add_64 rfl (by decide) rfl ?_
      refine z_goto hO 23 dX1_add_67 (by decide) ?_
      refine z_pick [2, 3, 4, 5, 0] rfl (ih (i + 1) _ (by omega) (by omega) ?_ ((hFm.up rfl).up rfl) ?_)
      · intro a k a0 a1 k0 k1
        have h := ha a k a0 a1 k0 k1
        by_cases q : a * 4 + k = (i : Int) * 4 + (σ 89 i - 1)
        · obtain rfl : a = i := by omega
          obtain rfl : k = σ 89 i - 1 := by omega
          rw [up_ne (by decide), up_eq, up_eq, if_pos (by omega), if_pos (by omega)]
          refine ⟨by omega, by rw [hA1]; omega⟩
        · rw [up_ne (by decide), up_nk q, up_nk q, up_ne (by decide), h.1, h.2]
          by_cases z : a < (i : Int) ∧ σ 89 a - 1 = k
          · rw [if_pos z, if_pos z, if_pos (by omega), if_pos (by omega)]; exact ⟨rfl, rfl⟩
          · have z2 : ¬ (a < ((i + 1 : Nat) : Int) ∧ σ 89 a - 1 = k) := fun y => by by_cases w : a = i; (subst w; omega); exact z ⟨by omega, y.2⟩
            rw [if_neg z, if_neg z, if_neg z2, if_neg z2]; exact ⟨rfl, rfl⟩
      · intro t; rw [up_ne (by decide), up_ne (by decide), up_ne (by decide), up_ne (by decide), up_ne (by decide), up_ne (by decide)]; exact h9x t

set_option maxHeartbeats 4000000 in
set_option maxRecDepth 100000 in
theorem t_X1_add {g : G} {σ : Sg} {n : Int} (hm : 0 ≤ σ 97 1 ∧ σ 97 1 ≤ 65536) (hn : 0 ≤ n ∧ n ≤ 8) (h89 : ∀ e : Int, 0 ≤ e → e < n → 1 ≤ σ 89 e ∧ σ 89 e ≤ 4) (h10 : 0 ≤ σ 88 10 ∧ σ 88 10 ≤ 4) (h98 : ∀ i k : Int, 0 ≤ i → i < 8 → 0 ≤ k → k < 4 → 0 ≤ σ 98 (i * 4 + k) ∧ σ 98 (i * 4 + k) ≤ 70000) (h102 : ∀ i k : Int, 0 ≤ i → i < 8 → 0 ≤ k → k < 4 → ∃ A : Nat, σ 102 (i * 4 + k) = A ∧ A < 2 ^ (min (σ 97 1) 60).toNat) : MM g mX1_add [.ref (g.2.2.1 97), .ref (g.2.2.1 88), vI n] σ (pV (fun σ' => adQ σ n σ')) := by
  refine mm_of rfl (by decide) rfl rfl (Nat.le_of_ble_eq_true rfl) (fun x hO hR => ?_)
  refine z_aload_n hO 0 dX1_add_0 rfl ?_
  refine z_getI hO 1 fl_X1_35 rfl rfl rfl dX1_add_1 (fun r1 => ?_)
  refine z_bipush hO dX1_add_4 (by decide) ?_
  refine z_icmp_ge hO 18 dX1_add_6 (by decide) (by omega) (by decide) (fun c6 => ?_) (fun c6 => ?_)
  ·
    have hz0 : (0 : Int) = (adB (σ 97 1) : Int) := by unfold adB; rw [if_neg (by omega)]; rfl
    refine z_lconst hO 0 dX1_add_18 (by decide) ?_
    refine z_topL hz0 ?_
    refine z_lstore_n hO (L' := [(3, _), (0, _), (1, _), (2, _)]) dX1_add_19 (by decide) rfl ?_
    refine z_iconst hO dX1_add_20 ?_
    refine z_istore hO (L' := [(5, _), (3, _), (0, _), (1, _), (2, _)]) dX1_add_21 (by decide) rfl ?_
    exact z_pick [2, 3, 4, 1, 0] rfl (lp_cadd (σ := σ) hO hR hm hn h89 h10 h98 h102 9 0 σ (by omega) (by omega) (fun a k a0 a1 k0 k1 => by rw [if_neg (by omega), if_neg (by omega)]; exact ⟨by omega, by omega⟩) Fm.rf (fun t => ⟨rfl, rfl, rfl, rfl⟩))
  ·
    refine z_lconst hO 1 dX1_add_9 (by decide) ?_
    refine z_aload_n hO 0 dX1_add_10 rfl ?_
    refine z_getI hO 1 fl_X1_35 rfl rfl rfl dX1_add_11 (fun r11 => ?_)
    refine z_lshl hO ((adB (σ 97 1) : Int)) dX1_add_14 (by have h := bl_shl1 (σ 97 1).toNat (by omega); rw [show (((σ 97 1).toNat : Nat) : Int) = σ 97 1 by omega] at h; unfold adB; rw [if_pos (by omega)]; exact h) ?_
    refine z_goto hO 19 dX1_add_15 (by decide) ?_
    refine z_lstore_n hO (L' := [(3, _), (0, _), (1, _), (2, _)]) dX1_add_19 (by decide) rfl ?_
    refine z_iconst hO dX1_add_20 ?_
    refine z_istore hO (L' := [(5, _), (3, _), (0, _), (1, _), (2, _)]) dX1_add_21 (by decide) rfl ?_
    exact z_pick [2, 3, 4, 1, 0] rfl (lp_cadd (σ := σ) hO hR hm hn h89 h10 h98 h102 9 0 σ (by omega) (by omega) (fun a k a0 a1 k0 k1 => by rw [if_neg (by omega), if_neg (by omega)]; exact ⟨by omega, by omega⟩) Fm.rf (fun t => ⟨rfl, rfl, rfl, rfl⟩))
