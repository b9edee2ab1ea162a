def f114 : Nat → Int → Bool := fun c _ => c == 114
/-- what is used of the first m slots is as it was -/
def KV (β υ : Sg) (m : Int) : Prop := Fm f114 β υ ∧ (∀ j : Int, j < 4 → υ 114 j = β 114 j) ∧ ∀ i : Int, 0 ≤ i → i < m → υ 114 (4 + 9 * i) = β 114 (4 + 9 * i) ∧ ∀ k : Int, 0 ≤ k → k < β 114 (4 + 9 * i) → υ 114 (4 + 9 * i + 1 + k) = β 114 (4 + 9 * i + 1 + k) ∧ υ 114 (4 + 9 * i + 5 + k) = β 114 (4 + 9 * i + 5 + k)
theorem KV_put {β υ : Sg} {m s k : Int} (h : KV β υ m) (hc : ∀ i, 0 ≤ i → i < m → β 114 (4 + 9 * i) ≤ 4) (hs : 0 ≤ s ∧ s < m) (hk : β 114 (4 + 9 * s) ≤ k ∧ 0 ≤ k ∧ k < 4) : KV β (up (up υ 114 (4 + 9 * s + 1 + k) 0) 114 (4 + 9 * s + 5 + k) 0) m := by
  obtain ⟨h1, h2, h3⟩ := h
  refine ⟨(h1.up rfl).up rfl, fun j hj => by rw [up_nk (by omega), up_nk (by omega)]; exact h2 j hj, fun i i0 i1 => ?_⟩
  obtain ⟨a1, a2⟩ := h3 i i0 i1
  have hci := hc i i0 i1
  refine ⟨by rw [up_nk (by omega), up_nk (by omega)]; exact a1, fun q q0 q1 => ?_⟩
  have ne : ¬ (i = s ∧ q = k) := by rintro ⟨rfl, rfl⟩; omega
  rw [up_nk (by omega), up_nk (by omega), up_nk (by omega), up_nk (by omega)]; exact a2 q q0 q1

set_option maxHeartbeats 4000000 in
set_option maxRecDepth 100000 in
theorem lp_words3 {g : G} {x : Cx} {β : Sg} {n s : Int} (hO : Ok g x RX9 cX9_words 5 4) (hn : 0 ≤ n ∧ n ≤ 8) (hs : 0 ≤ s ∧ s < n) (hc : ∀ i, 0 ≤ i → i < n → β 114 (4 + 9 * i) ≤ 4) (hE : ∀ υ, KV β υ n → Z g x 5 180 [(0, .ref (g.2.2.1 113)), (1, vI n), (3, vI s)] [] υ) : ∀ (f : Nat) (k : Int) (υ : Sg), β 114 (4 + 9 * s) ≤ k ∧ 0 ≤ k ∧ k ≤ 4 → 4 - k < (f : Int) → KV β υ n → Z g x 5 136 [(0, .ref (g.2.2.1 113)), (1, vI n), (3, vI s), (4, vI k)] [] υ := by
  intro f
  induction f with
  | zero => intro k υ h0 hk; exact absurd hk (by omega)
  | succ f ih =>
    intro k υ h0 hf hK
    refine z_iload hO 3 dX9_words_136 rfl ?_
    refine z_iconst hO dX9_words_138 ?_
    refine z_icmp_ge hO 180 dX9_words_139 (by decide) (by omega) (by decide) (fun c139 => ?_) (fun c139 => ?_)
    ·
      exact z_pick [0, 1, 2] rfl (hE υ hK)
    ·
      refine z_aload_n hO 0 dX9_words_142 rfl ?_
      refine z_getR hO (114) fl_X9_7 rfl rfl dX9_words_143 ?_
      refine z_aload_n hO 0 dX9_words_146 rfl ?_
      refine z_iload_n hO 2 dX9_words_147 rfl ?_
      refine z_cvE hO (t_X9_at) cv_X9_79 rfl rfl rfl rfl (by decide) (Nat.le_of_ble_eq_true rfl) dX9_words_148 ?_
      try simp only [fl_row_ne, fl_ne, up_row_ne, up_ne, up_eq, up_nk, up_up, up_self, ne_eq, Nat.reduceEqDiff, Int.reduceEq, reduceCtorEq, not_false_eq_true, not_true_eq_false]
      refine z_iconst hO dX9_words_151 ?_
      refine z_iadd hO dX9_words_152 ?_
      refine z_iload hO 3 dX9_words_153 rfl ?_
      refine z_iadd hO dX9_words_155 ?_
      refine z_iconst hO dX9_words_156 ?_
      refine z_iast hO rfl (by omega) (by decide) (by omega) dX9_words_157 ?_
      refine z_aload_n hO 0 dX9_words_158 rfl ?_
      refine z_getR hO (114) fl_X9_7 rfl rfl dX9_words_159 ?_
      refine z_aload_n hO 0 dX9_words_162 rfl ?_
      refine z_iload_n hO 2 dX9_words_163 rfl ?_
      refine z_cvE hO (t_X9_at) cv_X9_79 rfl rfl rfl rfl (by decide) (Nat.le_of_ble_eq_true rfl) dX9_words_164 ?_
      try simp only [fl_row_ne, fl_ne, up_row_ne, up_ne, up_eq, up_nk, up_up, up_self, ne_eq, Nat.reduceEqDiff, Int.reduceEq, reduceCtorEq, not_false_eq_true, not_true_eq_false]
      refine z_iconst hO dX9_words_167 ?_
      refine z_iadd hO dX9_words_168 ?_
      refine z_iload hO 3 dX9_words_169 rfl ?_
      refine z_iadd hO dX9_words_171 ?_
      refine z_iconst hO dX9_words_172 ?_
      refine z_iast hO rfl (by omega) (by decide) (by omega) dX9_words_173 ?_
      refine z_iinc hO (L' := [(4, _), (0, _), (1, _), (3, _)]) 3 dX9_words_174 rfl (by decide) rfl ?_
      refine z_goto hO 136 dX9_words_177 (by decide) ?_
      exact z_pick [1, 2, 3, 0] rfl (ih (k + 1) _ (by omega) (by omega) (KV_put hK hc hs (by omega)))

set_option maxHeartbeats 4000000 in
set_option maxRecDepth 100000 in
theorem lp_words4 {g : G} {x : Cx} {β : Sg} {n : Int} (hO : Ok g x RX9 cX9_words 5 4) (hn : 0 ≤ n ∧ n ≤ 8) (hc : ∀ i, 0 ≤ i → i < n → 1 ≤ β 114 (4 + 9 * i) ∧ β 114 (4 + 9 * i) ≤ 4) (hE : ∀ υ, KV β υ n → Z g x 5 186 [(0, .ref (g.2.2.1 113)), (1, vI n)] [] υ) : ∀ (f i : Nat) (υ : Sg), (i : Int) ≤ n → n - i < f → KV β υ n → Z g x 5 119 [(0, .ref (g.2.2.1 113)), (1, vI n), (3, vI i)] [] υ := by
  intro f
  induction f with
  | zero => intro i υ h0 hk; exact absurd hk (by omega)
  | succ f ih =>
    intro i υ h0 hf hK
    refine z_iload_n hO 2 dX9_words_119 rfl ?_
    refine z_iload_n hO 1 dX9_words_120 rfl ?_
    refine z_icmp_ge hO 186 dX9_words_121 (by decide) (by omega) (by omega) (fun c121 => ?_) (fun c121 => ?_)
    ·
      have hi3 : (i : Int) = n := by omega
      rw [hi3]
      exact z_pick [0, 1] rfl (hE υ hK)
    ·
      have hci := hc i (by omega) (by omega)
      have hki := (hK.2.2 i (by omega) (by omega)).1
      refine z_aload_n hO 0 dX9_words_124 rfl ?_
      refine z_getR hO (114) fl_X9_7 rfl rfl dX9_words_125 ?_
      refine z_aload_n hO 0 dX9_words_128 rfl ?_
      refine z_iload_n hO 2 dX9_words_129 rfl ?_
      refine z_cvE hO (t_X9_at) cv_X9_79 rfl rfl rfl rfl (by decide) (Nat.le_of_ble_eq_true rfl) dX9_words_130 ?_
      try simp only [fl_row_ne, fl_ne, up_row_ne, up_ne, up_eq, up_nk, up_up, up_self, ne_eq, Nat.reduceEqDiff, Int.reduceEq, reduceCtorEq, not_false_eq_true, not_true_eq_false]
      refine z_iald hO rfl (by omega) (by decide) dX9_words_133 (fun r133 => ?_)
      rw [hki] at r133 ⊢
      refine z_istore hO (L' := [(4, _), (0, _), (1, _), (3, _)]) dX9_words_134 (by decide) rfl ?_
      refine z_pick [1, 2, 3, 0] rfl (lp_words3 (β := β) hO hn (by omega) (fun j j0 j1 => (hc j j0 j1).2) ?_ 5 _ υ (by omega) (by omega) hK)
      intro ω hω
      refine z_iinc hO (L' := [(3, _), (0, _), (1, _)]) 2 dX9_words_180 rfl (by decide) rfl ?_
      refine z_goto hO 119 dX9_words_183 (by decide) ?_
      exact z_pick [1, 2, 0] rfl (ih (i + 1) ω (by omega) (by omega) hω)

set_option maxHeartbeats 4000000 in
set_option maxRecDepth 100000 in
theorem lp_words2 {g : G} {x : Cx} {σ : Sg} {n : Int} (hO : Ok g x RX9 cX9_words 5 4) (hn : 0 ≤ n ∧ n ≤ 8) (hE : Z g x 5 117 [(0, .ref (g.2.2.1 113)), (1, vI n), (3, vI ((9 * n)))] [] (fl σ 114 (4) (4 + ((9 * n) - 0)) (fun k => σ 125 (k - 4)))) : ∀ (k : Nat) (i : Int), 0 ≤ i → i ≤ (9 * n) → (9 * n) - i < k → Z g x 5 89 [(0, .ref (g.2.2.1 113)), (1, vI n), (3, vI i)] [] (fl σ 114 (4) (4 + (i - 0)) (fun k => σ 125 (k - 4))) := by
  intro k
  induction k with
  | zero => intro i h0 h1 h2; exact absurd h2 (by omega)
  | succ k ih =>
    intro i h0 h1 h2
    refine z_iload_n hO 2 dX9_words_89 rfl ?_
    refine z_bipush hO dX9_words_90 (by decide) ?_
    refine z_iload_n hO 1 dX9_words_92 rfl ?_
    refine z_imul hO dX9_words_93 ?_
    refine z_icmp_ge hO 117 dX9_words_94 (by decide) (by omega) (by omega) (fun c94 => ?_) (fun c94 => ?_)
    ·
      have ei : i = (9 * n) := by omega
      rw [ei]
      exact z_pick [0, 1, 2] rfl hE
    ·
      refine z_aload_n hO 0 dX9_words_97 rfl ?_
      refine z_getR hO (114) fl_X9_7 rfl rfl dX9_words_98 ?_
      refine z_iconst hO dX9_words_101 ?_
      refine z_iload_n hO 2 dX9_words_102 rfl ?_
      refine z_iadd hO dX9_words_103 ?_
      refine z_aload_n hO 0 dX9_words_104 rfl ?_
      refine z_getR hO (125) fl_X9_44 rfl rfl dX9_words_105 ?_
      refine z_iload_n hO 2 dX9_words_108 rfl ?_
      refine z_iald hO rfl (by omega) (by decide) dX9_words_109 (fun r109 => ?_)
      try simp (disch := omega) only [fl_row_ne, fl_ne, up_row_ne, up_ne, up_eq, up_nk, up_up, up_self, ne_eq, Nat.reduceEqDiff, Int.reduceEq, reduceCtorEq, not_false_eq_true, not_true_eq_false, fl_out] at r109 ⊢
      refine z_iast hO rfl (by omega) (by decide) (by omega) dX9_words_110 ?_
      refine z_iinc hO (L' := [(3, _), (0, _), (1, _)]) 2 dX9_words_111 rfl (by decide) rfl ?_
      refine z_goto hO 89 dX9_words_114 (by decide) ?_
      refine z_sg (fl_s (by omega) (by omega) (by first | rfl | (congr 1; omega) | (dsimp only; congr 1; omega) | (simp only []; omega)) (show 4 + (i + 1 - 0) = _ by omega)) ?_
      exact z_pick [1, 2, 0] rfl (ih (i + 1) (by omega) (by omega) (by omega))
