/-- perhaps a cost behind a word: 0 where there is none, -1: it goes wrong; and where it ends -/
def cpF (t : Int → Int) (n p : Int) : Int × Int := if chr t n (sk t n p) = 58 then (if 48 ≤ chr t n (sk t n (sk t n p + 1)) ∧ chr t n (sk t n (sk t n p + 1)) ≤ 57 then (chr t n (sk t n (sk t n p + 1)) - 48, sk t n (sk t n p + 1) + 1) else (-1, sk t n (sk t n p + 1))) else (0, sk t n p)
/-- candidates of a slot from a place on (at most k more): whether they are right, which, where they end -/
def rdF (t : Int → Int) (n : Int) : Nat → List (Int × Int) → Int → Bool × List (Int × Int) × Int
  | 0, acc, p => (true, acc, p)
  | k + 1, acc, p =>
    if (wrF t n (sk t n p)).1 = -4 ∨ (wrF t n (sk t n p)).1 ∈ acc.map Prod.fst then (false, acc, sk t n p)
    else if (cpF t n (wrF t n (sk t n p)).2).1 = -1 then (false, acc, (cpF t n (wrF t n (sk t n p)).2).2)
    else if k = 0 then (true, acc ++ [((wrF t n (sk t n p)).1, (cpF t n (wrF t n (sk t n p)).2).1)], (cpF t n (wrF t n (sk t n p)).2).2)
    else if chr t n (sk t n (cpF t n (wrF t n (sk t n p)).2).2) = 44 then rdF t n k (acc ++ [((wrF t n (sk t n p)).1, (cpF t n (wrF t n (sk t n p)).2).1)]) (sk t n (cpF t n (wrF t n (sk t n p)).2).2 + 1)
    else (true, acc ++ [((wrF t n (sk t n p)).1, (cpF t n (wrF t n (sk t n p)).2).1)], sk t n (cpF t n (wrF t n (sk t n p)).2).2)
theorem wrF_r {t : Int → Int} {n q : Int} (h : TW t n) (h0 : 0 ≤ q) (h1 : q ≤ n) : -4 ≤ (wrF t n q).1 ∧ (wrF t n q).1 ≤ 31 ∧ ((wrF t n q).1 = -4 ∨ 0 ≤ (wrF t n q).1) ∧ q ≤ (wrF t n q).2 ∧ (wrF t n q).2 ≤ n := by
  have hc := chr_r h h0
  have ha := ltW_r (chr t n q)
  have hb := ltW_g (chr t n q)
  unfold wrF
  split
  · have hq : t q = chr t n q := by unfold chr; rw [if_pos (by omega)]
    split
    · rename_i h3
      have := vlW_r (v := 10 * (t q - 48) + t (q + 1) - 48) (by omega)
      split <;> (dsimp only; omega)
    · have := vlW_r (v := t q - 48) (by omega)
      split <;> (dsimp only; omega)
  · split
    · dsimp only; omega
    · rename_i h4
      have : q < n := by
        apply Classical.byContradiction; intro z
        have e : chr t n q = 0 := by omega
        rw [e] at h4; exact h4 (by decide)
      dsimp only; omega
theorem cpF_r {t : Int → Int} {n p : Int} (h : TW t n) (h0 : 0 ≤ p) (h1 : p ≤ n) : -1 ≤ (cpF t n p).1 ∧ (cpF t n p).1 ≤ 9 ∧ p ≤ (cpF t n p).2 ∧ (cpF t n p).2 ≤ n := by
  have a := sk_r (t := t) h1
  have hc := chr_r h (i := sk t n p) (by omega)
  unfold cpF
  split
  · have b := sk_r (t := t) (n := n) (i := sk t n p + 1) (by omega)
    have hd := chr_r h (i := sk t n (sk t n p + 1)) (by omega)
    split <;> (simp only; omega)
  · simp only; omega
def rdRow (r : Int → Int) (s : Int) (l : List (Int × Int)) : Prop := r (9 * s) = l.length ∧ ∀ (j : Nat) (h : j < l.length), r (9 * s + 1 + j) = (l[j]).1 ∧ r (9 * s + 5 + j) = (l[j]).2
theorem rdRow_snoc {r r' : Int → Int} {s : Int} {l : List (Int × Int)} {w c : Int} (h : rdRow r s l) (hl : l.length ≤ 3) (h0 : r' (9 * s) = l.length + 1) (h1 : r' (9 * s + 1 + l.length) = w) (h2 : r' (9 * s + 5 + l.length) = c) (hk : ∀ j : Nat, j < l.length → r' (9 * s + 1 + j) = r (9 * s + 1 + j) ∧ r' (9 * s + 5 + j) = r (9 * s + 5 + j)) : rdRow r' s (l ++ [(w, c)]) := by
  refine ⟨by rw [h0, List.length_append]; simp, fun j hj => ?_⟩
  rw [List.length_append, List.length_singleton] at hj
  by_cases q : j < l.length
  · rw [List.getElem_append_left q, (hk j q).1, (hk j q).2]; exact h.2 j q
  · have e : j = l.length := by omega
    subst e
    rw [List.getElem_append_right (Nat.le_refl _)]; simp [h1, h2]
def fRd : Nat → Int → Bool := fun c k => c == 125 || (c == 113 && k == 24)
def rdQ (σ σ' : Sg) (s : Int) (R : Bool × List (Int × Int) × Int) (b : Bool) : Prop := b = R.1 ∧ σ' 113 24 = R.2.2 ∧ (b = true → rdRow (σ' 125) s R.2.1) ∧ (∀ j : Int, (j < 9 * s ∨ 9 * s + 9 ≤ j) → σ' 125 j = σ 125 j) ∧ Fm fRd σ σ'

set_option maxHeartbeats 4000000 in
set_option maxRecDepth 100000 in
theorem lp_reads1 {g : G} {x : Cx} {σ : Sg} {s bg w : Int} (hO : Ok g x RX9 cX9_reads 9 3) (hs : 0 ≤ s ∧ s ≤ 7) (hc : 0 ≤ σ 125 (9 * s) ∧ σ 125 (9 * s) ≤ 3) (hw : -4 ≤ w ∧ w ≤ 31) (hE : ∀ b : Bool, (b = true ↔ (∃ j : Nat, (j : Int) < σ 125 (9 * s) ∧ σ 125 (9 * s + 1 + j) = w)) → Z g x 9 107 [(0, .ref (g.2.2.1 113)), (1, vI s), (2, vI (9 * s)), (5, vI bg), (6, vI w), (7, vI (b2i b))] [] σ) : ∀ (k i : Nat) (b : Bool), (i : Int) ≤ σ 125 (9 * s) → σ 125 (9 * s) - i < k → (b = true ↔ (∃ j : Nat, (j : Int) < i ∧ σ 125 (9 * s + 1 + j) = w)) → Z g x 9 62 [(0, .ref (g.2.2.1 113)), (1, vI s), (2, vI (9 * s)), (5, vI bg), (6, vI w), (7, vI (b2i b)), (8, vI i)] [] σ := by
  intro k
  induction k with
  | zero => intro i b h0 hk; exact absurd hk (by omega)
  | succ k ih =>
    intro i b h0 hk hb
    refine z_iload hO 6 dX9_reads_62 rfl ?_
    refine z_aload_n hO 0 dX9_reads_64 rfl ?_
    refine z_getR hO (125) fl_X9_44 rfl rfl dX9_reads_65 ?_
    refine z_iload_n hO 2 dX9_reads_68 rfl ?_
    refine z_iald hO rfl (by omega) (by decide) dX9_reads_69 (fun r69 => ?_)
    refine z_icmp_ge hO 107 dX9_reads_70 (by decide) (by omega) (by omega) (fun c70 => ?_) (fun c70 => ?_)
    ·
      have hi3 : (i : Int) = σ 125 (9 * s) := by omega
      rw [hi3] at hb
      exact z_pick [0, 1, 2, 3, 4, 5] rfl (hE b hb)
    ·
      refine z_iload hO 5 dX9_reads_73 rfl ?_
      refine z_if_ne hO 94 dX9_reads_75 (by decide) (by have := b2i_r b; omega) (fun c75 => ?_) (fun c75 => ?_)
      ·
        refine z_iconst hO dX9_reads_94 ?_
        refine z_goto hO 99 dX9_reads_95 (by decide) ?_
        refine z_istore hO (L' := [(7, _), (0, _), (1, _), (2, _), (5, _), (6, _), (8, _)]) dX9_reads_99 (by decide) rfl ?_
        refine z_iinc hO (L' := [(8, _), (7, _), (0, _), (1, _), (2, _), (5, _), (6, _)]) 6 dX9_reads_101 rfl (by decide) rfl ?_
        refine z_goto hO 62 dX9_reads_104 (by decide) ?_
        first | exact z_pick [2, 3, 4, 5, 6, 1, 0] rfl (ih (i + 1) true (by omega) (by omega) (iff_of_true rfl ⟨i, by omega, by omega⟩)) | exact z_pick [2, 3, 4, 5, 6, 1, 0] rfl (ih (i + 1) true (by omega) (by omega) (iff_of_true rfl (by obtain ⟨j, j1, j2⟩ := hb.mp (b2i_1.mp c75); exact ⟨j, by omega, j2⟩)))
      ·
        refine z_aload_n hO 0 dX9_reads_78 rfl ?_
        refine z_getR hO (125) fl_X9_44 rfl rfl dX9_reads_79 ?_
        refine z_iload_n hO 2 dX9_reads_82 rfl ?_
        refine z_iconst hO dX9_reads_83 ?_
        refine z_iadd hO dX9_reads_84 ?_
        refine z_iload hO 6 dX9_reads_85 rfl ?_
        refine z_iadd hO dX9_reads_87 ?_
        refine z_iald hO rfl (by omega) (by decide) dX9_reads_88 (fun r88 => ?_)
        refine z_iload hO 4 dX9_reads_89 rfl ?_
        refine z_icmp_ne hO 98 dX9_reads_91 (by decide) (by omega) (by omega) (fun c91 => ?_) (fun c91 => ?_)
        ·
          refine z_iconst hO dX9_reads_98 ?_
          refine z_istore hO (L' := [(7, _), (0, _), (1, _), (2, _), (5, _), (6, _), (8, _)]) dX9_reads_99 (by decide) rfl ?_
          refine z_iinc hO (L' := [(8, _), (7, _), (0, _), (1, _), (2, _), (5, _), (6, _)]) 6 dX9_reads_101 rfl (by decide) rfl ?_
          refine z_goto hO 62 dX9_reads_104 (by decide) ?_
          exact z_pick [2, 3, 4, 5, 6, 1, 0] rfl (ih (i + 1) false (by omega) (by omega) (iff_of_false (by decide) (fun q => by obtain ⟨j, j1, j2⟩ := q; by_cases e : j = i; (subst e; omega); (have h5 := hb.mpr ⟨j, by omega, j2⟩; rw [b2i_0.mp c75] at h5; cases h5))))
        ·
          refine z_iconst hO dX9_reads_94 ?_
          refine z_goto hO 99 dX9_reads_95 (by decide) ?_
          refine z_istore hO (L' := [(7, _), (0, _), (1, _), (2, _), (5, _), (6, _), (8, _)]) dX9_reads_99 (by decide) rfl ?_
          refine z_iinc hO (L' := [(8, _), (7, _), (0, _), (1, _), (2, _), (5, _), (6, _)]) 6 dX9_reads_101 rfl (by decide) rfl ?_
          refine z_goto hO 62 dX9_reads_104 (by decide) ?_
          first | exact z_pick [2, 3, 4, 5, 6, 1, 0] rfl (ih (i + 1) true (by omega) (by omega) (iff_of_true rfl ⟨i, by omega, by omega⟩)) | exact z_pick [2, 3, 4, 5, 6, 1, 0] rfl (ih (i + 1) true (by omega) (by omega) (iff_of_true rfl (by obtain ⟨j, j1, j2⟩ := hb.mp (b2i_1.mp c75); exact ⟨j, by omega, j2⟩)))

set_option maxHeartbeats 4000000 in
set_option maxRecDepth 100000 in
theorem lp_reads2 {g : G} {x : Cx} {σ υ : Sg} {P : Bool → Sg → Prop} {s w p1 n bg hd : Int} {t : Int → Int} {acc : List (Int × Int)} (hO : Ok g x RX9 cX9_reads 9 3) (hR : Rt g x (some .boolean) (pB P)) (hs : 0 ≤ s ∧ s ≤ 7) (hT : TW t n) (e124 : υ 124 = t) (e23 : υ 113 23 = n) (e24 : υ 113 24 = p1) (hp1 : 0 ≤ p1 ∧ p1 ≤ n) (hw : 0 ≤ w ∧ w ≤ 31) (hl : acc.length ≤ 3) (hrow : rdRow (υ 125) s acc) (hoth : ∀ j : Int, (j < 9 * s ∨ 9 * s + 9 ≤ j) → υ 125 j = σ 125 j) (hFm : Fm fRd σ υ) (hPf : ∀ τ, (cpF t n p1).1 = -1 → τ 113 24 = (cpF t n p1).2 → (∀ j : Int, (j < 9 * s ∨ 9 * s + 9 ≤ j) → τ 125 j = σ 125 j) → Fm fRd σ τ →  P false τ) (hPt : ∀ τ, (cpF t n p1).1 ≠ -1 → (((acc.length : Int) + 1 = 4 ∧ τ 113 24 = (cpF t n p1).2) ∨ ((acc.length : Int) + 1 < 4 ∧ chr t n (sk t n (cpF t n p1).2) ≠ 44 ∧ τ 113 24 = sk t n (cpF t n p1).2)) → rdRow (τ 125) s (acc ++ [(w, (cpF t n p1).1)]) → (∀ j : Int, (j < 9 * s ∨ 9 * s + 9 ≤ j) → τ 125 j = σ 125 j) → Fm fRd σ τ →  P true τ) (hI : ∀ τ, (cpF t n p1).1 ≠ -1 → (acc.length : Int) + 1 < 4 → chr t n (sk t n (cpF t n p1).2) = 44 → τ 113 24 = sk t n (cpF t n p1).2 + 1 → rdRow (τ 125) s (acc ++ [(w, (cpF t n p1).1)]) → (∀ j : Int, (j < 9 * s ∨ 9 * s + 9 ≤ j) → τ 125 j = σ 125 j) → Fm fRd σ τ →  Z g x 9 14 [(0, .ref (g.2.2.1 113)), (1, vI s), (2, vI (9 * s)), (3, vI 1)] [] τ) : Z g x 9 127 [(0, .ref (g.2.2.1 113)), (1, vI s), (2, vI (9 * s)), (5, vI bg), (6, vI w), (7, vI hd)] [] υ := by
  have hn := hT.1
  have e0 : υ 125 (9 * s) = acc.length := hrow.1
  have hs1 := sk_r (t := t) hp1.2
  have hc1 := chr_r hT (i := sk t n p1) (by omega)
  refine z_aload_n hO 0 dX9_reads_127 rfl ?_
  refine z_getR hO (125) fl_X9_44 rfl rfl dX9_reads_128 ?_
  refine z_iload_n hO 2 dX9_reads_131 rfl ?_
  refine z_iald hO rfl (by omega) (by decide) dX9_reads_132 (fun r132 => ?_)
  try simp (disch := omega) only [fl_row_ne, fl_ne, up_row_ne, up_ne, up_eq, up_nk, up_up, up_self, ne_eq, Nat.reduceEqDiff, Int.reduceEq, reduceCtorEq, not_false_eq_true, not_true_eq_false, e23, e24, e0] at r132 ⊢
  refine z_istore hO (L' := [(8, _), (0, _), (1, _), (2, _), (5, _), (6, _), (7, _)]) dX9_reads_133 (by decide) rfl ?_
  refine z_aload_n hO 1 dX9_reads_135 rfl ?_
  refine z_getR hO (125) fl_X9_44 rfl rfl dX9_reads_136 ?_
  refine z_iload_n hO 3 dX9_reads_139 rfl ?_
  refine z_iconst hO dX9_reads_140 ?_
  refine z_iadd hO dX9_reads_141 ?_
  refine z_iload hO 0 dX9_reads_142 rfl ?_
  refine z_iadd hO dX9_reads_144 ?_
  refine z_iload hO 5 dX9_reads_145 rfl ?_
  refine z_iast hO rfl (by omega) (by decide) (by omega) dX9_reads_147 ?_
  refine z_aload_n hO 1 dX9_reads_148 rfl ?_
  refine z_getR hO (125) fl_X9_44 rfl rfl dX9_reads_149 ?_
  refine z_iload_n hO 3 dX9_reads_152 rfl ?_
  refine z_iconst hO dX9_reads_153 ?_
  refine z_iadd hO dX9_reads_154 ?_
  refine z_iload hO 0 dX9_reads_155 rfl ?_
  refine z_iadd hO dX9_reads_157 ?_
  refine z_iconst hO dX9_reads_158 ?_
  refine z_iast hO rfl (by omega) (by decide) (by omega) dX9_reads_159 ?_
  refine z_aload_n hO 1 dX9_reads_160 rfl ?_
  refine z_bipush hO dX9_reads_161 (by decide) ?_
  refine z_cvB hO (t_X9_has (l := 58) (by decide) (by simp (disch := omega) only [fl_row_ne, fl_ne, up_row_ne, up_ne, up_eq, up_nk, up_up, up_self, ne_eq, Nat.reduceEqDiff, Int.reduceEq, reduceCtorEq, not_false_eq_true, not_true_eq_false, e124, e23, e24, sk_sk]; exact hT) (by simp (disch := omega) only [fl_row_ne, fl_ne, up_row_ne, up_ne, up_eq, up_nk, up_up, up_self, ne_eq, Nat.reduceEqDiff, Int.reduceEq, reduceCtorEq, not_false_eq_true, not_true_eq_false, e124, e23, e24, sk_sk]; omega)) cv_X9_218 rfl rfl rfl rfl (by decide) (Nat.le_of_ble_eq_true rfl) dX9_reads_163 (fun s163 p163 => ?_) (fun s163 p163 => ?_)
  ·
    simp (disch := omega) only [fl_row_ne, fl_ne, up_row_ne, up_ne, up_eq, up_nk, up_up, up_self, ne_eq, Nat.reduceEqDiff, Int.reduceEq, reduceCtorEq, not_false_eq_true, not_true_eq_false, e124, e23, e24, sk_sk] at p163
    obtain ⟨k163, rfl⟩ := p163.1 (by trivial)
    have hcp : (cpF t n p1) = (if 48 ≤ chr t n (sk t n (sk t n p1 + 1)) ∧ chr t n (sk t n (sk t n p1 + 1)) ≤ 57 then (chr t n (sk t n (sk t n p1 + 1)) - 48, sk t n (sk t n p1 + 1) + 1) else (-1, sk t n (sk t n p1 + 1))) := by unfold cpF; rw [if_pos k163]
    have hs2 := sk_r (t := t) (n := n) (i := sk t n p1 + 1) (by omega)
    have hc2 := chr_r hT (i := sk t n (sk t n p1 + 1)) (by omega)
    refine z_if_eq hO 216 dX9_reads_166 (by decide) (by decide) (fun c166 => absurd c166 (by omega)) (fun c166 => ?_)
    refine z_aload_n hO 1 dX9_reads_169 rfl ?_
    refine z_cvI hO (t_X9_here (by simp (disch := omega) only [fl_row_ne, fl_ne, up_row_ne, up_ne, up_eq, up_nk, up_up, up_self, ne_eq, Nat.reduceEqDiff, Int.reduceEq, reduceCtorEq, not_false_eq_true, not_true_eq_false, e124, e23, e24, sk_sk]; exact hT) (by simp (disch := omega) only [fl_row_ne, fl_ne, up_row_ne, up_ne, up_eq, up_nk, up_up, up_self, ne_eq, Nat.reduceEqDiff, Int.reduceEq, reduceCtorEq, not_false_eq_true, not_true_eq_false, e124, e23, e24, sk_sk]; omega)) cv_X9_205 rfl rfl rfl rfl (by decide) (Nat.le_of_ble_eq_true rfl) dX9_reads_170 (fun v170 s170 p170 => ?_)
    simp (disch := omega) only [fl_row_ne, fl_ne, up_row_ne, up_ne, up_eq, up_nk, up_up, up_self, ne_eq, Nat.reduceEqDiff, Int.reduceEq, reduceCtorEq, not_false_eq_true, not_true_eq_false, e124, e23, e24, sk_sk] at p170
    obtain ⟨rfl, rfl⟩ := p170
    try simp (disch := omega) only [fl_row_ne, fl_ne, up_row_ne, up_ne, up_eq, up_nk, up_up, up_self, ne_eq, Nat.reduceEqDiff, Int.reduceEq, reduceCtorEq, not_false_eq_true, not_true_eq_false, e124, e23, e24, sk_sk]
    refine z_i2l hO dX9_reads_173 (by omega) ?_
    refine z_ldc2 hO k_X9_208 dX9_reads_174 ?_
    refine z_ldc2 hO k_X9_210 dX9_reads_177 ?_
    refine z_csQ hO (t_X9_in (by omega) (by omega) (by omega)) cs_X9_75 rfl rfl (by decide) (Nat.le_of_ble_eq_true rfl) dX9_reads_180 (fun c180 => ?_) (fun c180 => ?_)
    ·
      try simp (disch := omega) only [fl_row_ne, fl_ne, up_row_ne, up_ne, up_eq, up_nk, up_up, up_self, ne_eq, Nat.reduceEqDiff, Int.reduceEq, reduceCtorEq, not_false_eq_true, not_true_eq_false, e23, e24, e0] at c180 ⊢
      rw [if_pos c180] at hcp
      have hc0 : (cpF t n p1).1 = chr t n (sk t n (sk t n p1 + 1)) - 48 := by rw [hcp]
      have hc9 : (cpF t n p1).2 = sk t n (sk t n p1 + 1) + 1 := by rw [hcp]
      refine z_if_ne hO 188 dX9_reads_183 (by decide) (by decide) (fun c183 => ?_) (fun c183 => absurd c183 (by omega))
      refine z_aload_n hO 1 dX9_reads_188 rfl ?_
      refine z_getR hO (125) fl_X9_44 rfl rfl dX9_reads_189 ?_
      refine z_iload_n hO 3 dX9_reads_192 rfl ?_
      refine z_iconst hO dX9_reads_193 ?_
      refine z_iadd hO dX9_reads_194 ?_
      refine z_iload hO 0 dX9_reads_195 rfl ?_
      refine z_iadd hO dX9_reads_197 ?_
      refine z_aload_n hO 1 dX9_reads_198 rfl ?_
      refine z_cvI hO (t_X9_here (by simp (disch := omega) only [fl_row_ne, fl_ne, up_row_ne, up_ne, up_eq, up_nk, up_up, up_self, ne_eq, Nat.reduceEqDiff, Int.reduceEq, reduceCtorEq, not_false_eq_true, not_true_eq_false, e124, e23, e24, sk_sk]; exact hT) (by simp (disch := omega) only [fl_row_ne, fl_ne, up_row_ne, up_ne, up_eq, up_nk, up_up, up_self, ne_eq, Nat.reduceEqDiff, Int.reduceEq, reduceCtorEq, not_false_eq_true, not_true_eq_false, e124, e23, e24, sk_sk]; omega)) cv_X9_205 rfl rfl rfl rfl (by decide) (Nat.le_of_ble_eq_true rfl) dX9_reads_199 (fun v199 s199 p199 => ?_)
      simp (disch := omega) only [fl_row_ne, fl_ne, up_row_ne, up_ne, up_eq, up_nk, up_up, up_self, ne_eq, Nat.reduceEqDiff, Int.reduceEq, reduceCtorEq, not_false_eq_true, not_true_eq_false, e124, e23, e24, sk_sk] at p199
      obtain ⟨rfl, rfl⟩ := p199
      try simp (disch := omega) only [fl_row_ne, fl_ne, up_row_ne, up_ne, up_eq, up_nk, up_up, up_self, ne_eq, Nat.reduceEqDiff, Int.reduceEq, reduceCtorEq, not_false_eq_true, not_true_eq_false, e124, e23, e24, sk_sk]
      refine z_bipush hO dX9_reads_202 (by decide) ?_
      refine z_isub hO dX9_reads_204 ?_
      refine z_iast hO rfl (by omega) (by decide) (by omega) dX9_reads_205 ?_
      refine z_aload_n hO 1 dX9_reads_206 rfl ?_
      refine z_dup hO dX9_reads_207 rfl ?_
      refine z_getI hO 24 fl_X9_202 rfl rfl rfl dX9_reads_208 (fun r208 => ?_)
      try simp (disch := omega) only [fl_row_ne, fl_ne, up_row_ne, up_ne, up_eq, up_nk, up_up, up_self, ne_eq, Nat.reduceEqDiff, Int.reduceEq, reduceCtorEq, not_false_eq_true, not_true_eq_false, e23, e24, e0] at r208 ⊢
      refine z_iconst hO dX9_reads_211 ?_
      refine z_iadd hO dX9_reads_212 ?_
      refine z_putI hO 24 fp_X9_202 rfl rfl rfl (by omega) rfl rfl dX9_reads_213 ?_
      refine z_aload_n hO 1 dX9_reads_216 rfl ?_
      refine z_getR hO (125) fl_X9_44 rfl rfl dX9_reads_217 ?_
      refine z_iload_n hO 3 dX9_reads_220 rfl ?_
      refine z_dup2 hO dX9_reads_221 rfl rfl ?_
      refine z_iald hO rfl (by omega) (by decide) dX9_reads_222 (fun r222 => ?_)
      try simp (disch := omega) only [fl_row_ne, fl_ne, up_row_ne, up_ne, up_eq, up_nk, up_up, up_self, ne_eq, Nat.reduceEqDiff, Int.reduceEq, reduceCtorEq, not_false_eq_true, not_true_eq_false, e23, e24, e0] at r222 ⊢
      refine z_iconst hO dX9_reads_223 ?_
      refine z_iadd hO dX9_reads_224 ?_
      refine z_iast hO rfl (by omega) (by decide) (by omega) dX9_reads_225 ?_
      refine z_aload_n hO 1 dX9_reads_226 rfl ?_
      refine z_getR hO (125) fl_X9_44 rfl rfl dX9_reads_227 ?_
      refine z_iload_n hO 3 dX9_reads_230 rfl ?_
      refine z_iald hO rfl (by omega) (by decide) dX9_reads_231 (fun r231 => ?_)
      try simp (disch := omega) only [fl_row_ne, fl_ne, up_row_ne, up_ne, up_eq, up_nk, up_up, up_self, ne_eq, Nat.reduceEqDiff, Int.reduceEq, reduceCtorEq, not_false_eq_true, not_true_eq_false, e23, e24, e0] at r231 ⊢
      refine z_iconst hO dX9_reads_232 ?_
      refine z_icmp_ge hO 249 dX9_reads_233 (by decide) (by omega) (by decide) (fun c233 => ?_) (fun c233 => ?_)
      ·
        refine z_iconst hO dX9_reads_249 ?_
        refine z_istore_n hO (L' := [(3, _), (8, _), (0, _), (1, _), (2, _), (5, _), (6, _), (7, _)]) dX9_reads_250 (by decide) rfl ?_
        refine z_goto hO 14 dX9_reads_251 (by decide) ?_
        refine z_iload_n hO 0 dX9_reads_14 rfl ?_
        refine z_if_eq hO 254 dX9_reads_15 (by decide) (by decide) (fun c15 => ?_) (fun c15 => absurd c15 (by omega))
        refine z_iconst hO dX9_reads_254 ?_
        exact z_retT hO hR dX9_reads_255 (hPt _ (by omega) (by first | exact Or.inl ⟨by omega, by simp (disch := omega) only [fl_row_ne, fl_ne, up_row_ne, up_ne, up_eq, up_nk, up_up, up_self, ne_eq, Nat.reduceEqDiff, Int.reduceEq, reduceCtorEq, not_false_eq_true, not_true_eq_false]; omega⟩ | exact Or.inr ⟨by omega, by (try rw [hc9]); (try rw [sk_sk]); assumption, by simp (disch := omega) only [fl_row_ne, fl_ne, up_row_ne, up_ne, up_eq, up_nk, up_up, up_self, ne_eq, Nat.reduceEqDiff, Int.reduceEq, reduceCtorEq, not_false_eq_true, not_true_eq_false]; rw [hc9]; first | done | rw [sk_sk]⟩) (rdRow_snoc hrow (by omega) (by simp (disch := omega) only [fl_row_ne, fl_ne, up_row_ne, up_ne, up_eq, up_nk, up_up, up_self, ne_eq, Nat.reduceEqDiff, Int.reduceEq, reduceCtorEq, not_false_eq_true, not_true_eq_false]) (by simp (disch := omega) only [fl_row_ne, fl_ne, up_row_ne, up_ne, up_eq, up_nk, up_up, up_self, ne_eq, Nat.reduceEqDiff, Int.reduceEq, reduceCtorEq, not_false_eq_true, not_true_eq_false]) (by simp (disch := omega) only [fl_row_ne, fl_ne, up_row_ne, up_ne, up_eq, up_nk, up_up, up_self, ne_eq, Nat.reduceEqDiff, Int.reduceEq, reduceCtorEq, not_false_eq_true, not_true_eq_false]; omega) (fun j hj => by simp (disch := omega) only [fl_row_ne, fl_ne, up_row_ne, up_ne, up_eq, up_nk, up_up, up_self, ne_eq, Nat.reduceEqDiff, Int.reduceEq, reduceCtorEq, not_false_eq_true, not_true_eq_false]; exact ⟨by trivial, by trivial⟩)) (fun j hj => by simp (disch := omega) only [fl_row_ne, fl_ne, up_row_ne, up_ne, up_eq, up_nk, up_up, up_self, ne_eq, Nat.reduceEqDiff, Int.reduceEq, reduceCtorEq, not_false_eq_true, not_true_eq_false]; exact hoth j hj) (by first | exact ((hFm.up rfl).up rfl).up rfl | exact (((hFm.up rfl).up rfl).up rfl).up rfl | exact ((((hFm.up rfl).up rfl).up rfl).up rfl).up rfl | exact (((((hFm.up rfl).up rfl).up rfl).up rfl).up rfl).up rfl | exact ((((((hFm.up rfl).up rfl).up rfl).up rfl).up rfl).up rfl).up rfl | exact (((((((hFm.up rfl).up rfl).up rfl).up rfl).up rfl).up rfl).up rfl).up rfl))
      ·
        refine z_aload_n hO 1 dX9_reads_236 rfl ?_
        refine z_bipush hO dX9_reads_237 (by decide) ?_
        refine z_cvB hO (t_X9_has (l := 44) (by decide) (by simp (disch := omega) only [fl_row_ne, fl_ne, up_row_ne, up_ne, up_eq, up_nk, up_up, up_self, ne_eq, Nat.reduceEqDiff, Int.reduceEq, reduceCtorEq, not_false_eq_true, not_true_eq_false, e124, e23, e24, sk_sk]; exact hT) (by simp (disch := omega) only [fl_row_ne, fl_ne, up_row_ne, up_ne, up_eq, up_nk, up_up, up_self, ne_eq, Nat.reduceEqDiff, Int.reduceEq, reduceCtorEq, not_false_eq_true, not_true_eq_false, e124, e23, e24, sk_sk]; omega)) cv_X9_218 rfl rfl rfl rfl (by decide) (Nat.le_of_ble_eq_true rfl) dX9_reads_239 (fun s239 p239 => ?_) (fun s239 p239 => ?_)
        ·
          simp (disch := omega) only [fl_row_ne, fl_ne, up_row_ne, up_ne, up_eq, up_nk, up_up, up_self, ne_eq, Nat.reduceEqDiff, Int.reduceEq, reduceCtorEq, not_false_eq_true, not_true_eq_false, e124, e23, e24, sk_sk] at p239
          obtain ⟨k239, rfl⟩ := p239.1 (by trivial)
          refine z_if_eq hO 249 dX9_reads_242 (by decide) (by decide) (fun c242 => absurd c242 (by omega)) (fun c242 => ?_)
          refine z_iconst hO dX9_reads_245 ?_
          refine z_goto hO 250 dX9_reads_246 (by decide) ?_
          refine z_istore_n hO (L' := [(3, _), (8, _), (0, _), (1, _), (2, _), (5, _), (6, _), (7, _)]) dX9_reads_250 (by decide) rfl ?_
          refine z_goto hO 14 dX9_reads_251 (by decide) ?_
          refine z_pick [2, 3, 4, 0] rfl (hI _ (by omega) (by omega) (by (try rw [hc9]); (try rw [sk_sk]); assumption) (by simp (disch := omega) only [fl_row_ne, fl_ne, up_row_ne, up_ne, up_eq, up_nk, up_up, up_self, ne_eq, Nat.reduceEqDiff, Int.reduceEq, reduceCtorEq, not_false_eq_true, not_true_eq_false]; rw [hc9]; first | done | rw [sk_sk]) (rdRow_snoc hrow (by omega) (by simp (disch := omega) only [fl_row_ne, fl_ne, up_row_ne, up_ne, up_eq, up_nk, up_up, up_self, ne_eq, Nat.reduceEqDiff, Int.reduceEq, reduceCtorEq, not_false_eq_true, not_true_eq_false]) (by simp (disch := omega) only [fl_row_ne, fl_ne, up_row_ne, up_ne, up_eq, up_nk, up_up, up_self, ne_eq, Nat.reduceEqDiff, Int.reduceEq, reduceCtorEq, not_false_eq_true, not_true_eq_false]) (by simp (disch := omega) only [fl_row_ne, fl_ne, up_row_ne, up_ne, up_eq, up_nk, up_up, up_self, ne_eq, Nat.reduceEqDiff, Int.reduceEq, reduceCtorEq, not_false_eq_true, not_true_eq_false]; omega) (fun j hj => by simp (disch := omega) only [fl_row_ne, fl_ne, up_row_ne, up_ne, up_eq, up_nk, up_up, up_self, ne_eq, Nat.reduceEqDiff, Int.reduceEq, reduceCtorEq, not_false_eq_true, not_true_eq_false]; exact ⟨by trivial, by trivial⟩)) (fun j hj => by simp (disch := omega) only [fl_row_ne, fl_ne, up_row_ne, up_ne, up_eq, up_nk, up_up, up_self, ne_eq, Nat.reduceEqDiff, Int.reduceEq, reduceCtorEq, not_false_eq_true, not_true_eq_false]; exact hoth j hj) (by first | exact ((hFm.up rfl).up rfl).up rfl | exact (((hFm.up rfl).up rfl).up rfl).up rfl | exact ((((hFm.up rfl).up rfl).up rfl).up rfl).up rfl | exact (((((hFm.up rfl).up rfl).up rfl).up rfl).up rfl).up rfl | exact ((((((hFm.up rfl).up rfl).up rfl).up rfl).up rfl).up rfl).up rfl | exact (((((((hFm.up rfl).up rfl).up rfl).up rfl).up rfl).up rfl).up rfl).up rfl))
        ·
          simp (disch := omega) only [fl_row_ne, fl_ne, up_row_ne, up_ne, up_eq, up_nk, up_up, up_self, ne_eq, Nat.reduceEqDiff, Int.reduceEq, reduceCtorEq, not_false_eq_true, not_true_eq_false, e124, e23, e24, sk_sk] at p239
          obtain ⟨k239, rfl⟩ := p239.2 (by trivial)
          refine z_if_eq hO 249 dX9_reads_242 (by decide) (by decide) (fun c242 => ?_) (fun c242 => absurd c242 (by omega))
          refine z_iconst hO dX9_reads_249 ?_
          refine z_istore_n hO (L' := [(3, _), (8, _), (0, _), (1, _), (2, _), (5, _), (6, _), (7, _)]) dX9_reads_250 (by decide) rfl ?_
          refine z_goto hO 14 dX9_reads_251 (by decide) ?_
          refine z_iload_n hO 0 dX9_reads_14 rfl ?_
          refine z_if_eq hO 254 dX9_reads_15 (by decide) (by decide) (fun c15 => ?_) (fun c15 => absurd c15 (by omega))
          refine z_iconst hO dX9_reads_254 ?_
          exact z_retT hO hR dX9_reads_255 (hPt _ (by omega) (by first | exact Or.inl ⟨by omega, by simp (disch := omega) only [fl_row_ne, fl_ne, up_row_ne, up_ne, up_eq, up_nk, up_up, up_self, ne_eq, Nat.reduceEqDiff, Int.reduceEq, reduceCtorEq, not_false_eq_true, not_true_eq_false]; omega⟩ | exact Or.inr ⟨by omega, by (try rw [hc9]); (try rw [sk_sk]); assumption, by simp (disch := omega) only [fl_row_ne, fl_ne, up_row_ne, up_ne, up_eq, up_nk, up_up, up_self, ne_eq, Nat.reduceEqDiff, Int.reduceEq, reduceCtorEq, not_false_eq_true, not_true_eq_false]; rw [hc9]; first | done | rw [sk_sk]⟩) (rdRow_snoc hrow (by omega) (by simp (disch := omega) only [fl_row_ne, fl_ne, up_row_ne, up_ne, up_eq, up_nk, up_up, up_self, ne_eq, Nat.reduceEqDiff, Int.reduceEq, reduceCtorEq, not_false_eq_true, not_true_eq_false]) (by simp (disch := omega) only [fl_row_ne, fl_ne, up_row_ne, up_ne, up_eq, up_nk, up_up, up_self, ne_eq, Nat.reduceEqDiff, Int.reduceEq, reduceCtorEq, not_false_eq_true, not_true_eq_false]) (by simp (disch := omega) only [fl_row_ne, fl_ne, up_row_ne, up_ne, up_eq, up_nk, up_up, up_self, ne_eq, Nat.reduceEqDiff, Int.reduceEq, reduceCtorEq, not_false_eq_true, not_true_eq_false]; omega) (fun j hj => by simp (disch := omega) only [fl_row_ne, fl_ne, up_row_ne, up_ne, up_eq, up_nk, up_up, up_self, ne_eq, Nat.reduceEqDiff, Int.reduceEq, reduceCtorEq, not_false_eq_true, not_true_eq_false]; exact ⟨by trivial, by trivial⟩)) (fun j hj => by simp (disch := omega) only [fl_row_ne, fl_ne, up_row_ne, up_ne, up_eq, up_nk, up_up, up_self, ne_eq, Nat.reduceEqDiff, Int.reduceEq, reduceCtorEq, not_false_eq_true, not_true_eq_false]; exact hoth j hj) (by first | exact ((hFm.up rfl).up rfl).up rfl | exact (((hFm.up rfl).up rfl).up rfl).up rfl | exact ((((hFm.up rfl).up rfl).up rfl).up rfl).up rfl | exact (((((hFm.up rfl).up rfl).up rfl).up rfl).up rfl).up rfl | exact ((((((hFm.up rfl).up rfl).up rfl).up rfl).up rfl).up rfl).up rfl | exact (((((((hFm.up rfl).up rfl).up rfl).up rfl).up rfl).up rfl).up rfl).up rfl))
    ·
      try simp (disch := omega) only [fl_row_ne, fl_ne, up_row_ne, up_ne, up_eq, up_nk, up_up, up_self, ne_eq, Nat.reduceEqDiff, Int.reduceEq, reduceCtorEq, not_false_eq_true, not_true_eq_false, e23, e24, e0] at c180 ⊢
      rw [if_neg c180] at hcp
      have hc0 : (cpF t n p1).1 = -1 := by rw [hcp]
      have hc9 : (cpF t n p1).2 = sk t n (sk t n p1 + 1) := by rw [hcp]
      refine z_if_ne hO 188 dX9_reads_183 (by decide) (by decide) (fun c183 => absurd c183 (by omega)) (fun c183 => ?_)
      refine z_iconst hO dX9_reads_186 ?_
      exact z_retF hO hR dX9_reads_187 (hPf _ hc0 (by simp (disch := omega) only [fl_row_ne, fl_ne, up_row_ne, up_ne, up_eq, up_nk, up_up, up_self, ne_eq, Nat.reduceEqDiff, Int.reduceEq, reduceCtorEq, not_false_eq_true, not_true_eq_false]; omega) (fun j hj => by simp (disch := omega) only [fl_row_ne, fl_ne, up_row_ne, up_ne, up_eq, up_nk, up_up, up_self, ne_eq, Nat.reduceEqDiff, Int.reduceEq, reduceCtorEq, not_false_eq_true, not_true_eq_false]; exact hoth j hj) (by first | exact ((hFm.up rfl).up rfl).up rfl | exact (((hFm.up rfl).up rfl).up rfl).up rfl | exact ((((hFm.up rfl).up rfl).up rfl).up rfl).up rfl | exact (((((hFm.up rfl).up rfl).up rfl).up rfl).up rfl).up rfl | exact ((((((hFm.up rfl).up rfl).up rfl).up rfl).up rfl).up rfl).up rfl | exact (((((((hFm.up rfl).up rfl).up rfl).up rfl).up rfl).up rfl).up rfl).up rfl))
  ·
    simp (disch := omega) only [fl_row_ne, fl_ne, up_row_ne, up_ne, up_eq, up_nk, up_up, up_self, ne_eq, Nat.reduceEqDiff, Int.reduceEq, reduceCtorEq, not_false_eq_true, not_true_eq_false, e124, e23, e24, sk_sk] at p163
    obtain ⟨k163, rfl⟩ := p163.2 (by trivial)
    have hcp : (cpF t n p1) = (0, sk t n p1) := by unfold cpF; rw [if_neg k163]
    have hc0 : (cpF t n p1).1 = 0 := by rw [hcp]
    have hc9 : (cpF t n p1).2 = sk t n p1 := by rw [hcp]
    refine z_if_eq hO 216 dX9_reads_166 (by decide) (by decide) (fun c166 => ?_) (fun c166 => absurd c166 (by omega))
    refine z_aload_n hO 1 dX9_reads_216 rfl ?_
    refine z_getR hO (125) fl_X9_44 rfl rfl dX9_reads_217 ?_
    refine z_iload_n hO 3 dX9_reads_220 rfl ?_
    refine z_dup2 hO dX9_reads_221 rfl rfl ?_
    refine z_iald hO rfl (by omega) (by decide) dX9_reads_222 (fun r222 => ?_)
    try simp (disch := omega) only [fl_row_ne, fl_ne, up_row_ne, up_ne, up_eq, up_nk, up_up, up_self, ne_eq, Nat.reduceEqDiff, Int.reduceEq, reduceCtorEq, not_false_eq_true, not_true_eq_false, e23, e24, e0] at r222 ⊢
    refine z_iconst hO dX9_reads_223 ?_
    refine z_iadd hO dX9_reads_224 ?_
    refine z_iast hO rfl (by omega) (by decide) (by omega) dX9_reads_225 ?_
    refine z_aload_n hO 1 dX9_reads_226 rfl ?_
    refine z_getR hO (125) fl_X9_44 rfl rfl dX9_reads_227 ?_
    refine z_iload_n hO 3 dX9_reads_230 rfl ?_
    refine z_iald hO rfl (by omega) (by decide) dX9_reads_231 (fun r231 => ?_)
    try simp (disch := omega) only [fl_row_ne, fl_ne, up_row_ne, up_ne, up_eq, up_nk, up_up, up_self, ne_eq, Nat.reduceEqDiff, Int.reduceEq, reduceCtorEq, not_false_eq_true, not_true_eq_false, e23, e24, e0] at r231 ⊢
    refine z_iconst hO dX9_reads_232 ?_
    refine z_icmp_ge hO 249 dX9_reads_233 (by decide) (by omega) (by decide) (fun c233 => ?_) (fun c233 => ?_)
    ·
      refine z_iconst hO dX9_reads_249 ?_
      refine z_istore_n hO (L' := [(3, _), (8, _), (0, _), (1, _), (2, _), (5, _), (6, _), (7, _)]) dX9_reads_250 (by decide) rfl ?_
      refine z_goto hO 14 dX9_reads_251 (by decide) ?_
      refine z_iload_n hO 0 dX9_reads_14 rfl ?_
      refine z_if_eq hO 254 dX9_reads_15 (by decide) (by decide) (fun c15 => ?_) (fun c15 => absurd c15 (by omega))
      refine z_iconst hO dX9_reads_254 ?_
      exact z_retT hO hR dX9_reads_255 (hPt _ (by omega) (by first | exact Or.inl ⟨by omega, by simp (disch := omega) only [fl_row_ne, fl_ne, up_row_ne, up_ne, up_eq, up_nk, up_up, up_self, ne_eq, Nat.reduceEqDiff, Int.reduceEq, reduceCtorEq, not_false_eq_true, not_true_eq_false]; omega⟩ | exact Or.inr ⟨by omega, by (try rw [hc9]); (try rw [sk_sk]); assumption, by simp (disch := omega) only [fl_row_ne, fl_ne, up_row_ne, up_ne, up_eq, up_nk, up_up, up_self, ne_eq, Nat.reduceEqDiff, Int.reduceEq, reduceCtorEq, not_false_eq_true, not_true_eq_false]; rw [hc9]; first | done | rw [sk_sk]⟩) (rdRow_snoc hrow (by omega) (by simp (disch := omega) only [fl_row_ne, fl_ne, up_row_ne, up_ne, up_eq, up_nk, up_up, up_self, ne_eq, Nat.reduceEqDiff, Int.reduceEq, reduceCtorEq, not_false_eq_true, not_true_eq_false]) (by simp (disch := omega) only [fl_row_ne, fl_ne, up_row_ne, up_ne, up_eq, up_nk, up_up, up_self, ne_eq, Nat.reduceEqDiff, Int.reduceEq, reduceCtorEq, not_false_eq_true, not_true_eq_false]) (by simp (disch := omega) only [fl_row_ne, fl_ne, up_row_ne, up_ne, up_eq, up_nk, up_up, up_self, ne_eq, Nat.reduceEqDiff, Int.reduceEq, reduceCtorEq, not_false_eq_true, not_true_eq_false]; omega) (fun j hj => by simp (disch := omega) only [fl_row_ne, fl_ne, up_row_ne, up_ne, up_eq, up_nk, up_up, up_self, ne_eq, Nat.reduceEqDiff, Int.reduceEq, reduceCtorEq, not_false_eq_true, not_true_eq_false]; exact ⟨by trivial, by trivial⟩)) (fun j hj => by simp (disch := omega) only [fl_row_ne, fl_ne, up_row_ne, up_ne, up_eq, up_nk, up_up, up_self, ne_eq, Nat.reduceEqDiff, Int.reduceEq, reduceCtorEq, not_false_eq_true, not_true_eq_false]; exact hoth j hj) (by first | exact ((hFm.up rfl).up rfl).up rfl | exact (((hFm.up rfl).up rfl).up rfl).up rfl | exact ((((hFm.up rfl).up rfl).up rfl).up rfl).up rfl | exact (((((hFm.up rfl).up rfl).up rfl).up rfl).up rfl).up rfl | exact ((((((hFm.up rfl).up rfl).up rfl).up rfl).up rfl).up rfl).up rfl | exact (((((((hFm.up rfl).up rfl).up rfl).up rfl).up rfl).up rfl).up rfl).up rfl))
    ·
      refine z_aload_n hO 1 dX9_reads_236 rfl ?_
      refine z_bipush hO dX9_reads_237 (by decide) ?_
      refine z_cvB hO (t_X9_has (l := 44) (by decide) (by simp (disch := omega) only [fl_row_ne, fl_ne, up_row_ne, up_ne, up_eq, up_nk, up_up, up_self, ne_eq, Nat.reduceEqDiff, Int.reduceEq, reduceCtorEq, not_false_eq_true, not_true_eq_false, e124, e23, e24, sk_sk]; exact hT) (by simp (disch := omega) only [fl_row_ne, fl_ne, up_row_ne, up_ne, up_eq, up_nk, up_up, up_self, ne_eq, Nat.reduceEqDiff, Int.reduceEq, reduceCtorEq, not_false_eq_true, not_true_eq_false, e124, e23, e24, sk_sk]; omega)) cv_X9_218 rfl rfl rfl rfl (by decide) (Nat.le_of_ble_eq_true rfl) dX9_reads_239 (fun s239 p239 => ?_) (fun s239 p239 => ?_)
      ·
        simp (disch := omega) only [fl_row_ne, fl_ne, up_row_ne, up_ne, up_eq, up_nk, up_up, up_self, ne_eq, Nat.reduceEqDiff, Int.reduceEq, reduceCtorEq, not_false_eq_true, not_true_eq_false, e124, e23, e24, sk_sk] at p239
        obtain ⟨k239, rfl⟩ := p239.1 (by trivial)
        refine z_if_eq hO 249 dX9_reads_242 (by decide) (by decide) (fun c242 => absurd c242 (by omega)) (fun c242 => ?_)
        refine z_iconst hO dX9_reads_245 ?_
        refine z_goto hO 250 dX9_reads_246 (by decide) ?_
        refine z_istore_n hO (L' := [(3, _), (8, _), (0, _), (1, _), (2, _), (5, _), (6, _), (7, _)]) dX9_reads_250 (by decide) rfl ?_
        refine z_goto hO 14 dX9_reads_251 (by decide) ?_
        refine z_pick [2, 3, 4, 0] rfl (hI _ (by omega) (by omega) (by (try rw [hc9]); (try rw [sk_sk]); assumption) (by simp (disch := omega) only [fl_row_ne, fl_ne, up_row_ne, up_ne, up_eq, up_nk, up_up, up_self, ne_eq, Nat.reduceEqDiff, Int.reduceEq, reduceCtorEq, not_false_eq_true, not_true_eq_false]; rw [hc9]; first | done | rw [sk_sk]) (rdRow_snoc hrow (by omega) (by simp (disch := omega) only [fl_row_ne, fl_ne, up_row_ne, up_ne, up_eq, up_nk, up_up, up_self, ne_eq, Nat.reduceEqDiff, Int.reduceEq, reduceCtorEq, not_false_eq_true, not_true_eq_false]) (by simp (disch := omega) only [fl_row_ne, fl_ne, up_row_ne, up_ne, up_eq, up_nk, up_up, up_self, ne_eq, Nat.reduceEqDiff, Int.reduceEq, reduceCtorEq, not_false_eq_true, not_true_eq_false]) (by simp (disch := omega) only [fl_row_ne, fl_ne, up_row_ne, up_ne, up_eq, up_nk, up_up, up_self, ne_eq, Nat.reduceEqDiff, Int.reduceEq, reduceCtorEq, not_false_eq_true, not_true_eq_false]; omega) (fun j hj => by simp (disch := omega) only [fl_row_ne, fl_ne, up_row_ne, up_ne, up_eq, up_nk, up_up, up_self, ne_eq, Nat.reduceEqDiff, Int.reduceEq, reduceCtorEq, not_false_eq_true, not_true_eq_false]; exact ⟨by trivial, by trivial⟩)) (fun j hj => by simp (disch := omega) only [fl_row_ne, fl_ne, up_row_ne, up_ne, up_eq, up_nk, up_up, up_self, ne_eq, Nat.reduceEqDiff, Int.reduceEq, reduceCtorEq, not_false_eq_true, not_true_eq_false]; exact hoth j hj) (by first | exact ((hFm.up rfl).up rfl).up rfl | exact (((hFm.up rfl).up rfl).up rfl).up rfl | exact ((((hFm.up rfl).up rfl).up rfl).up rfl).up rfl | exact (((((hFm.up rfl).up rfl).up rfl).up rfl).up rfl).up rfl | exact ((((((hFm.up rfl).up rfl).up rfl).up rfl).up rfl).up rfl).up rfl | exact (((((((hFm.up rfl).up rfl).up rfl).up rfl).up rfl).up rfl).up rfl).up rfl))
      ·
        simp (disch := omega) only [fl_row_ne, fl_ne, up_row_ne, up_ne, up_eq, up_nk, up_up, up_self, ne_eq, Nat.reduceEqDiff, Int.reduceEq, reduceCtorEq, not_false_eq_true, not_true_eq_false, e124, e23, e24, sk_sk] at p239
        obtain ⟨k239, rfl⟩ := p239.2 (by trivial)
        refine z_if_eq hO 249 dX9_reads_242 (by decide) (by decide) (fun c242 => ?_) (fun c242 => absurd c242 (by omega))
        refine z_iconst hO dX9_reads_249 ?_
        refine z_istore_n hO (L' := [(3, _), (8, _), (0, _), (1, _), (2, _), (5, _), (6, _), (7, _)]) dX9_reads_250 (by decide) rfl ?_
        refine z_goto hO 14 dX9_reads_251 (by decide) ?_
        refine z_iload_n hO 0 dX9_reads_14 rfl ?_
        refine z_if_eq hO 254 dX9_reads_15 (by decide) (by decide) (fun c15 => ?_) (fun c15 => absurd c15 (by omega))
        refine z_iconst hO dX9_reads_254 ?_
        exact z_retT hO hR dX9_reads_255 (hPt _ (by omega) (by first | exact Or.inl ⟨by omega, by simp (disch := omega) only [fl_row_ne, fl_ne, up_row_ne, up_ne, up_eq, up_nk, up_up, up_self, ne_eq, Nat.reduceEqDiff, Int.reduceEq, reduceCtorEq, not_false_eq_true, not_true_eq_false]; omega⟩ | exact Or.inr ⟨by omega, by (try rw [hc9]); (try rw [sk_sk]); assumption, by simp (disch := omega) only [fl_row_ne, fl_ne, up_row_ne, up_ne, up_eq, up_nk, up_up, up_self, ne_eq, Nat.reduceEqDiff, Int.reduceEq, reduceCtorEq, not_false_eq_true, not_true_eq_false]; rw [hc9]; first | done | rw [sk_sk]⟩) (rdRow_snoc hrow (by omega) (by simp (disch := omega) only [fl_row_ne, fl_ne, up_row_ne, up_ne, up_eq, up_nk, up_up, up_self, ne_eq, Nat.reduceEqDiff, Int.reduceEq, reduceCtorEq, not_false_eq_true, not_true_eq_false]) (by simp (disch := omega) only [fl_row_ne, fl_ne, up_row_ne, up_ne, up_eq, up_nk, up_up, up_self, ne_eq, Nat.reduceEqDiff, Int.reduceEq, reduceCtorEq, not_false_eq_true, not_true_eq_false]) (by simp (disch := omega) only [fl_row_ne, fl_ne, up_row_ne, up_ne, up_eq, up_nk, up_up, up_self, ne_eq, Nat.reduceEqDiff, Int.reduceEq, reduceCtorEq, not_false_eq_true, not_true_eq_false]; omega) (fun j hj => by simp (disch := omega) only [fl_row_ne, fl_ne, up_row_ne, up_ne, up_eq, up_nk, up_up, up_self, ne_eq, Nat.reduceEqDiff, Int.reduceEq, reduceCtorEq, not_false_eq_true, not_true_eq_false]; exact ⟨by trivial, by trivial⟩)) (fun j hj => by simp (disch := omega) only [fl_row_ne, fl_ne, up_row_ne, up_ne, up_eq, up_nk, up_up, up_self, ne_eq, Nat.reduceEqDiff, Int.reduceEq, reduceCtorEq, not_false_eq_true, not_true_eq_false]; exact hoth j hj) (by first | exact ((hFm.up rfl).up rfl).up rfl | exact (((hFm.up rfl).up rfl).up rfl).up rfl | exact ((((hFm.up rfl).up rfl).up rfl).up rfl).up rfl | exact (((((hFm.up rfl).up rfl).up rfl).up rfl).up rfl).up rfl | exact ((((((hFm.up rfl).up rfl).up rfl).up rfl).up rfl).up rfl).up rfl | exact (((((((hFm.up rfl).up rfl).up rfl).up rfl).up rfl).up rfl).up rfl).up rfl))
