/-! ===== checks ===== -/
def sumN (N : Int → Int) : Nat → Int
  | 0 => 0
  | m + 1 => sumN N m + N m
theorem sumN_s (N : Int → Int) (m : Nat) : sumN N (m + 1) = sumN N m + N m := rfl
def rsn (N : Int → Int) (m : Int) : Prop := ∀ j, 0 ≤ j → j + 1 < m → N j < N (j + 1)
def sty (N : Int → Int) (m : Int) : Prop := ∀ j, 0 ≤ j → j + 1 < m → N (j + 1) - N j = N 1 - N 0
def hld (K : Int) (N : Int → Int) (m : Int) : Prop := if K = 1 then 1 < m ∧ sumN N (m - 1).toNat = N (m - 1) else if K = 2 then rsn N m else if K = 3 then 1 < m ∧ sumN N (m - 1).toNat % 100 = N (m - 1) % 100 else if K = 4 then rsn N m ∧ sty N m else True
theorem rsn_1 (N : Int → Int) {m : Int} (h : m ≤ 1) : rsn N m := fun j h0 h1 => absurd h1 (by omega)
theorem sty_1 (N : Int → Int) {m : Int} (h : m ≤ 1) : sty N m := fun j h0 h1 => absurd h1 (by omega)
theorem rsn_s {N : Int → Int} {i : Int} (hi : 0 ≤ i) : rsn N (i + 2) ↔ rsn N (i + 1) ∧ N i < N (i + 1) := by
  constructor
  · intro h; exact ⟨fun j h0 h1 => h j h0 (by omega), h i hi (by omega)⟩
  · rintro ⟨h1, h2⟩ j h0 h3
    by_cases q : j = i
    · subst q; exact h2
    · exact h1 j h0 (by omega)
theorem sty_s {N : Int → Int} {i : Int} (hi : 0 ≤ i) : sty N (i + 2) ↔ sty N (i + 1) ∧ N (i + 1) - N i = N 1 - N 0 := by
  constructor
  · intro h; exact ⟨fun j h0 h1 => h j h0 (by omega), h i hi (by omega)⟩
  · rintro ⟨h1, h2⟩ j h0 h3
    by_cases q : j = i
    · subst q; exact h2
    · exact h1 j h0 (by omega)
/-- numbers as they may be said -/
def NR (N : Int → Int) (m : Int) : Prop := 1 ≤ m ∧ m ≤ 8 ∧ ∀ j, 0 ≤ j → j < m → 0 ≤ N j ∧ N j ≤ 999999
theorem sumN_r {N : Int → Int} {m : Int} (h : NR N m) (i : Nat) (hi : (i : Int) ≤ m) : 0 ≤ sumN N i ∧ sumN N i ≤ 999999 * i := by
  induction i with
  | zero => exact ⟨Int.le_refl 0, Int.le_refl 0⟩
  | succ i ih =>
    have := ih (by omega); have := h.2.2 i (by omega) (by omega)
    rw [sumN_s]; omega

def plQ (V : Hv) (s w n r : Int) : Prop := (r = -4 ∧ ∀ k, 0 ≤ k → k < n → V.2.2.1 s k ≠ w) ∨ (0 ≤ r ∧ r < n ∧ V.2.2.1 s r = w ∧ ∀ k, r < k → k < n → V.2.2.1 s k ≠ w)

theorem plQ_0 (V : Hv) (s w : Int) : plQ V s w 0 (-4) := Or.inl ⟨rfl, fun k h0 h1 => absurd h1 (by omega)⟩
theorem plQ_hit {V : Hv} {s w : Int} {i : Nat} (h : V.2.2.1 s i = w) : plQ V s w (i + 1) i := Or.inr ⟨by omega, by omega, h, fun k h0 h1 => absurd h1 (by omega)⟩
theorem plQ_miss {V : Hv} {s w r : Int} {i : Nat} (q : plQ V s w i r) (h : V.2.2.1 s i ≠ w) : plQ V s w (i + 1) r := by
  rcases q with ⟨h1, h2⟩ | ⟨h1, h2, h3, h4⟩
  · refine Or.inl ⟨h1, fun k h0 h5 => ?_⟩
    by_cases e : k = i
    · subst e; exact h
    · exact h2 k h0 (by omega)
  · refine Or.inr ⟨h1, by omega, h3, fun k h0 h5 => ?_⟩
    by_cases e : k = i
    · subst e; exact h
    · exact h4 k h0 (by omega)

set_option maxHeartbeats 4000000 in
set_option maxRecDepth 100000 in
theorem lp_placeOf {g : G} {x : Cx} {σ : Sg} {s w : Int} (hO : Ok g x RX9 cX9_placeOf 5 2) (hR : Rt g x (some .int) (pI (fun r σ' => plQ (mv (σ 114)) s w (σ 114 (4 + 9 * s)) r ∧ σ' = σ))) (hV : WV (mv (σ 114))) (hs : 0 ≤ s ∧ s < σ 114 0) (rw' : -2147483648 ≤ w ∧ w ≤ 2147483647) : ∀ (k i : Nat) (r : Int), (i : Int) ≤ σ 114 (4 + 9 * s) → σ 114 (4 + 9 * s) - i < k → plQ (mv (σ 114)) s w i r → Z g x 5 6 [(0, .ref (g.2.2.1 113)), (1, vI s), (2, vI w), (3, vI r), (4, vI i)] [] σ := by
  have hn := hV.2.1
  rw [mv_n] at hn
  have hW := hV.2.2 s hs.1 hs.2
  rw [mv_c] at hW
  intro k
  induction k with
  | zero => intro i r hi hk; exfalso; omega
  | succ k ih =>
    intro i r hi hk hq
    refine z_iload hO 4 dX9_placeOf_6 rfl ?_
    refine z_aload_n hO 0 dX9_placeOf_8 rfl ?_
    refine z_getR hO (114) fl_X9_7 rfl rfl dX9_placeOf_9 ?_
    refine z_aload_n hO 0 dX9_placeOf_12 rfl ?_
    refine z_iload_n hO 1 dX9_placeOf_13 rfl ?_
    refine z_cvE hO (t_X9_at) cv_X9_79 rfl rfl rfl rfl (by decide) (Nat.le_of_ble_eq_true rfl) dX9_placeOf_14 ?_
    refine z_iald hO rfl (by omega) (by decide) dX9_placeOf_17 (fun r17 => ?_)
    refine z_icmp_ge hO 53 dX9_placeOf_18 (by decide) (by omega) (by omega) (fun c18 => ?_) (fun c18 => ?_)
    ·
      have hi3 : (i : Int) = σ 114 (4 + 9 * s) := by omega
      rw [hi3] at hq
      refine z_iload_n hO 3 dX9_placeOf_53 rfl ?_
      exact z_retI hO hR dX9_placeOf_54 (⟨hq, rfl⟩)
    ·
      refine z_aload_n hO 0 dX9_placeOf_21 rfl ?_
      refine z_getR hO (114) fl_X9_7 rfl rfl dX9_placeOf_22 ?_
      refine z_aload_n hO 0 dX9_placeOf_25 rfl ?_
      refine z_iload_n hO 1 dX9_placeOf_26 rfl ?_
      refine z_cvE hO (t_X9_at) cv_X9_79 rfl rfl rfl rfl (by decide) (Nat.le_of_ble_eq_true rfl) dX9_placeOf_27 ?_
      refine z_iconst hO dX9_placeOf_30 ?_
      refine z_iadd hO dX9_placeOf_31 ?_
      refine z_iload hO 4 dX9_placeOf_32 rfl ?_
      refine z_iadd hO dX9_placeOf_34 ?_
      refine z_iald hO rfl (by omega) (by decide) dX9_placeOf_35 (fun r35 => ?_)
      refine z_iload_n hO 2 dX9_placeOf_36 rfl ?_
      refine z_icmp_ne hO 45 dX9_placeOf_37 (by decide) (by omega) (by omega) (fun c37 => ?_) (fun c37 => ?_)
      ·
        refine z_iload_n hO 3 dX9_placeOf_45 rfl ?_
        refine z_istore_n hO (L' := [(3, _), (0, _), (1, _), (2, _), (4, _)]) dX9_placeOf_46 (by decide) rfl ?_
        refine z_iinc hO (L' := [(4, _), (3, _), (0, _), (1, _), (2, _)]) 4 dX9_placeOf_47 rfl (by decide) rfl ?_
        refine z_goto hO 6 dX9_placeOf_50 (by decide) ?_
        first | exact z_pick [2, 3, 4, 1, 0] rfl (ih (i + 1) _ (by omega) (by omega) (plQ_hit (by rw [mv_w]; omega))) | exact z_pick [2, 3, 4, 1, 0] rfl (ih (i + 1) _ (by omega) (by omega) (plQ_miss hq (by rw [mv_w]; omega)))
      ·
        refine z_iload hO 4 dX9_placeOf_40 rfl ?_
        refine z_goto hO 46 dX9_placeOf_42 (by decide) ?_
        refine z_istore_n hO (L' := [(3, _), (0, _), (1, _), (2, _), (4, _)]) dX9_placeOf_46 (by decide) rfl ?_
        refine z_iinc hO (L' := [(4, _), (3, _), (0, _), (1, _), (2, _)]) 4 dX9_placeOf_47 rfl (by decide) rfl ?_
        refine z_goto hO 6 dX9_placeOf_50 (by decide) ?_
        first | exact z_pick [2, 3, 4, 1, 0] rfl (ih (i + 1) _ (by omega) (by omega) (plQ_hit (by rw [mv_w]; omega))) | exact z_pick [2, 3, 4, 1, 0] rfl (ih (i + 1) _ (by omega) (by omega) (plQ_miss hq (by rw [mv_w]; omega)))

set_option maxHeartbeats 4000000 in
set_option maxRecDepth 100000 in
theorem t_X9_placeOf {g : G} {σ : Sg} {s w : Int} (hV : WV (mv (σ 114))) (hs : 0 ≤ s ∧ s < σ 114 0) (rw' : -2147483648 ≤ w ∧ w ≤ 2147483647) : MM g mX9_placeOf [.ref (g.2.2.1 113), vI s, vI w] σ (pI (fun r σ' => plQ (mv (σ 114)) s w (σ 114 (4 + 9 * s)) r ∧ σ' = σ)) := by
  refine mm_of rfl (by decide) rfl rfl (Nat.le_of_ble_eq_true rfl) (fun x hO hR => ?_)
  have hW := hV.2.2 s hs.1 hs.2
  rw [mv_c] at hW
  refine z_bipush hO dX9_placeOf_0 (by decide) ?_
  refine z_istore_n hO (L' := [(3, _), (0, _), (1, _), (2, _)]) dX9_placeOf_2 (by decide) rfl ?_
  refine z_iconst hO dX9_placeOf_3 ?_
  refine z_istore hO (L' := [(4, _), (3, _), (0, _), (1, _), (2, _)]) dX9_placeOf_4 (by decide) rfl ?_
  exact z_pick [2, 3, 4, 1, 0] rfl (lp_placeOf hO hR hV hs rw' 5 0 _ (by omega) (by omega) (plQ_0 _ _ _))

set_option maxHeartbeats 4000000 in
set_option maxRecDepth 100000 in
theorem lp_holds {g : G} {x : Cx} {σ : Sg} (hO : Ok g x RX9 cX9_holds 6 1) (hR : Rt g x (some .boolean) (pB (pQ (hld (σ 114 1) (σ 117) (σ 113 6)) σ))) (hN : NR (σ 117) (σ 113 6)) : ∀ (k i : Nat) (rb sb : Bool) (sum : Int), (i : Int) + 1 ≤ σ 113 6 → σ 113 6 - i < k → (rb = true ↔ rsn (σ 117) (i + 1)) → (sb = true ↔ sty (σ 117) (i + 1)) → sum = sumN (σ 117) i → Z g x 6 22 [(0, .ref (g.2.2.1 113)), (1, vI (σ 117 (σ 113 6 - 1))), (2, vI sum), (3, vI (b2i rb)), (4, vI (b2i sb)), (5, vI i)] [] σ := by
  intro k
  induction k with
  | zero => intro i rb sb sum hi hk; exfalso; omega
  | succ k ih =>
    intro i rb sb sum hi hk hrb hsb hsum
    have hsr := sumN_r hN i (by omega)
    have hNm := hN.2.1
    subst hsum
    refine z_iload hO 5 dX9_holds_22 rfl ?_
    refine z_iconst hO dX9_holds_24 ?_
    refine z_iadd hO dX9_holds_25 ?_
    refine z_aload_n hO 0 dX9_holds_26 rfl ?_
    refine z_getI hO 6 fl_X9_113 rfl rfl rfl dX9_holds_27 (fun r27 => ?_)
    refine z_icmp_ge hO 123 dX9_holds_30 (by decide) (by omega) (by omega) (fun c30 => ?_) (fun c30 => ?_)
    ·
      have hi3 : (i : Int) = σ 113 6 - 1 := by omega
      have hi4 : (σ 113 6 - 1).toNat = i := by omega
      have hNl := hN.2.2 (σ 113 6 - 1) (by omega) (by omega)
      rw [show (i : Int) + 1 = σ 113 6 by omega] at hrb hsb
      have hsr2 : σ 113 6 ≤ 8 := hN.2.1
      refine z_aload_n hO 0 dX9_holds_123 rfl ?_
      refine z_getR hO (114) fl_X9_7 rfl rfl dX9_holds_124 ?_
      refine z_iconst hO dX9_holds_127 ?_
      refine z_iald hO rfl (by omega) (by decide) dX9_holds_128 (fun r128 => ?_)
      rcases (show σ 114 1 = 1 ∨ σ 114 1 = 2 ∨ σ 114 1 = 3 ∨ σ 114 1 = 4 ∨ (σ 114 1 < 1 ∨ 4 < σ 114 1) by omega) with h129 | h129 | h129 | h129 | h129
      ·
        refine z_tswIn hO 160 dX9_holds_129 (by omega) (by omega) (by omega) (by rw [h129]; rfl) (by decide) ?_
        have hh : hld (σ 114 1) (σ 117) (σ 113 6) ↔ (1 < σ 113 6 ∧ sumN (σ 117) i = σ 117 (σ 113 6 - 1)) := by unfold hld; rw [if_pos h129, hi4]
        refine z_aload_n hO 0 dX9_holds_160 rfl ?_
        refine z_getI hO 6 fl_X9_113 rfl rfl rfl dX9_holds_161 (fun r161 => ?_)
        refine z_iconst hO dX9_holds_164 ?_
        refine z_icmp_le hO 177 dX9_holds_165 (by decide) (by omega) (by decide) (fun c165 => ?_) (fun c165 => ?_)
        ·
          refine z_iconst hO dX9_holds_177 ?_
          exact z_retQF hO hR dX9_holds_178 (by rw [hh]; omega) rfl
        ·
          refine z_iload_n hO 2 dX9_holds_168 rfl ?_
          refine z_iload_n hO 1 dX9_holds_169 rfl ?_
          refine z_icmp_ne hO 177 dX9_holds_170 (by decide) (by omega) (by omega) (fun c170 => ?_) (fun c170 => ?_)
          ·
            refine z_iconst hO dX9_holds_177 ?_
            exact z_retQF hO hR dX9_holds_178 (by rw [hh]; omega) rfl
          ·
            refine z_iconst hO dX9_holds_173 ?_
            refine z_goto hO 178 dX9_holds_174 (by decide) ?_
            exact z_retQT hO hR dX9_holds_178 (by rw [hh]; omega) rfl
      ·
        refine z_tswIn hO 179 dX9_holds_129 (by omega) (by omega) (by omega) (by rw [h129]; rfl) (by decide) ?_
        have hh : hld (σ 114 1) (σ 117) (σ 113 6) ↔ rsn (σ 117) (σ 113 6) := by unfold hld; rw [if_neg (by omega), if_pos h129]
        refine z_iload_n hO 3 dX9_holds_179 rfl ?_
        exact z_retQB hO hR dX9_holds_180 (by rw [hh]; exact hrb) rfl
      ·
        refine z_tswIn hO 181 dX9_holds_129 (by omega) (by omega) (by omega) (by rw [h129]; rfl) (by decide) ?_
        have hh : hld (σ 114 1) (σ 117) (σ 113 6) ↔ (1 < σ 113 6 ∧ sumN (σ 117) i % 100 = σ 117 (σ 113 6 - 1) % 100) := by unfold hld; rw [if_neg (by omega), if_neg (by omega), if_pos h129, hi4]
        refine z_aload_n hO 0 dX9_holds_181 rfl ?_
        refine z_getI hO 6 fl_X9_113 rfl rfl rfl dX9_holds_182 (fun r182 => ?_)
        refine z_iconst hO dX9_holds_185 ?_
        refine z_icmp_le hO 204 dX9_holds_186 (by decide) (by omega) (by decide) (fun c186 => ?_) (fun c186 => ?_)
        ·
          refine z_iconst hO dX9_holds_204 ?_
          exact z_retQF hO hR dX9_holds_205 (by rw [hh]; omega) rfl
        ·
          refine z_iload_n hO 2 dX9_holds_189 rfl ?_
          refine z_bipush hO dX9_holds_190 (by decide) ?_
          refine z_irem hO dX9_holds_192 (by omega) (by omega) ?_
          refine z_iload_n hO 1 dX9_holds_193 rfl ?_
          refine z_bipush hO dX9_holds_194 (by decide) ?_
          refine z_irem hO dX9_holds_196 (by omega) (by omega) ?_
          refine z_icmp_ne hO 204 dX9_holds_197 (by decide) (by omega) (by omega) (fun c197 => ?_) (fun c197 => ?_)
          ·
            refine z_iconst hO dX9_holds_204 ?_
            exact z_retQF hO hR dX9_holds_205 (by rw [hh]; omega) rfl
          ·
            refine z_iconst hO dX9_holds_200 ?_
            refine z_goto hO 205 dX9_holds_201 (by decide) ?_
            exact z_retQT hO hR dX9_holds_205 (by rw [hh]; omega) rfl
      ·
        refine z_tswIn hO 206 dX9_holds_129 (by omega) (by omega) (by omega) (by rw [h129]; rfl) (by decide) ?_
        have hh : hld (σ 114 1) (σ 117) (σ 113 6) ↔ (rsn (σ 117) (σ 113 6) ∧ sty (σ 117) (σ 113 6)) := by unfold hld; rw [if_neg (by omega), if_neg (by omega), if_neg (by omega), if_pos h129]
        refine z_iload_n hO 3 dX9_holds_206 rfl ?_
        refine z_if_eq hO 219 dX9_holds_207 (by decide) (by have := b2i_r rb; omega) (fun c207 => ?_) (fun c207 => ?_)
        ·
          refine z_iconst hO dX9_holds_219 ?_
          exact z_retQF hO hR dX9_holds_220 (by rw [hh, ← hrb, ← hsb]; simp only [b2i_0, b2i_1] at *; simp [*]) rfl
        ·
          refine z_iload hO 4 dX9_holds_210 rfl ?_
          refine z_if_eq hO 219 dX9_holds_212 (by decide) (by have := b2i_r sb; omega) (fun c212 => ?_) (fun c212 => ?_)
          ·
            refine z_iconst hO dX9_holds_219 ?_
            exact z_retQF hO hR dX9_holds_220 (by rw [hh, ← hrb, ← hsb]; simp only [b2i_0, b2i_1] at *; simp [*]) rfl
          ·
            refine z_iconst hO dX9_holds_215 ?_
            refine z_goto hO 220 dX9_holds_216 (by decide) ?_
            exact z_retQT hO hR dX9_holds_220 (by rw [hh, ← hrb, ← hsb]; simp only [b2i_0, b2i_1] at *; simp [*]) rfl
      ·
        refine z_tswOut hO 221 dX9_holds_129 (by omega) h129 (by decide) ?_
        have hh : hld (σ 114 1) (σ 117) (σ 113 6) ↔ True := by unfold hld; rw [if_neg (by omega), if_neg (by omega), if_neg (by omega), if_neg (by omega)]
        refine z_iconst hO dX9_holds_221 ?_
        exact z_retQT hO hR dX9_holds_222 (by rw [hh]; trivial) rfl
    ·
      have hN0 := hN.2.2 i (by omega) (by omega)
      have hN1 := hN.2.2 (i + 1) (by omega) (by omega)
      have hN2 := hN.2.2 0 (by omega) (by omega)
      have hN3 := hN.2.2 1 (by omega) (by omega)
      refine z_iload_n hO 2 dX9_holds_33 rfl ?_
      refine z_aload_n hO 0 dX9_holds_34 rfl ?_
      refine z_getR hO (117) fl_X9_19 rfl rfl dX9_holds_35 ?_
      refine z_iload hO 5 dX9_holds_38 rfl ?_
      refine z_iald hO rfl (by omega) (by decide) dX9_holds_40 (fun r40 => ?_)
      refine z_iadd hO dX9_holds_41 ?_
      refine z_istore_n hO (L' := [(2, _), (0, _), (1, _), (3, _), (4, _), (5, _)]) dX9_holds_42 (by decide) rfl ?_
      refine z_iload_n hO 3 dX9_holds_43 rfl ?_
      refine z_if_eq hO 70 dX9_holds_44 (by decide) (by have := b2i_r rb; omega) (fun c44 => ?_) (fun c44 => ?_)
      ·
        refine z_iconst hO dX9_holds_70 ?_
        refine z_istore_n hO (L' := [(3, _), (2, _), (0, _), (1, _), (4, _), (5, _)]) dX9_holds_71 (by decide) rfl ?_
        refine z_iload hO 4 dX9_holds_72 rfl ?_
        refine z_if_eq hO 114 dX9_holds_74 (by decide) (by have := b2i_r sb; omega) (fun c74 => ?_) (fun c74 => ?_)
        ·
          refine z_iconst hO dX9_holds_114 ?_
          refine z_istore hO (L' := [(4, _), (3, _), (2, _), (0, _), (1, _), (5, _)]) dX9_holds_115 (by decide) rfl ?_
          refine z_iinc hO (L' := [(5, _), (4, _), (3, _), (2, _), (0, _), (1, _)]) 5 dX9_holds_117 rfl (by decide) rfl ?_
          refine z_goto hO 22 dX9_holds_120 (by decide) ?_
          refine z_pick [4, 5, 3, 2, 1, 0] rfl (ih (i + 1) false false _ (by omega) (by omega) ?_ ?_ rfl)
          · show _ ↔ rsn (σ 117) (((i + 1 : Nat) : Int) + 1); rw [show ((i + 1 : Nat) : Int) + 1 = (i : Int) + 2 by omega, rsn_s (by omega), ← hrb]; simp only [b2i_0, b2i_1] at c44; simp [c44]; try omega
          · show _ ↔ sty (σ 117) (((i + 1 : Nat) : Int) + 1); rw [show ((i + 1 : Nat) : Int) + 1 = (i : Int) + 2 by omega, sty_s (by omega), ← hsb]; simp only [b2i_0, b2i_1] at c74; simp [c74]; try omega
        ·
          refine z_aload_n hO 2 dX9_holds_77 rfl ?_
          refine z_getR hO (117) fl_X9_19 rfl rfl dX9_holds_78 ?_
          refine z_iload hO 5 dX9_holds_81 rfl ?_
          refine z_iconst hO dX9_holds_83 ?_
          refine z_iadd hO dX9_holds_84 ?_
          refine z_iald hO rfl (by omega) (by decide) dX9_holds_85 (fun r85 => ?_)
          refine z_aload_n hO 2 dX9_holds_86 rfl ?_
          refine z_getR hO (117) fl_X9_19 rfl rfl dX9_holds_87 ?_
          refine z_iload hO 5 dX9_holds_90 rfl ?_
          refine z_iald hO rfl (by omega) (by decide) dX9_holds_92 (fun r92 => ?_)
          refine z_isub hO dX9_holds_93 ?_
          refine z_aload_n hO 2 dX9_holds_94 rfl ?_
          refine z_getR hO (117) fl_X9_19 rfl rfl dX9_holds_95 ?_
          refine z_iconst hO dX9_holds_98 ?_
          refine z_iald hO rfl (by omega) (by decide) dX9_holds_99 (fun r99 => ?_)
          refine z_aload_n hO 2 dX9_holds_100 rfl ?_
          refine z_getR hO (117) fl_X9_19 rfl rfl dX9_holds_101 ?_
          refine z_iconst hO dX9_holds_104 ?_
          refine z_iald hO rfl (by omega) (by decide) dX9_holds_105 (fun r105 => ?_)
          refine z_isub hO dX9_holds_106 ?_
          refine z_icmp_ne hO 114 dX9_holds_107 (by decide) (by omega) (by omega) (fun c107 => ?_) (fun c107 => ?_)
          ·
            refine z_iconst hO dX9_holds_114 ?_
            refine z_istore hO (L' := [(4, _), (3, _), (2, _), (0, _), (1, _), (5, _)]) dX9_holds_115 (by decide) rfl ?_
            refine z_iinc hO (L' := [(5, _), (4, _), (3, _), (2, _), (0, _), (1, _)]) 5 dX9_holds_117 rfl (by decide) rfl ?_
            refine z_goto hO 22 dX9_holds_120 (by decide) ?_
            refine z_pick [4, 5, 3, 2, 1, 0] rfl (ih (i + 1) false false _ (by omega) (by omega) ?_ ?_ rfl)
            · show _ ↔ rsn (σ 117) (((i + 1 : Nat) : Int) + 1); rw [show ((i + 1 : Nat) : Int) + 1 = (i : Int) + 2 by omega, rsn_s (by omega), ← hrb]; simp only [b2i_0, b2i_1] at c44; simp [c44]; try omega
            · show _ ↔ sty (σ 117) (((i + 1 : Nat) : Int) + 1); rw [show ((i + 1 : Nat) : Int) + 1 = (i : Int) + 2 by omega, sty_s (by omega), ← hsb]; simp only [b2i_0, b2i_1] at c74; simp [c74]; try omega
          ·
            refine z_iconst hO dX9_holds_110 ?_
            refine z_goto hO 115 dX9_holds_111 (by decide) ?_
            refine z_istore hO (L' := [(4, _), (3, _), (2, _), (0, _), (1, _), (5, _)]) dX9_holds_115 (by decide) rfl ?_
            refine z_iinc hO (L' := [(5, _), (4, _), (3, _), (2, _), (0, _), (1, _)]) 5 dX9_holds_117 rfl (by decide) rfl ?_
            refine z_goto hO 22 dX9_holds_120 (by decide) ?_
            refine z_pick [4, 5, 3, 2, 1, 0] rfl (ih (i + 1) false true _ (by omega) (by omega) ?_ ?_ rfl)
            · show _ ↔ rsn (σ 117) (((i + 1 : Nat) : Int) + 1); rw [show ((i + 1 : Nat) : Int) + 1 = (i : Int) + 2 by omega, rsn_s (by omega), ← hrb]; simp only [b2i_0, b2i_1] at c44; simp [c44]; try omega
            · show _ ↔ sty (σ 117) (((i + 1 : Nat) : Int) + 1); rw [show ((i + 1 : Nat) : Int) + 1 = (i : Int) + 2 by omega, sty_s (by omega), ← hsb]; simp only [b2i_0, b2i_1] at c74; simp [c74]; try omega
      ·
        refine z_aload_n hO 1 dX9_holds_47 rfl ?_
        refine z_getR hO (117) fl_X9_19 rfl rfl dX9_holds_48 ?_
        refine z_iload hO 5 dX9_holds_51 rfl ?_
        refine z_iconst hO dX9_holds_53 ?_
        refine z_iadd hO dX9_holds_54 ?_
        refine z_iald hO rfl (by omega) (by decide) dX9_holds_55 (fun r55 => ?_)
        refine z_aload_n hO 1 dX9_holds_56 rfl ?_
        refine z_getR hO (117) fl_X9_19 rfl rfl dX9_holds_57 ?_
        refine z_iload hO 5 dX9_holds_60 rfl ?_
        refine z_iald hO rfl (by omega) (by decide) dX9_holds_62 (fun r62 => ?_)
        refine z_icmp_le hO 70 dX9_holds_63 (by decide) (by omega) (by omega) (fun c63 => ?_) (fun c63 => ?_)
        ·
          refine z_iconst hO dX9_holds_70 ?_
          refine z_istore_n hO (L' := [(3, _), (2, _), (0, _), (1, _), (4, _), (5, _)]) dX9_holds_71 (by decide) rfl ?_
          refine z_iload hO 4 dX9_holds_72 rfl ?_
          refine z_if_eq hO 114 dX9_holds_74 (by decide) (by have := b2i_r sb; omega) (fun c74 => ?_) (fun c74 => ?_)
          ·
            refine z_iconst hO dX9_holds_114 ?_
            refine z_istore hO (L' := [(4, _), (3, _), (2, _), (0, _), (1, _), (5, _)]) dX9_holds_115 (by decide) rfl ?_
            refine z_iinc hO (L' := [(5, _), (4, _), (3, _), (2, _), (0, _), (1, _)]) 5 dX9_holds_117 rfl (by decide) rfl ?_
            refine z_goto hO 22 dX9_holds_120 (by decide) ?_
            refine z_pick [4, 5, 3, 2, 1, 0] rfl (ih (i + 1) false false _ (by omega) (by omega) ?_ ?_ rfl)
            · show _ ↔ rsn (σ 117) (((i + 1 : Nat) : Int) + 1); rw [show ((i + 1 : Nat) : Int) + 1 = (i : Int) + 2 by omega, rsn_s (by omega), ← hrb]; simp only [b2i_0, b2i_1] at c44; simp [c44]; try omega
            · show _ ↔ sty (σ 117) (((i + 1 : Nat) : Int) + 1); rw [show ((i + 1 : Nat) : Int) + 1 = (i : Int) + 2 by omega, sty_s (by omega), ← hsb]; simp only [b2i_0, b2i_1] at c74; simp [c74]; try omega
          ·
            refine z_aload_n hO 2 dX9_holds_77 rfl ?_
            refine z_getR hO (117) fl_X9_19 rfl rfl dX9_holds_78 ?_
            refine z_iload hO 5 dX9_holds_81 rfl ?_
            refine z_iconst hO dX9_holds_83 ?_
            refine z_iadd hO dX9_holds_84 ?_
            refine z_iald hO rfl (by omega) (by decide) dX9_holds_85 (fun r85 => ?_)
            refine z_aload_n hO 2 dX9_holds_86 rfl ?_
            refine z_getR hO (117) fl_X9_19 rfl rfl dX9_holds_87 ?_
            refine z_iload hO 5 dX9_holds_90 rfl ?_
            refine z_iald hO rfl (by omega) (by decide) dX9_holds_92 (fun r92 => ?_)
            refine z_isub hO dX9_holds_93 ?_
            refine z_aload_n hO 2 dX9_holds_94 rfl ?_
            refine z_getR hO (117) fl_X9_19 rfl rfl dX9_holds_95 ?_
            refine z_iconst hO dX9_holds_98 ?_
            refine z_iald hO rfl (by omega) (by decide) dX9_holds_99 (fun r99 => ?_)
            refine z_aload_n hO 2 dX9_holds_100 rfl ?_
            refine z_getR hO (117) fl_X9_19 rfl rfl dX9_holds_101 ?_
            refine z_iconst hO dX9_holds_104 ?_
            refine z_iald hO rfl (by omega) (by decide) dX9_holds_105 (fun r105 => ?_)
            refine z_isub hO dX9_holds_106 ?_
            refine z_icmp_ne hO 114 dX9_holds_107 (by decide) (by omega) (by omega) (fun c107 => ?_) (fun c107 => ?_)
            ·
              refine z_iconst hO dX9_holds_114 ?_
              refine z_istore hO (L' := [(4, _), (3, _), (2, _), (0, _), (1, _), (5, _)]) dX9_holds_115 (by decide) rfl ?_
              refine z_iinc hO (L' := [(5, _), (4, _), (3, _), (2, _), (0, _), (1, _)]) 5 dX9_holds_117 rfl (by decide) rfl ?_
              refine z_goto hO 22 dX9_holds_120 (by decide) ?_
              refine z_pick [4, 5, 3, 2, 1, 0] rfl (ih (i + 1) false false _ (by omega) (by omega) ?_ ?_ rfl)
              · show _ ↔ rsn (σ 117) (((i + 1 : Nat) : Int) + 1); rw [show ((i + 1 : Nat) : Int) + 1 = (i : Int) + 2 by omega, rsn_s (by omega), ← hrb]; simp only [b2i_0, b2i_1] at c44; simp [c44]; try omega
              · show _ ↔ sty (σ 117) (((i + 1 : Nat) : Int) + 1); rw [show ((i + 1 : Nat) : Int) + 1 = (i : Int) + 2 by omega, sty_s (by omega), ← hsb]; simp only [b2i_0, b2i_1] at c74; simp [c74]; try omega
            ·
              refine z_iconst hO dX9_holds_110 ?_
              refine z_goto hO 115 dX9_holds_111 (by decide) ?_
              refine z_istore hO (L' := [(4, _), (3, _), (2, _), (0, _), (1, _), (5, _)]) dX9_holds_115 (by decide) rfl ?_
              refine z_iinc hO (L' := [(5, _), (4, _), (3, _), (2, _), (0, _), (1, _)]) 5 dX9_holds_117 rfl (by decide) rfl ?_
              refine z_goto hO 22 dX9_holds_120 (by decide) ?_
              refine z_pick [4, 5, 3, 2, 1, 0] rfl (ih (i + 1) false true _ (by omega) (by omega) ?_ ?_ rfl)
              · show _ ↔ rsn (σ 117) (((i + 1 : Nat) : Int) + 1); rw [show ((i + 1 : Nat) : Int) + 1 = (i : Int) + 2 by omega, rsn_s (by omega), ← hrb]; simp only [b2i_0, b2i_1] at c44; simp [c44]; try omega
              · show _ ↔ sty (σ 117) (((i + 1 : Nat) : Int) + 1); rw [show ((i + 1 : Nat) : Int) + 1 = (i : Int) + 2 by omega, sty_s (by omega), ← hsb]; simp only [b2i_0, b2i_1] at c74; simp [c74]; try omega
        ·
          refine z_iconst hO dX9_holds_66 ?_
          refine z_goto hO 71 dX9_holds_67 (by decide) ?_
          refine z_istore_n hO (L' := [(3, _), (2, _), (0, _), (1, _), (4, _), (5, _)]) dX9_holds_71 (by decide) rfl ?_
          refine z_iload hO 4 dX9_holds_72 rfl ?_
          refine z_if_eq hO 114 dX9_holds_74 (by decide) (by have := b2i_r sb; omega) (fun c74 => ?_) (fun c74 => ?_)
          ·
            refine z_iconst hO dX9_holds_114 ?_
            refine z_istore hO (L' := [(4, _), (3, _), (2, _), (0, _), (1, _), (5, _)]) dX9_holds_115 (by decide) rfl ?_
            refine z_iinc hO (L' := [(5, _), (4, _), (3, _), (2, _), (0, _), (1, _)]) 5 dX9_holds_117 rfl (by decide) rfl ?_
            refine z_goto hO 22 dX9_holds_120 (by decide) ?_
            refine z_pick [4, 5, 3, 2, 1, 0] rfl (ih (i + 1) true false _ (by omega) (by omega) ?_ ?_ rfl)
            · show _ ↔ rsn (σ 117) (((i + 1 : Nat) : Int) + 1); rw [show ((i + 1 : Nat) : Int) + 1 = (i : Int) + 2 by omega, rsn_s (by omega), ← hrb]; simp only [b2i_0, b2i_1] at c44; simp [c44]; try omega
            · show _ ↔ sty (σ 117) (((i + 1 : Nat) : Int) + 1); rw [show ((i + 1 : Nat) : Int) + 1 = (i : Int) + 2 by omega, sty_s (by omega), ← hsb]; simp only [b2i_0, b2i_1] at c74; simp [c74]; try omega
          ·
            refine z_aload_n hO 2 dX9_holds_77 rfl ?_
            refine z_getR hO (117) fl_X9_19 rfl rfl dX9_holds_78 ?_
            refine z_iload hO 5 dX9_holds_81 rfl ?_
            refine z_iconst hO dX9_holds_83 ?_
            refine z_iadd hO dX9_holds_84 ?_
            refine z_iald hO rfl (by omega) (by decide) dX9_holds_85 (fun r85 => ?_)
            refine z_aload_n hO 2 dX9_holds_86 rfl ?_
            refine z_getR hO (117) fl_X9_19 rfl rfl dX9_holds_87 ?_
            refine z_iload hO 5 dX9_holds_90 rfl ?_
            refine z_iald hO rfl (by omega) (by decide) dX9_holds_92 (fun r92 => ?_)
            refine z_isub hO dX9_holds_93 ?_
            refine z_aload_n hO 2 dX9_holds_94 rfl ?_
            refine z_getR hO (117) fl_X9_19 rfl rfl dX9_holds_95 ?_
            refine z_iconst hO dX9_holds_98 ?_
            refine z_iald hO rfl (by omega) (by decide) dX9_holds_99 (fun r99 => ?_)
            refine z_aload_n hO 2 dX9_holds_100 rfl ?_
            refine z_getR hO (117) fl_X9_19 rfl rfl dX9_holds_101 ?_
            refine z_iconst hO dX9_holds_104 ?_
            refine z_iald hO rfl (by omega) (by decide) dX9_holds_105 (fun r105 => ?_)
            refine z_isub hO dX9_holds_106 ?_
            refine z_icmp_ne hO 114 dX9_holds_107 (by decide) (by omega) (by omega) (fun c107 => ?_) (fun c107 => ?_)
            ·
              refine z_iconst hO dX9_holds_114 ?_
              refine z_istore hO (L' := [(4, _), (3, _), (2, _), (0, _), (1, _), (5, _)]) dX9_holds_115 (by decide) rfl ?_
              refine z_iinc hO (L' := [(5, _), (4, _), (3, _), (2, _), (0, _), (1, _)]) 5 dX9_holds_117 rfl (by decide) rfl ?_
              refine z_goto hO 22 dX9_holds_120 (by decide) ?_
              refine z_pick [4, 5, 3, 2, 1, 0] rfl (ih (i + 1) true false _ (by omega) (by omega) ?_ ?_ rfl)
              · show _ ↔ rsn (σ 117) (((i + 1 : Nat) : Int) + 1); rw [show ((i + 1 : Nat) : Int) + 1 = (i : Int) + 2 by omega, rsn_s (by omega), ← hrb]; simp only [b2i_0, b2i_1] at c44; simp [c44]; try omega
              · show _ ↔ sty (σ 117) (((i + 1 : Nat) : Int) + 1); rw [show ((i + 1 : Nat) : Int) + 1 = (i : Int) + 2 by omega, sty_s (by omega), ← hsb]; simp only [b2i_0, b2i_1] at c74; simp [c74]; try omega
            ·
              refine z_iconst hO dX9_holds_110 ?_
              refine z_goto hO 115 dX9_holds_111 (by decide) ?_
              refine z_istore hO (L' := [(4, _), (3, _), (2, _), (0, _), (1, _), (5, _)]) dX9_holds_115 (by decide) rfl ?_
              refine z_iinc hO (L' := [(5, _), (4, _), (3, _), (2, _), (0, _), (1, _)]) 5 dX9_holds_117 rfl (by decide) rfl ?_
              refine z_goto hO 22 dX9_holds_120 (by decide) ?_
              refine z_pick [4, 5, 3, 2, 1, 0] rfl (ih (i + 1) true true _ (by omega) (by omega) ?_ ?_ rfl)
              · show _ ↔ rsn (σ 117) (((i + 1 : Nat) : Int) + 1); rw [show ((i + 1 : Nat) : Int) + 1 = (i : Int) + 2 by omega, rsn_s (by omega), ← hrb]; simp only [b2i_0, b2i_1] at c44; simp [c44]; try omega
              · show _ ↔ sty (σ 117) (((i + 1 : Nat) : Int) + 1); rw [show ((i + 1 : Nat) : Int) + 1 = (i : Int) + 2 by omega, sty_s (by omega), ← hsb]; simp only [b2i_0, b2i_1] at c74; simp [c74]; try omega

set_option maxHeartbeats 4000000 in
set_option maxRecDepth 100000 in
theorem t_X9_holds {g : G} {σ : Sg} (hN : NR (σ 117) (σ 113 6)) : MM g mX9_holds [.ref (g.2.2.1 113)] σ (pB (pQ (hld (σ 114 1) (σ 117) (σ 113 6)) σ)) := by
  refine mm_of rfl (by decide) rfl rfl (Nat.le_of_ble_eq_true rfl) (fun x hO hR => ?_)
  have hN1 := hN.1
  have hN2 := hN.2.1
  refine z_aload_n hO 0 dX9_holds_0 rfl ?_
  refine z_getR hO (117) fl_X9_19 rfl rfl dX9_holds_1 ?_
  refine z_aload_n hO 0 dX9_holds_4 rfl ?_
  refine z_getI hO 6 fl_X9_113 rfl rfl rfl dX9_holds_5 (fun r5 => ?_)
  refine z_iconst hO dX9_holds_8 ?_
  refine z_isub hO dX9_holds_9 ?_
  refine z_iald hO rfl (by omega) (by decide) dX9_holds_10 (fun r10 => ?_)
  refine z_istore_n hO (L' := [(1, _), (0, _)]) dX9_holds_11 (by decide) rfl ?_
  refine z_iconst hO dX9_holds_12 ?_
  refine z_istore_n hO (L' := [(2, _), (1, _), (0, _)]) dX9_holds_13 (by decide) rfl ?_
  refine z_iconst hO dX9_holds_14 ?_
  refine z_istore_n hO (L' := [(3, _), (2, _), (1, _), (0, _)]) dX9_holds_15 (by decide) rfl ?_
  refine z_iconst hO dX9_holds_16 ?_
  refine z_istore hO (L' := [(4, _), (3, _), (2, _), (1, _), (0, _)]) dX9_holds_17 (by decide) rfl ?_
  refine z_iconst hO dX9_holds_19 ?_
  refine z_istore hO (L' := [(5, _), (4, _), (3, _), (2, _), (1, _), (0, _)]) dX9_holds_20 (by decide) rfl ?_
  exact z_pick [5, 4, 3, 2, 1, 0] rfl (lp_holds hO hR hN 9 0 true true 0 (by have := hN.1; omega) (by have := hN.2.1; omega) (iff_of_true rfl (rsn_1 _ (by decide))) (iff_of_true rfl (sty_1 _ (by decide))) rfl)
