set_option maxHeartbeats 4000000 in
set_option maxRecDepth 100000 in
theorem lp_isAsBest {g : G} {x : Cx} {σ : Sg} (hO : Ok g x RX9 cX9_isAsBest 3 1) (hR : Rt g x (some .boolean) (pB (pQ (σ 113 6 = σ 113 13 ∧ ∀ j, 0 ≤ j → j < σ 113 13 → σ 117 j = σ 118 j) σ))) (h13 : 0 ≤ σ 113 13 ∧ σ 113 13 ≤ 8) : ∀ (f i : Nat) (b : Bool), (i : Int) ≤ σ 113 13 → σ 113 13 - i < f → (b = true ↔ (σ 113 6 = σ 113 13 ∧ ∀ j, 0 ≤ j → j < (i : Int) → σ 117 j = σ 118 j)) → Z g x 3 19 [(0, .ref (g.2.2.1 113)), (1, vI (b2i b)), (2, vI i)] [] σ := by
  intro f
  induction f with
  | zero => intro i b h0 hk; exact absurd hk (by omega)
  | succ f ih =>
    intro i b hi hf hb
    refine z_iload_n hO 2 dX9_isAsBest_19 rfl ?_
    refine z_aload_n hO 0 dX9_isAsBest_20 rfl ?_
    refine z_getI hO 13 fl_X9_151 rfl rfl rfl dX9_isAsBest_21 (fun r21 => ?_)
    refine z_icmp_ge hO 58 dX9_isAsBest_24 (by decide) (by omega) (by omega) (fun c24 => ?_) (fun c24 => ?_)
    ·
      have hi3 : (i : Int) = σ 113 13 := by omega
      rw [hi3] at hb
      refine z_iload_n hO 1 dX9_isAsBest_58 rfl ?_
      exact z_retQB hO hR dX9_isAsBest_59 (by first | exact hb | exact ⟨fun q => absurd q (by rw [b2i_0.mp c28]; decide), fun q => hb.mpr ⟨q.1, fun j h0 h1 => q.2 j h0 (by omega)⟩⟩) rfl
    ·
      refine z_iload_n hO 1 dX9_isAsBest_27 rfl ?_
      refine z_if_eq hO 58 dX9_isAsBest_28 (by decide) (by have := b2i_r b; omega) (fun c28 => ?_) (fun c28 => ?_)
      ·
        refine z_iload_n hO 1 dX9_isAsBest_58 rfl ?_
        exact z_retQB hO hR dX9_isAsBest_59 (by first | exact hb | exact ⟨fun q => absurd q (by rw [b2i_0.mp c28]; decide), fun q => hb.mpr ⟨q.1, fun j h0 h1 => q.2 j h0 (by omega)⟩⟩) rfl
      ·
        refine z_aload_n hO 0 dX9_isAsBest_31 rfl ?_
        refine z_getR hO (117) fl_X9_19 rfl rfl dX9_isAsBest_32 ?_
        refine z_iload_n hO 2 dX9_isAsBest_35 rfl ?_
        refine z_iald hO rfl (by omega) (by decide) dX9_isAsBest_36 (fun r36 => ?_)
        refine z_aload_n hO 0 dX9_isAsBest_37 rfl ?_
        refine z_getR hO (118) fl_X9_22 rfl rfl dX9_isAsBest_38 ?_
        refine z_iload_n hO 2 dX9_isAsBest_41 rfl ?_
        refine z_iald hO rfl (by omega) (by decide) dX9_isAsBest_42 (fun r42 => ?_)
        refine z_icmp_ne hO 50 dX9_isAsBest_43 (by decide) (by omega) (by omega) (fun c43 => ?_) (fun c43 => ?_)
        ·
          refine z_iconst hO dX9_isAsBest_50 ?_
          refine z_istore_n hO (L' := [(1, _), (0, _), (2, _)]) dX9_isAsBest_51 (by decide) rfl ?_
          refine z_iinc hO (L' := [(2, _), (1, _), (0, _)]) 2 dX9_isAsBest_52 rfl (by decide) rfl ?_
          refine z_goto hO 19 dX9_isAsBest_55 (by decide) ?_
          exact z_pick [2, 1, 0] rfl (ih (i + 1) false (by omega) (by omega) (iff_of_false (by decide) (fun q => absurd (q.2 i (by omega) (by omega)) (by omega))))
        ·
          refine z_iconst hO dX9_isAsBest_46 ?_
          refine z_goto hO 51 dX9_isAsBest_47 (by decide) ?_
          refine z_istore_n hO (L' := [(1, _), (0, _), (2, _)]) dX9_isAsBest_51 (by decide) rfl ?_
          refine z_iinc hO (L' := [(2, _), (1, _), (0, _)]) 2 dX9_isAsBest_52 rfl (by decide) rfl ?_
          refine z_goto hO 19 dX9_isAsBest_55 (by decide) ?_
          exact z_pick [2, 1, 0] rfl (ih (i + 1) true (by omega) (by omega) (iff_of_true rfl ⟨(hb.mp (b2i_1.mp c28)).1, fun j h0 h1 => by by_cases e : j = i; (subst e; omega); exact (hb.mp (b2i_1.mp c28)).2 j h0 (by omega)⟩))

set_option maxHeartbeats 4000000 in
set_option maxRecDepth 100000 in
theorem t_X9_isAsBest {g : G} {σ : Sg} (h13 : 0 ≤ σ 113 13 ∧ σ 113 13 ≤ 8) : MM g mX9_isAsBest [.ref (g.2.2.1 113)] σ (pB (pQ (σ 113 6 = σ 113 13 ∧ ∀ j, 0 ≤ j → j < σ 113 13 → σ 117 j = σ 118 j) σ)) := by
  refine mm_of rfl (by decide) rfl rfl (Nat.le_of_ble_eq_true rfl) (fun x hO hR => ?_)
  refine z_aload_n hO 0 dX9_isAsBest_0 rfl ?_
  refine z_getI hO 6 fl_X9_113 rfl rfl rfl dX9_isAsBest_1 (fun r1 => ?_)
  refine z_aload_n hO 0 dX9_isAsBest_4 rfl ?_
  refine z_getI hO 13 fl_X9_151 rfl rfl rfl dX9_isAsBest_5 (fun r5 => ?_)
  refine z_icmp_ne hO 15 dX9_isAsBest_8 (by decide) (by omega) (by omega) (fun c8 => ?_) (fun c8 => ?_)
  ·
    refine z_iconst hO dX9_isAsBest_15 ?_
    refine z_istore_n hO (L' := [(1, _), (0, _)]) dX9_isAsBest_16 (by decide) rfl ?_
    refine z_iconst hO dX9_isAsBest_17 ?_
    refine z_istore_n hO (L' := [(2, _), (1, _), (0, _)]) dX9_isAsBest_18 (by decide) rfl ?_
    exact z_pick [2, 1, 0] rfl (lp_isAsBest hO hR h13 9 0 false (by omega) (by omega) (by first | exact iff_of_true rfl ⟨c8, fun j h0 h1 => absurd h1 (by omega)⟩ | exact iff_of_false (by decide) (fun q => c8 q.1)))
  ·
    refine z_iconst hO dX9_isAsBest_11 ?_
    refine z_goto hO 16 dX9_isAsBest_12 (by decide) ?_
    refine z_istore_n hO (L' := [(1, _), (0, _)]) dX9_isAsBest_16 (by decide) rfl ?_
    refine z_iconst hO dX9_isAsBest_17 ?_
    refine z_istore_n hO (L' := [(2, _), (1, _), (0, _)]) dX9_isAsBest_18 (by decide) rfl ?_
    exact z_pick [2, 1, 0] rfl (lp_isAsBest hO hR h13 9 0 true (by omega) (by omega) (by first | exact iff_of_true rfl ⟨c8, fun j h0 h1 => absurd h1 (by omega)⟩ | exact iff_of_false (by decide) (fun q => c8 q.1)))

theorem rows_eq {r r' : Int → Int} {a b : List Int} (ha : rowIs r a) (hb : rowIs r' b) : ((a.length : Int) = b.length ∧ ∀ j : Int, 0 ≤ j → j < b.length → r j = r' j) ↔ a = b := by
  constructor
  · rintro ⟨h1, h2⟩
    apply List.ext_getElem (by omega)
    intro j g1 g2
    rw [← ha j g1, ← hb j g2]; exact h2 j (by omega) (by omega)
  · rintro rfl
    refine ⟨rfl, fun j h0 h1 => ?_⟩
    have e1 := ha j.toNat (by omega); have e2 := hb j.toNat (by omega)
    rw [show ((j.toNat : Nat) : Int) = j by omega] at e1 e2
    rw [e1, e2]
noncomputable def nxt (V : Hv) (K : Int) : Nat → Int
  | 0 => 9999
  | m + 1 => @ite _ (snd V K m = true ∧ cst V m < nxt V K m ∧ nm V m ≠ nm V (bR V K)) (Classical.propDecidable _) (cst V m) (nxt V K m)
theorem nxt_s (V : Hv) (K : Int) (m : Nat) : nxt V K (m + 1) = @ite _ (snd V K m = true ∧ cst V m < nxt V K m ∧ nm V m ≠ nm V (bR V K)) (Classical.propDecidable _) (cst V m) (nxt V K m) := rfl
theorem nxt_t {V : Hv} {K : Int} {m : Nat} (h : snd V K m = true ∧ cst V m < nxt V K m ∧ nm V m ≠ nm V (bR V K)) : nxt V K (m + 1) = cst V m := by rw [nxt_s, if_pos h]
theorem nxt_f {V : Hv} {K : Int} {m : Nat} (h : ¬ (snd V K m = true ∧ cst V m < nxt V K m ∧ nm V m ≠ nm V (bR V K))) : nxt V K (m + 1) = nxt V K m := by rw [nxt_s, if_neg h]
theorem nxt_r {V : Hv} (hV : WV V) (K : Int) (m : Nat) : 0 ≤ nxt V K m ∧ nxt V K m ≤ 9999 := by
  induction m with
  | zero => show (0 : Int) ≤ 9999 ∧ (9999 : Int) ≤ 9999; decide
  | succ m ih => have := cst_r hV m; rw [nxt_s]; split <;> omega
/-- how many of those counted below m have word w in slot i -/
noncomputable def hvn (V : Hv) (K S : Int) : Nat → Int → Int → Int
  | 0, _, _ => 0
  | m + 1, i, w => hvn V K S m i w + (if ctd V K S m = true ∧ V.2.2.1 i (pk V m i) = w then 1 else 0)
theorem hvn_s (V : Hv) (K S : Int) (m : Nat) (i w : Int) : hvn V K S (m + 1) i w = hvn V K S m i w + (if ctd V K S m = true ∧ V.2.2.1 i (pk V m i) = w then 1 else 0) := rfl
theorem hvn_f {V : Hv} {K S : Int} {m : Nat} (h : ctd V K S m = false) (i w : Int) : hvn V K S (m + 1) i w = hvn V K S m i w := by
  rw [hvn_s, if_neg (fun q => by rw [h] at q; exact absurd q.1 (by decide))]; omega
theorem hvn_t {V : Hv} {K S : Int} {m : Nat} (h : ctd V K S m = true) (i w : Int) : hvn V K S (m + 1) i w = hvn V K S m i w + (if V.2.2.1 i (pk V m i) = w then 1 else 0) := by
  rw [hvn_s]
  by_cases e : V.2.2.1 i (pk V m i) = w
  · rw [if_pos ⟨h, e⟩, if_pos e]
  · rw [if_neg (fun q => e q.2), if_neg e]
theorem hvn_r (V : Hv) (K S : Int) (m : Nat) (i w : Int) : 0 ≤ hvn V K S m i w ∧ hvn V K S m i w ≤ m := by
  induction m with
  | zero => exact ⟨Int.le_refl 0, Int.le_refl 0⟩
  | succ m ih => rw [hvn_s]; split <;> omega
def f119 : Nat → Int → Bool := fun c _ => c == 119
def fCt : Nat → Int → Bool := fun c k => c == 115 || c == 116 || c == 117 || c == 118 || c == 119 || c == 120 || (c == 113 && (k == 3 || k == 4 || k == 6 || k == 7 || k == 8 || k == 9 || k == 10 || k == 11 || k == 13 || k == 14 || k == 15))
theorem f119_Ct : ∀ c k, fCt c k = false → f119 c k = false := by
  intro c k h; simp only [fCt, f119, Bool.or_eq_false_iff] at h ⊢; exact h.1.1.2
theorem fFd_Ct : ∀ c k, fCt c k = false → fFd c k = false := by
  intro c k h; simp only [fCt, fFd, Bool.or_eq_false_iff, Bool.and_eq_false_iff] at h ⊢
  refine ⟨h.1.1.1, ?_⟩
  rcases h.2 with q | q
  · exact Or.inl q
  · exact Or.inr q.1.1
theorem fTk_Ct : ∀ c k, fCt c k = false → fTk c k = false := fun c k h => fTk_Fd c k (fFd_Ct c k h)

set_option maxHeartbeats 4000000 in
set_option maxRecDepth 100000 in
theorem lp_counts3 {g : G} {x : Cx} {σ : Sg} {all rr : Int} (hO : Ok g x RX9 cX9_counts 5 11) (hV : WV (mv (σ 114))) (hp : WP (mv (σ 114)) (σ 115)) (hb : ∀ a w', 0 ≤ a → a < σ 114 0 → 0 ≤ w' → w' < 32 →  0 ≤ σ 119 (32 * a + w') ∧ σ 119 (32 * a + w') ≤ 70000) (hE : ∀ τ, Fm f119 σ τ → (∀ a w', 0 ≤ a → a < σ 114 0 → 0 ≤ w' → w' < 32 →  τ 119 (32 * a + w') = σ 119 (32 * a + w') + (if (mv (σ 114)).2.2.1 a (σ 115 a) = w' then 1 else 0)) → Z g x 5 228 [(0, .ref (g.2.2.1 113)), (1, vI all), (2, vI rr)] [] τ) : ∀ (f i : Nat) (τ : Sg), (i : Int) ≤ σ 114 0 → σ 114 0 - i < f → Fm f119 σ τ → (∀ a w', 0 ≤ a → a < σ 114 0 → 0 ≤ w' → w' < 32 →  τ 119 (32 * a + w') = σ 119 (32 * a + w') + (if a < (i : Int) ∧ (mv (σ 114)).2.2.1 a (σ 115 a) = w' then 1 else 0)) → Z g x 5 175 [(0, .ref (g.2.2.1 113)), (1, vI all), (2, vI rr), (4, vI i)] [] τ := by
  have hn0 := hV.1
  have hn8 := hV.2.1
  rw [mv_n] at hn0 hn8
  intro f
  induction f with
  | zero => intro i τ h0 hk; exact absurd hk (by omega)
  | succ f ih =>
    intro i τ hi hf hFm hh
    have e114 : τ 114 = σ 114 := hFm.row 114 (fun _ => rfl)
    have e115 : τ 115 = σ 115 := hFm.row 115 (fun _ => rfl)
    refine z_iload hO 3 dX9_counts_175 rfl ?_
    refine z_aload_n hO 0 dX9_counts_177 rfl ?_
    refine z_getR hO (114) fl_X9_7 rfl rfl dX9_counts_178 ?_
    refine z_iconst hO dX9_counts_181 ?_
    refine z_iald hO rfl (by omega) (by decide) dX9_counts_182 (fun r182 => ?_)
    try simp only [fl_row_ne, fl_ne, up_row_ne, up_ne, up_eq, up_nk, up_up, up_self, ne_eq, Nat.reduceEqDiff, Int.reduceEq, reduceCtorEq, not_false_eq_true, not_true_eq_false, e114, e115] at r182 ⊢
    refine z_icmp_ge hO 228 dX9_counts_183 (by decide) (by omega) (by omega) (fun c183 => ?_) (fun c183 => ?_)
    ·
      have hi3 : (i : Int) = σ 114 0 := by omega
      refine z_pick [0, 1, 2] rfl (hE τ hFm (fun a w' h0 h1 h2 h3 => ?_))
      rw [hh a w' h0 h1 h2 h3]
      by_cases e : (mv (σ 114)).2.2.1 a (σ 115 a) = w'
      · rw [if_pos ⟨by omega, e⟩, if_pos e]
      · rw [if_neg (fun q => e q.2), if_neg e]
    ·
      have hW := hV.2.2 i (by omega) (show (i : Int) < σ 114 0 by omega)
      have hQ := hp i (by omega) (show (i : Int) < σ 114 0 by omega)
      have hX := hW.2.2 (σ 115 i) hQ.1 hQ.2
      rw [mv_c] at hW hQ
      rw [mv_w, mv_q] at hX
      have hv0 := hh i (σ 114 (4 + 9 * i + 1 + σ 115 i)) (by omega) (by omega) (by omega) (by omega)
      rw [if_neg (fun q => by omega)] at hv0
      have hbb := hb i (σ 114 (4 + 9 * i + 1 + σ 115 i)) (by omega) (by omega) (by omega) (by omega)
      refine z_aload_n hO 0 dX9_counts_186 rfl ?_
      refine z_getR hO (119) fl_X9_25 rfl rfl dX9_counts_187 ?_
      refine z_bipush hO dX9_counts_190 (by decide) ?_
      refine z_iload hO 3 dX9_counts_192 rfl ?_
      refine z_imul hO dX9_counts_194 ?_
      refine z_aload_n hO 0 dX9_counts_195 rfl ?_
      refine z_getR hO (114) fl_X9_7 rfl rfl dX9_counts_196 ?_
      refine z_aload_n hO 0 dX9_counts_199 rfl ?_
      refine z_iload hO 3 dX9_counts_200 rfl ?_
      refine z_cvE hO (t_X9_at) cv_X9_79 rfl rfl rfl rfl (by decide) (Nat.le_of_ble_eq_true rfl) dX9_counts_202 ?_
      try simp only [fl_row_ne, fl_ne, up_row_ne, up_ne, up_eq, up_nk, up_up, up_self, ne_eq, Nat.reduceEqDiff, Int.reduceEq, reduceCtorEq, not_false_eq_true, not_true_eq_false, e114, e115]
      refine z_iconst hO dX9_counts_205 ?_
      refine z_iadd hO dX9_counts_206 ?_
      refine z_aload_n hO 0 dX9_counts_207 rfl ?_
      refine z_getR hO (115) fl_X9_13 rfl rfl dX9_counts_208 ?_
      refine z_iload hO 3 dX9_counts_211 rfl ?_
      refine z_iald hO rfl (by omega) (by decide) dX9_counts_213 (fun r213 => ?_)
      try simp only [fl_row_ne, fl_ne, up_row_ne, up_ne, up_eq, up_nk, up_up, up_self, ne_eq, Nat.reduceEqDiff, Int.reduceEq, reduceCtorEq, not_false_eq_true, not_true_eq_false, e114, e115] at r213 ⊢
      refine z_iadd hO dX9_counts_214 ?_
      refine z_iald hO rfl (by omega) (by decide) dX9_counts_215 (fun r215 => ?_)
      try simp only [fl_row_ne, fl_ne, up_row_ne, up_ne, up_eq, up_nk, up_up, up_self, ne_eq, Nat.reduceEqDiff, Int.reduceEq, reduceCtorEq, not_false_eq_true, not_true_eq_false, e114, e115] at r215 ⊢
      refine z_iadd hO dX9_counts_216 ?_
      refine z_dup2 hO dX9_counts_217 rfl rfl ?_
      refine z_iald hO rfl (by omega) (by decide) dX9_counts_218 (fun r218 => ?_)
      try simp only [fl_row_ne, fl_ne, up_row_ne, up_ne, up_eq, up_nk, up_up, up_self, ne_eq, Nat.reduceEqDiff, Int.reduceEq, reduceCtorEq, not_false_eq_true, not_true_eq_false, e114, e115] at r218 ⊢
      rw [hv0] at r218 ⊢
      refine z_iconst hO dX9_counts_219 ?_
      refine z_iadd hO dX9_counts_220 ?_
      refine z_iast hO rfl (by omega) (by decide) (by omega) dX9_counts_221 ?_
      refine z_iinc hO (L' := [(4, _), (0, _), (1, _), (2, _)]) 3 dX9_counts_222 rfl (by decide) rfl ?_
      refine z_goto hO 175 dX9_counts_225 (by decide) ?_
      refine z_pick [1, 2, 3, 0] rfl (ih (i + 1) _ (by omega) (by omega) (hFm.up rfl) (fun a w' h0 h1 h2 h3 => ?_))
      by_cases e : 32 * a + w' = 32 * i + σ 114 (4 + 9 * i + 1 + σ 115 i)
      · have ea : a = i := by omega
        subst ea
        have ew : w' = σ 114 (4 + 9 * i + 1 + σ 115 i) := by omega
        subst ew
        rw [up_eq, mv_w, if_pos ⟨by omega, rfl⟩]; omega
      · rw [up_nk e, hh a w' h0 h1 h2 h3]
        by_cases ea : a = i
        · subst ea
          rw [mv_w, if_neg (fun q => by omega), if_neg (fun q => by have := q.2; omega)]
        · by_cases ew : (a < (i : Int) ∧ (mv (σ 114)).2.2.1 a (σ 115 a) = w')
          · rw [if_pos ew, if_pos ⟨by omega, ew.2⟩]
          · rw [if_neg ew, if_neg (fun q => ew ⟨by omega, q.2⟩)]
