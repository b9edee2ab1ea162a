def fTS : Nat → Int → Bool := fun c k => c == 115 || c == 116 || c == 117 || c == 119 || c == 123 || (c == 113 && (k == 3 || k == 4 || k == 6 || k == 7 || k == 21))
theorem fTk_TS : ∀ c k, fTS c k = false → fTk c k = false := by
  intro c k h; simp only [fTk, fTS, Bool.or_eq_false_iff, Bool.and_eq_false_iff] at h ⊢; refine ⟨h.1.1.1, ?_⟩; rcases h.2 with q | q
  · exact Or.inl q
  · exact Or.inr q.1
theorem f119_TS : ∀ c k, fTS c k = false → f119 c k = false := by
  intro c k h; simp only [f119, fTS, Bool.or_eq_false_iff] at h ⊢; exact h.1.1.2

set_option maxHeartbeats 4000000 in
set_option maxRecDepth 100000 in
theorem lp_ts1 {g : G} {x : Cx} {σ : Sg} {s : Nat} {b n many t : Int} (hO : Ok g x RX9 cX9_tellsSame 8 10) (hV : WV (mv (σ 114))) (hp : WP (mv (σ 114)) (σ 115)) (hb : ∀ a w', 0 ≤ a → a < σ 114 0 → 0 ≤ w' → w' < 32 →  0 ≤ σ 119 (32 * a + w') ∧ σ 119 (32 * a + w') ≤ 70000) (hE : ∀ τ, Fm f119 σ τ → (∀ a w', 0 ≤ a → a < σ 114 0 → 0 ≤ w' → w' < 32 →  τ 119 (32 * a + w') = σ 119 (32 * a + w') + (if (mv (σ 114)).2.2.1 a (σ 115 a) = w' then 1 else 0)) → Z g x 8 241 [(0, .ref (g.2.2.1 113)), (1, vL (s : Int)), (3, vI b), (4, vI n), (5, vI many), (6, vI t)] [] τ) : ∀ (f i : Nat) (τ : Sg), (i : Int) ≤ σ 114 0 → σ 114 0 - i < f → Fm f119 σ τ → (∀ a w', 0 ≤ a → a < σ 114 0 → 0 ≤ w' → w' < 32 →  τ 119 (32 * a + w') = σ 119 (32 * a + w') + (if a < (i : Int) ∧ (mv (σ 114)).2.2.1 a (σ 115 a) = w' then 1 else 0)) → Z g x 8 188 [(0, .ref (g.2.2.1 113)), (1, vL (s : Int)), (3, vI b), (4, vI n), (5, vI many), (6, vI t), (7, vI i)] [] τ := by
  have hn0 := hV.1
  have hn8 := hV.2.1
  rw [mv_n] at hn0 hn8
  intro f
  induction f with
  | zero => intro i τ h0 hk; exact absurd hk (by omega)
  | succ f ih =>
    intro i τ hi hf hFm hh
    have e114 : τ 114 = σ 114 := hFm.row 114 (fun _ => rfl)
    have e115 : τ 115 = σ 115 := hFm.row 115 (fun _ => rfl)
    refine z_iload hO 6 dX9_tellsSame_188 rfl ?_
    refine z_aload_n hO 0 dX9_tellsSame_190 rfl ?_
    refine z_getR hO (114) fl_X9_7 rfl rfl dX9_tellsSame_191 ?_
    refine z_iconst hO dX9_tellsSame_194 ?_
    refine z_iald hO rfl (by omega) (by decide) dX9_tellsSame_195 (fun r195 => ?_)
    try simp only [fl_row_ne, fl_ne, up_row_ne, up_ne, up_eq, up_nk, up_up, up_self, ne_eq, Nat.reduceEqDiff, Int.reduceEq, reduceCtorEq, not_false_eq_true, not_true_eq_false, e114, e115] at r195 ⊢
    refine z_icmp_ge hO 241 dX9_tellsSame_196 (by decide) (by omega) (by omega) (fun c196 => ?_) (fun c196 => ?_)
    ·
      have hi3 : (i : Int) = σ 114 0 := by omega
      refine z_pick [0, 1, 2, 3, 4, 5] rfl (hE τ hFm (fun a w' h0 h1 h2 h3 => ?_))
      rw [hh a w' h0 h1 h2 h3]
      by_cases e : (mv (σ 114)).2.2.1 a (σ 115 a) = w'
      · rw [if_pos ⟨by omega, e⟩, if_pos e]
      · rw [if_neg (fun q => e q.2), if_neg e]
    ·
      have hW := hV.2.2 i (by omega) (show (i : Int) < σ 114 0 by omega)
      have hQ := hp i (by omega) (show (i : Int) < σ 114 0 by omega)
      have hX := hW.2.2 (σ 115 i) hQ.1 hQ.2
      rw [mv_c] at hW hQ
      rw [mv_w, mv_q] at hX
      have hv0 := hh i (σ 114 (4 + 9 * i + 1 + σ 115 i)) (by omega) (by omega) (by omega) (by omega)
      rw [if_neg (fun q => by omega)] at hv0
      have hbb := hb i (σ 114 (4 + 9 * i + 1 + σ 115 i)) (by omega) (by omega) (by omega) (by omega)
      refine z_aload_n hO 0 dX9_tellsSame_199 rfl ?_
      refine z_getR hO (119) fl_X9_25 rfl rfl dX9_tellsSame_200 ?_
      refine z_bipush hO dX9_tellsSame_203 (by decide) ?_
      refine z_iload hO 6 dX9_tellsSame_205 rfl ?_
      refine z_imul hO dX9_tellsSame_207 ?_
      refine z_aload_n hO 0 dX9_tellsSame_208 rfl ?_
      refine z_getR hO (114) fl_X9_7 rfl rfl dX9_tellsSame_209 ?_
      refine z_aload_n hO 0 dX9_tellsSame_212 rfl ?_
      refine z_iload hO 6 dX9_tellsSame_213 rfl ?_
      refine z_cvE hO (t_X9_at) cv_X9_79 rfl rfl rfl rfl (by decide) (Nat.le_of_ble_eq_true rfl) dX9_tellsSame_215 ?_
      try simp only [fl_row_ne, fl_ne, up_row_ne, up_ne, up_eq, up_nk, up_up, up_self, ne_eq, Nat.reduceEqDiff, Int.reduceEq, reduceCtorEq, not_false_eq_true, not_true_eq_false, e114, e115]
      refine z_iconst hO dX9_tellsSame_218 ?_
      refine z_iadd hO dX9_tellsSame_219 ?_
      refine z_aload_n hO 0 dX9_tellsSame_220 rfl ?_
      refine z_getR hO (115) fl_X9_13 rfl rfl dX9_tellsSame_221 ?_
      refine z_iload hO 6 dX9_tellsSame_224 rfl ?_
      refine z_iald hO rfl (by omega) (by decide) dX9_tellsSame_226 (fun r226 => ?_)
      try simp only [fl_row_ne, fl_ne, up_row_ne, up_ne, up_eq, up_nk, up_up, up_self, ne_eq, Nat.reduceEqDiff, Int.reduceEq, reduceCtorEq, not_false_eq_true, not_true_eq_false, e114, e115] at r226 ⊢
      refine z_iadd hO dX9_tellsSame_227 ?_
      refine z_iald hO rfl (by omega) (by decide) dX9_tellsSame_228 (fun r228 => ?_)
      try simp only [fl_row_ne, fl_ne, up_row_ne, up_ne, up_eq, up_nk, up_up, up_self, ne_eq, Nat.reduceEqDiff, Int.reduceEq, reduceCtorEq, not_false_eq_true, not_true_eq_false, e114, e115] at r228 ⊢
      refine z_iadd hO dX9_tellsSame_229 ?_
      refine z_dup2 hO dX9_tellsSame_230 rfl rfl ?_
      refine z_iald hO rfl (by omega) (by decide) dX9_tellsSame_231 (fun r231 => ?_)
      try simp only [fl_row_ne, fl_ne, up_row_ne, up_ne, up_eq, up_nk, up_up, up_self, ne_eq, Nat.reduceEqDiff, Int.reduceEq, reduceCtorEq, not_false_eq_true, not_true_eq_false, e114, e115] at r231 ⊢
      rw [hv0] at r231 ⊢
      refine z_iconst hO dX9_tellsSame_232 ?_
      refine z_iadd hO dX9_tellsSame_233 ?_
      refine z_iast hO rfl (by omega) (by decide) (by omega) dX9_tellsSame_234 ?_
      refine z_iinc hO (L' := [(7, _), (0, _), (1, _), (3, _), (4, _), (5, _), (6, _)]) 6 dX9_tellsSame_235 rfl (by decide) rfl ?_
      refine z_goto hO 188 dX9_tellsSame_238 (by decide) ?_
      refine z_pick [1, 2, 3, 4, 5, 6, 0] rfl (ih (i + 1) _ (by omega) (by omega) (hFm.up rfl) (fun a w' h0 h1 h2 h3 => ?_))
      by_cases e : 32 * a + w' = 32 * i + σ 114 (4 + 9 * i + 1 + σ 115 i)
      · have ea : a = i := by omega
        have ew : w' = σ 114 (4 + 9 * i + 1 + σ 115 i) := by omega
        rw [e, up_eq, ea, ew, mv_w, if_pos ⟨by omega, rfl⟩]; omega
      · rw [up_nk e, hh a w' h0 h1 h2 h3]
        by_cases ea : a = i
        · rw [ea, mv_w, if_neg (fun q => by omega), if_neg (fun q => by have := q.2; rw [ea] at e; omega)]
        · by_cases ew : (a < (i : Int) ∧ (mv (σ 114)).2.2.1 a (σ 115 a) = w')
          · rw [if_pos ew, if_pos ⟨by omega, ew.2⟩]
          · rw [if_neg ew, if_neg (fun q => ew ⟨by omega, q.2⟩)]

set_option maxHeartbeats 4000000 in
set_option maxRecDepth 100000 in
theorem lp_ts2 {g : G} {x : Cx} {σ : Sg} {s : Nat} {n many t : Int} {b0 : Prop} (hO : Ok g x RX9 cX9_tellsSame 8 10) (hm : 0 ≤ many ∧ many ≤ 8) (hE : ∀ b : Bool, (b = true ↔ b0 ∧ ∀ j : Int, 0 ≤ j → j < many → σ 117 j = σ 123 j) → Z g x 8 185 [(0, .ref (g.2.2.1 113)), (1, vL (s : Int)), (3, vI (b2i b)), (4, vI n), (5, vI many), (6, vI t)] [] σ) : ∀ (f k : Nat) (b : Bool), (k : Int) ≤ many → many - k < f → (b = true ↔ b0 ∧ ∀ j : Int, 0 ≤ j → j < k → σ 117 j = σ 123 j) → Z g x 8 145 [(0, .ref (g.2.2.1 113)), (1, vL (s : Int)), (3, vI (b2i b)), (4, vI n), (5, vI many), (6, vI t), (7, vI k)] [] σ := by
  intro f
  induction f with
  | zero => intro k b h0 hk; exact absurd hk (by omega)
  | succ f ih =>
    intro k b hk hf hb
    refine z_iload hO 6 dX9_tellsSame_145 rfl ?_
    refine z_iload hO 4 dX9_tellsSame_147 rfl ?_
    refine z_icmp_ge hO 185 dX9_tellsSame_149 (by decide) (by omega) (by omega) (fun c149 => ?_) (fun c149 => ?_)
    ·
      have hkm : (k : Int) = many := by omega
      first | exact z_pick [0, 1, 2, 3, 4, 5] rfl (hE b (by rw [hkm] at hb; exact hb)) | exact z_pick [0, 1, 2, 3, 4, 5] rfl (hE false (iff_of_false (by decide) (fun z => by have y := hb.mpr ⟨z.1, fun j j0 j1 => z.2 j j0 (by omega)⟩; cases y)))
    ·
      refine z_iload_n hO 2 dX9_tellsSame_152 rfl ?_
      refine z_if_eq hO 185 dX9_tellsSame_153 (by decide) (by have := b2i_r b; omega) (fun c153 => ?_) (fun c153 => ?_)
      ·
        have hbf := b2i_0.mp c153
        subst hbf
        first | exact z_pick [0, 1, 2, 3, 4, 5] rfl (hE b (by rw [hkm] at hb; exact hb)) | exact z_pick [0, 1, 2, 3, 4, 5] rfl (hE false (iff_of_false (by decide) (fun z => by have y := hb.mpr ⟨z.1, fun j j0 j1 => z.2 j j0 (by omega)⟩; cases y)))
      ·
        have hbt := b2i_1.mp c153
        subst hbt
        refine z_aload_n hO 0 dX9_tellsSame_156 rfl ?_
        refine z_getR hO (117) fl_X9_19 rfl rfl dX9_tellsSame_157 ?_
        refine z_iload hO 6 dX9_tellsSame_160 rfl ?_
        refine z_iald hO rfl (by omega) (by decide) dX9_tellsSame_162 (fun r162 => ?_)
        refine z_aload_n hO 0 dX9_tellsSame_163 rfl ?_
        refine z_getR hO (123) fl_X9_38 rfl rfl dX9_tellsSame_164 ?_
        refine z_iload hO 6 dX9_tellsSame_167 rfl ?_
        refine z_iald hO rfl (by omega) (by decide) dX9_tellsSame_169 (fun r169 => ?_)
        refine z_icmp_ne hO 177 dX9_tellsSame_170 (by decide) (by omega) (by omega) (fun c170 => ?_) (fun c170 => ?_)
        ·
          refine z_iconst hO dX9_tellsSame_177 ?_
          refine z_istore_n hO (L' := [(3, _), (0, _), (1, _), (4, _), (5, _), (6, _), (7, _)]) dX9_tellsSame_178 (by decide) rfl ?_
          refine z_iinc hO (L' := [(7, _), (3, _), (0, _), (1, _), (4, _), (5, _), (6, _)]) 6 dX9_tellsSame_179 rfl (by decide) rfl ?_
          refine z_goto hO 145 dX9_tellsSame_182 (by decide) ?_
          exact z_pick [2, 3, 1, 4, 5, 6, 0] rfl (ih (k + 1) false (by omega) (by omega) (iff_of_false (by decide) (fun z => by have y := z.2 k (by omega) (by omega); omega)))
        ·
          refine z_iconst hO dX9_tellsSame_173 ?_
          refine z_goto hO 178 dX9_tellsSame_174 (by decide) ?_
          refine z_istore_n hO (L' := [(3, _), (0, _), (1, _), (4, _), (5, _), (6, _), (7, _)]) dX9_tellsSame_178 (by decide) rfl ?_
          refine z_iinc hO (L' := [(7, _), (3, _), (0, _), (1, _), (4, _), (5, _), (6, _)]) 6 dX9_tellsSame_179 rfl (by decide) rfl ?_
          refine z_goto hO 145 dX9_tellsSame_182 (by decide) ?_
          exact z_pick [2, 3, 1, 4, 5, 6, 0] rfl (ih (k + 1) true (by omega) (by omega) (iff_of_true rfl ⟨(hb.mp rfl).1, fun j j0 j1 => by by_cases q : j = k; (rw [q]; omega); exact (hb.mp rfl).2 j j0 (by omega)⟩))

set_option maxHeartbeats 4000000 in
set_option maxRecDepth 100000 in
theorem lp_ts4 {g : G} {x : Cx} {σ : Sg} {s : Nat} {n t : Int} {b1 : Bool} {L F : List Int} (hO : Ok g x RX9 cX9_tellsSame 8 10) (hV : WV (mv (σ 114))) (hp : WP (mv (σ 114)) (σ 115)) (hbd : ∀ a w', 0 ≤ a → a < σ 114 0 → 0 ≤ w' → w' < 32 →  0 ≤ σ 119 (32 * a + w') ∧ σ 119 (32 * a + w') ≤ 70000) (hL6 : σ 113 6 = L.length) (hL7 : rowIs (σ 117) L) (hF7 : rowIs (σ 123) F) (hl8 : L.length ≤ 8 ∧ F.length ≤ 8) (hE : ∀ (b2 : Bool) (τ : Sg), (b2 = true ↔ b1 = true ∧ L = F) → Fm f119 σ τ → (∀ a w', 0 ≤ a → a < σ 114 0 → 0 ≤ w' → w' < 32 →  τ 119 (32 * a + w') = σ 119 (32 * a + w') + (if (mv (σ 114)).2.2.1 a (σ 115 a) = w' then 1 else 0)) → Z g x 8 241 [(0, .ref (g.2.2.1 113)), (1, vL (s : Int)), (3, vI (b2i b2)), (4, vI n), (5, vI (F.length : Int)), (6, vI t)] [] τ) : Z g x 8 123 [(0, .ref (g.2.2.1 113)), (1, vL (s : Int)), (3, vI (b2i b1)), (4, vI n), (5, vI (F.length : Int)), (6, vI t)] [] σ := by
  have hn0 := hV.1
  have hn8 := hV.2.1
  rw [mv_n] at hn0 hn8
  refine z_iload_n hO 2 dX9_tellsSame_123 rfl ?_
  refine z_if_eq hO 140 dX9_tellsSame_124 (by decide) (by have := b2i_r b1; omega) (fun c124 => ?_) (fun c124 => ?_)
  ·
    have hbf := b2i_0.mp c124
    have hb0 : ¬ (b1 = true ∧ L.length = F.length) := fun z => by rw [hbf] at z; exact absurd z.1 (by decide)
    refine z_iconst hO dX9_tellsSame_140 ?_
    refine z_istore_n hO (L' := [(3, _), (0, _), (1, _), (4, _), (5, _), (6, _)]) dX9_tellsSame_141 (by decide) rfl ?_
    refine z_iconst hO dX9_tellsSame_142 ?_
    refine z_istore hO (L' := [(7, _), (3, _), (0, _), (1, _), (4, _), (5, _), (6, _)]) dX9_tellsSame_143 (by decide) rfl ?_
    refine z_pick [2, 3, 1, 4, 5, 6, 0] rfl (lp_ts2 (b0 := (b1 = true ∧ L.length = F.length)) hO (by omega) ?_ 9 0 false (by omega) (by omega) (iff_of_false (by decide) (fun z => hb0 z.1)))
    intro b hb
    refine z_iconst hO dX9_tellsSame_185 ?_
    refine z_istore hO (L' := [(7, _), (0, _), (1, _), (3, _), (4, _), (5, _), (6, _)]) dX9_tellsSame_186 (by decide) rfl ?_
    refine z_pick [1, 2, 3, 4, 5, 6, 0] rfl (lp_ts1 (σ := σ) hO hV hp hbd ?_ 9 0 σ (by omega) (by omega) Fm.rf (fun a w' h0 h1 h2 h3 => by rw [if_neg (by omega)]; omega))
    intro τ hF hh
    refine hE b τ ?_ hF hh
    rw [hb]
    have re := rows_eq hL7 hF7
    constructor
    · intro z; exact ⟨z.1.1, re.mp ⟨by have := z.1.2; omega, fun j j0 j1 => z.2 j j0 (by omega)⟩⟩
    · intro z; have y := re.mpr z.2; exact ⟨⟨z.1, by omega⟩, fun j j0 j1 => y.2 j j0 (by omega)⟩
  ·
    have hbt := b2i_1.mp c124
    refine z_aload_n hO 0 dX9_tellsSame_127 rfl ?_
    refine z_getI hO 6 fl_X9_113 rfl rfl rfl dX9_tellsSame_128 (fun r128 => ?_)
    rw [hL6] at r128 ⊢
    refine z_iload hO 4 dX9_tellsSame_131 rfl ?_
    refine z_icmp_ne hO 140 dX9_tellsSame_133 (by decide) (by omega) (by omega) (fun c133 => ?_) (fun c133 => ?_)
    ·
      have hb0 : ¬ (b1 = true ∧ L.length = F.length) := fun z => by have := z.2; omega
      refine z_iconst hO dX9_tellsSame_140 ?_
      refine z_istore_n hO (L' := [(3, _), (0, _), (1, _), (4, _), (5, _), (6, _)]) dX9_tellsSame_141 (by decide) rfl ?_
      refine z_iconst hO dX9_tellsSame_142 ?_
      refine z_istore hO (L' := [(7, _), (3, _), (0, _), (1, _), (4, _), (5, _), (6, _)]) dX9_tellsSame_143 (by decide) rfl ?_
      refine z_pick [2, 3, 1, 4, 5, 6, 0] rfl (lp_ts2 (b0 := (b1 = true ∧ L.length = F.length)) hO (by omega) ?_ 9 0 false (by omega) (by omega) (iff_of_false (by decide) (fun z => hb0 z.1)))
      intro b hb
      refine z_iconst hO dX9_tellsSame_185 ?_
      refine z_istore hO (L' := [(7, _), (0, _), (1, _), (3, _), (4, _), (5, _), (6, _)]) dX9_tellsSame_186 (by decide) rfl ?_
      refine z_pick [1, 2, 3, 4, 5, 6, 0] rfl (lp_ts1 (σ := σ) hO hV hp hbd ?_ 9 0 σ (by omega) (by omega) Fm.rf (fun a w' h0 h1 h2 h3 => by rw [if_neg (by omega)]; omega))
      intro τ hF hh
      refine hE b τ ?_ hF hh
      rw [hb]
      have re := rows_eq hL7 hF7
      constructor
      · intro z; exact ⟨z.1.1, re.mp ⟨by have := z.1.2; omega, fun j j0 j1 => z.2 j j0 (by omega)⟩⟩
      · intro z; have y := re.mpr z.2; exact ⟨⟨z.1, by omega⟩, fun j j0 j1 => y.2 j j0 (by omega)⟩
    ·
      have hb0 : (b1 = true ∧ L.length = F.length) := ⟨hbt, by omega⟩
      refine z_iconst hO dX9_tellsSame_136 ?_
      refine z_goto hO 141 dX9_tellsSame_137 (by decide) ?_
      refine z_istore_n hO (L' := [(3, _), (0, _), (1, _), (4, _), (5, _), (6, _)]) dX9_tellsSame_141 (by decide) rfl ?_
      refine z_iconst hO dX9_tellsSame_142 ?_
      refine z_istore hO (L' := [(7, _), (3, _), (0, _), (1, _), (4, _), (5, _), (6, _)]) dX9_tellsSame_143 (by decide) rfl ?_
      refine z_pick [2, 3, 1, 4, 5, 6, 0] rfl (lp_ts2 (b0 := (b1 = true ∧ L.length = F.length)) hO (by omega) ?_ 9 0 true (by omega) (by omega) (iff_of_true rfl ⟨hb0, fun j j0 j1 => absurd j1 (by omega)⟩))
      intro b hb
      refine z_iconst hO dX9_tellsSame_185 ?_
      refine z_istore hO (L' := [(7, _), (0, _), (1, _), (3, _), (4, _), (5, _), (6, _)]) dX9_tellsSame_186 (by decide) rfl ?_
      refine z_pick [1, 2, 3, 4, 5, 6, 0] rfl (lp_ts1 (σ := σ) hO hV hp hbd ?_ 9 0 σ (by omega) (by omega) Fm.rf (fun a w' h0 h1 h2 h3 => by rw [if_neg (by omega)]; omega))
      intro τ hF hh
      refine hE b τ ?_ hF hh
      rw [hb]
      have re := rows_eq hL7 hF7
      constructor
      · intro z; exact ⟨z.1.1, re.mp ⟨by have := z.1.2; omega, fun j j0 j1 => z.2 j j0 (by omega)⟩⟩
      · intro z; have y := re.mpr z.2; exact ⟨⟨z.1, by omega⟩, fun j j0 j1 => y.2 j j0 (by omega)⟩

set_option maxHeartbeats 4000000 in
set_option maxRecDepth 100000 in
theorem lp_ts3 {g : G} {x : Cx} {σ : Sg} {s : Nat} {b n many t : Int} (hO : Ok g x RX9 cX9_tellsSame 8 10) (h6 : 0 ≤ σ 113 6 ∧ σ 113 6 ≤ 8) (hE : ∀ τ : Sg, (∀ j : Int, 0 ≤ j → j < σ 113 6 → τ 123 j = σ 117 j) → (∀ (c : Nat) (j : Int), c ≠ 123 → τ c j = σ c j) → Z g x 8 123 [(0, .ref (g.2.2.1 113)), (1, vL (s : Int)), (3, vI b), (4, vI n), (5, vI many), (6, vI t)] [] τ) : ∀ (f k : Nat) (τ : Sg), (k : Int) ≤ σ 113 6 → σ 113 6 - k < f → (∀ j : Int, 0 ≤ j → j < k → τ 123 j = σ 117 j) → (∀ (c : Nat) (j : Int), c ≠ 123 → τ c j = σ c j) → Z g x 8 94 [(0, .ref (g.2.2.1 113)), (1, vL (s : Int)), (3, vI b), (4, vI n), (5, vI many), (6, vI t), (7, vI k)] [] τ := by
  intro f
  induction f with
  | zero => intro k τ h0 hk; exact absurd hk (by omega)
  | succ f ih =>
    intro k τ hk hf hj hFm
    have e6 : τ 113 6 = σ 113 6 := hFm 113 6 (by decide)
    have e117 : τ 117 = σ 117 := funext fun j => hFm 117 j (by decide)
    refine z_iload hO 6 dX9_tellsSame_94 rfl ?_
    refine z_aload_n hO 0 dX9_tellsSame_96 rfl ?_
    refine z_getI hO 6 fl_X9_113 rfl rfl rfl dX9_tellsSame_97 (fun r97 => ?_)
    try simp (disch := omega) only [fl_row_ne, fl_ne, up_row_ne, up_ne, up_eq, up_nk, up_up, up_self, ne_eq, Nat.reduceEqDiff, Int.reduceEq, reduceCtorEq, not_false_eq_true, not_true_eq_false, e6, e117] at r97 ⊢
    refine z_icmp_ge hO 123 dX9_tellsSame_100 (by decide) (by omega) (by omega) (fun c100 => ?_) (fun c100 => ?_)
    ·
      have hkl : (k : Int) = σ 113 6 := by omega
      exact z_pick [0, 1, 2, 3, 4, 5] rfl (hE τ (fun j j0 j1 => hj j j0 (by omega)) hFm)
    ·
      refine z_aload_n hO 0 dX9_tellsSame_103 rfl ?_
      refine z_getR hO (123) fl_X9_38 rfl rfl dX9_tellsSame_104 ?_
      refine z_iload hO 6 dX9_tellsSame_107 rfl ?_
      refine z_aload_n hO 0 dX9_tellsSame_109 rfl ?_
      refine z_getR hO (117) fl_X9_19 rfl rfl dX9_tellsSame_110 ?_
      refine z_iload hO 6 dX9_tellsSame_113 rfl ?_
      refine z_iald hO rfl (by omega) (by decide) dX9_tellsSame_115 (fun r115 => ?_)
      try simp (disch := omega) only [fl_row_ne, fl_ne, up_row_ne, up_ne, up_eq, up_nk, up_up, up_self, ne_eq, Nat.reduceEqDiff, Int.reduceEq, reduceCtorEq, not_false_eq_true, not_true_eq_false, e6, e117] at r115 ⊢
      refine z_iast hO rfl (by omega) (by decide) (by omega) dX9_tellsSame_116 ?_
      refine z_iinc hO (L' := [(7, _), (0, _), (1, _), (3, _), (4, _), (5, _), (6, _)]) 6 dX9_tellsSame_117 rfl (by decide) rfl ?_
      refine z_goto hO 94 dX9_tellsSame_120 (by decide) ?_
      refine z_pick [1, 2, 3, 4, 5, 6, 0] rfl (ih (k + 1) _ (by omega) (by omega) (fun j j0 j1 => ?_) (fun c j hc => ?_))
      · by_cases q : j = k
        · rw [q, up_eq]
        · rw [up_nk q]; exact hj j j0 (by omega)
      · rw [up_ne hc]; exact hFm c j hc
