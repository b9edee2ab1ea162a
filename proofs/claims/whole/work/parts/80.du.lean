theorem bi_add : ∀ k : Nat, k < 5 → ∀ a : Nat, a < 2 ^ k → Int32.ofInt (a : Int) ||| Int32.ofInt ((2 ^ k : Nat) : Int) = Int32.ofInt ((a + 2 ^ k : Nat) : Int) := by decide +kernel
theorem bi_zero : ∀ a : Nat, a < 32 → Int32.ofInt (a : Int) ||| Int32.ofInt 0 = Int32.ofInt (a : Int) := by decide +kernel
def fMt : Nat → Int → Bool := fun c k => fFd c k || (c == 114 && k == 1)
theorem fFd_Mt : ∀ c k, fMt c k = false → fFd c k = false := by
  intro c k h; simp only [fMt, Bool.or_eq_false_iff] at h; exact h.1
theorem Fm_Mt {σ τ : Sg} (h : Fm fMt σ τ) : Fm fFd σ (up τ 114 1 (σ 114 1)) := by
  intro c k q
  by_cases z : c = 114 ∧ k = 1
  · rw [z.1, z.2, up_eq]
  · have e : up τ 114 1 (σ 114 1) c k = τ c k := by
      by_cases y : c = 114
      · exact up_nk (fun w => z ⟨y, w⟩)
      · exact up_ne y
    rw [e]
    refine h c k ?_
    unfold fMt; rw [q]
    simp only [Bool.false_or, Bool.and_eq_false_iff, beq_eq_false_iff_ne]
    by_cases y : c = 114
    · exact Or.inr (fun w => z ⟨y, w⟩)
    · exact Or.inl y
theorem Mt_EqV {σ τ : Sg} (h : Fm fMt σ τ) (v : Int) : EqV (mv (σ 114)) (mv (up τ 114 1 v 114)) := by
  have e : ∀ k : Int, k ≠ 1 → up τ 114 1 v 114 k = σ 114 k := fun k hk => by
    rw [up_nk hk]; refine h 114 k ?_
    unfold fMt; simp [fFd, hk]
  refine ⟨(e 0 (by decide)).symm, fun i i0 i1 => ⟨(e _ (by omega)).symm, fun k k0 k1 => ⟨(e _ (by omega)).symm, (e _ (by omega)).symm⟩⟩⟩
theorem mP_0 {V : Hv} {row : Int → Int} {n : Int} {m j : Nat} : mP V row n m 0 j = mB V row n j m := by unfold mP; rw [if_neg (by omega)]

set_option maxHeartbeats 4000000 in
set_option maxRecDepth 100000 in
theorem lp_meant1 {g : G} {x : Cx} {σ : Sg} {s lane i0 n ck set kd : Int} (hO : Ok g x RX9 cX9_meant 11 11) (hs : 0 ≤ s ∧ s ≤ 3) (hi : 0 ≤ i0 ∧ i0 + n ≤ 24) (hn : 1 ≤ n ∧ n ≤ 6) (hE : ∀ b : Bool, (b = true ↔ (σ 113 13 = n ∧ ∀ j : Int, 0 ≤ j → j < n → σ 118 j = σ 132 (24 * s + i0 + j))) → Z g x 11 155 [(0, .ref (g.2.2.1 113)), (1, vI s), (2, vI lane), (3, vI i0), (4, vI n), (6, vI ck), (7, vI set), (8, vI kd), (9, vI (b2i b))] [] σ) : ∀ (f k : Nat) (b : Bool), (k : Int) ≤ n → n - k < f → (b = true ↔ (σ 113 13 = n ∧ ∀ j : Int, 0 ≤ j → j < k → σ 118 j = σ 132 (24 * s + i0 + j))) → Z g x 11 104 [(0, .ref (g.2.2.1 113)), (1, vI s), (2, vI lane), (3, vI i0), (4, vI n), (6, vI ck), (7, vI set), (8, vI kd), (9, vI (b2i b)), (10, vI k)] [] σ := by
  intro f
  induction f with
  | zero => intro k b h0 hk; exact absurd hk (by omega)
  | succ f ih =>
    intro k b hk hf hb
    refine z_iload hO 9 dX9_meant_104 rfl ?_
    refine z_iload hO 4 dX9_meant_106 rfl ?_
    refine z_icmp_ge hO 155 dX9_meant_108 (by decide) (by omega) (by omega) (fun c108 => ?_) (fun c108 => ?_)
    ·
      have hkn : (k : Int) = n := by omega
      first | exact z_pick [0, 1, 2, 3, 4, 5, 6, 7, 8] rfl (hE b (by rw [hkn] at hb; exact hb)) | exact z_pick [0, 1, 2, 3, 4, 5, 6, 7, 8] rfl (hE false (iff_of_false (by decide) (fun z => by have y := hb.mpr ⟨z.1, fun j j0 j1 => z.2 j j0 (by omega)⟩; cases y)))
    ·
      refine z_iload hO 8 dX9_meant_111 rfl ?_
      refine z_if_eq hO 155 dX9_meant_113 (by decide) (by have := b2i_r b; omega) (fun c113 => ?_) (fun c113 => ?_)
      ·
        have hbf := b2i_0.mp c113
        subst hbf
        first | exact z_pick [0, 1, 2, 3, 4, 5, 6, 7, 8] rfl (hE b (by rw [hkn] at hb; exact hb)) | exact z_pick [0, 1, 2, 3, 4, 5, 6, 7, 8] rfl (hE false (iff_of_false (by decide) (fun z => by have y := hb.mpr ⟨z.1, fun j j0 j1 => z.2 j j0 (by omega)⟩; cases y)))
      ·
        have hbt := b2i_1.mp c113
        subst hbt
        refine z_aload_n hO 0 dX9_meant_116 rfl ?_
        refine z_getR hO (118) fl_X9_22 rfl rfl dX9_meant_117 ?_
        refine z_iload hO 9 dX9_meant_120 rfl ?_
        refine z_iald hO rfl (by omega) (by decide) dX9_meant_122 (fun r122 => ?_)
        refine z_i2l hO dX9_meant_123 (by omega) ?_
        refine z_aload_n hO 0 dX9_meant_124 rfl ?_
        refine z_getR hO (132) fl_X9_69 rfl rfl dX9_meant_125 ?_
        refine z_bipush hO dX9_meant_128 (by decide) ?_
        refine z_iload_n hO 1 dX9_meant_130 rfl ?_
        refine z_imul hO dX9_meant_131 ?_
        refine z_iload_n hO 3 dX9_meant_132 rfl ?_
        refine z_iadd hO dX9_meant_133 ?_
        refine z_iload hO 9 dX9_meant_134 rfl ?_
        refine z_iadd hO dX9_meant_136 ?_
        refine z_lald hO rfl (by omega) (by decide) dX9_meant_137 (fun r137 => ?_)
        refine z_lcmp hO dX9_meant_138 (by omega) (by omega) (fun c138 => ?_) (fun c138 => ?_) (fun c138 => ?_)
        ·
          refine z_if_ne hO 146 dX9_meant_139 (by decide) (by decide) (fun c139 => ?_) (fun c139 => absurd c139 (by omega))
          refine z_iconst hO dX9_meant_146 ?_
          refine z_istore hO (L' := [(9, _), (0, _), (1, _), (2, _), (3, _), (4, _), (6, _), (7, _), (8, _), (10, _)]) dX9_meant_147 (by decide) rfl ?_
          refine z_iinc hO (L' := [(10, _), (9, _), (0, _), (1, _), (2, _), (3, _), (4, _), (6, _), (7, _), (8, _)]) 9 dX9_meant_149 rfl (by decide) rfl ?_
          refine z_goto hO 104 dX9_meant_152 (by decide) ?_
          exact z_pick [2, 3, 4, 5, 6, 7, 8, 9, 1, 0] rfl (ih (k + 1) false (by omega) (by omega) (iff_of_false (by decide) (fun z => by have y := z.2 k (by omega) (by omega); omega)))
        ·
          refine z_if_ne hO 146 dX9_meant_139 (by decide) (by decide) (fun c139 => absurd c139 (by omega)) (fun c139 => ?_)
          refine z_iconst hO dX9_meant_142 ?_
          refine z_goto hO 147 dX9_meant_143 (by decide) ?_
          refine z_istore hO (L' := [(9, _), (0, _), (1, _), (2, _), (3, _), (4, _), (6, _), (7, _), (8, _), (10, _)]) dX9_meant_147 (by decide) rfl ?_
          refine z_iinc hO (L' := [(10, _), (9, _), (0, _), (1, _), (2, _), (3, _), (4, _), (6, _), (7, _), (8, _)]) 9 dX9_meant_149 rfl (by decide) rfl ?_
          refine z_goto hO 104 dX9_meant_152 (by decide) ?_
          exact z_pick [2, 3, 4, 5, 6, 7, 8, 9, 1, 0] rfl (ih (k + 1) true (by omega) (by omega) (iff_of_true rfl ⟨(hb.mp rfl).1, fun j j0 j1 => by by_cases q : j = k; (rw [q]; omega); exact (hb.mp rfl).2 j j0 (by omega)⟩))
        ·
          refine z_if_ne hO 146 dX9_meant_139 (by decide) (by decide) (fun c139 => ?_) (fun c139 => absurd c139 (by omega))
          refine z_iconst hO dX9_meant_146 ?_
          refine z_istore hO (L' := [(9, _), (0, _), (1, _), (2, _), (3, _), (4, _), (6, _), (7, _), (8, _), (10, _)]) dX9_meant_147 (by decide) rfl ?_
          refine z_iinc hO (L' := [(10, _), (9, _), (0, _), (1, _), (2, _), (3, _), (4, _), (6, _), (7, _), (8, _)]) 9 dX9_meant_149 rfl (by decide) rfl ?_
          refine z_goto hO 104 dX9_meant_152 (by decide) ?_
          exact z_pick [2, 3, 4, 5, 6, 7, 8, 9, 1, 0] rfl (ih (k + 1) false (by omega) (by omega) (iff_of_false (by decide) (fun z => by have y := z.2 k (by omega) (by omega); omega)))

set_option maxHeartbeats 4000000 in
set_option maxRecDepth 100000 in
theorem lp_meant2 {g : G} {x : Cx} {σ : Sg} {s lane i0 n : Int} (hO : Ok g x RX9 cX9_meant 11 11) (hR : Rt g x (some .int) (pI (fun r σ' => (¬ (0 ≤ s ∧ s ≤ 3 ∧ (0 ≤ lane ∧ lane ≤ 3) ∧ 1 ≤ n ∧ n ≤ 6) ∧ r = -1 ∧ σ' = σ) ∨ ((0 ≤ s ∧ s ≤ 3 ∧ (0 ≤ lane ∧ lane ≤ 3) ∧ 1 ≤ n ∧ n ≤ 6) ∧ r < 0 ∧ r = (if σ 130 s < 0 then (-11 : Int) else if σ 130 s ≠ lane then -12 else if i0 < 0 ∨ σ 131 s - i0 < n then -13 else 0) ∧ σ' = σ) ∨ ((0 ≤ s ∧ s ≤ 3 ∧ (0 ≤ lane ∧ lane ≤ 3) ∧ 1 ≤ n ∧ n ≤ 6) ∧ (if σ 130 s < 0 then (-11 : Int) else if σ 130 s ≠ lane then -12 else if i0 < 0 ∨ σ 131 s - i0 < n then -13 else 0) = 0 ∧ r = ((setF (mP (mv (σ 114)) (fun j => σ 132 (24 * s + i0 + j)) n (rdN (mv (σ 114))).toNat 0) 5 : Nat) : Int) ∧ Fm fFd σ σ')))) (hV : WV (mv (σ 114))) (hok : 0 ≤ s ∧ s ≤ 3 ∧ (0 ≤ lane ∧ lane ≤ 3) ∧ 1 ≤ n ∧ n ≤ 6) (hwx : (if σ 130 s < 0 then (-11 : Int) else if σ 130 s ≠ lane then -12 else if i0 < 0 ∨ σ 131 s - i0 < n then -13 else 0) = 0) (hi : 0 ≤ i0 ∧ i0 + n ≤ 24) (hck : -2147483648 ≤ σ 114 1 ∧ σ 114 1 ≤ 2147483647) : ∀ (f kd : Nat) (τ : Sg), kd ≤ 5 → 5 - kd < f → Fm fMt σ τ → Z g x 11 67 [(0, .ref (g.2.2.1 113)), (1, vI s), (2, vI lane), (3, vI i0), (4, vI n), (6, vI (σ 114 1)), (7, vI ((setF (mP (mv (σ 114)) (fun j => σ 132 (24 * s + i0 + j)) n (rdN (mv (σ 114))).toNat 0) kd : Nat) : Int)), (8, vI kd)] [] τ := by
  intro f
  induction f with
  | zero => intro kd τ h0 hk; exact absurd hk (by omega)
  | succ f ih =>
    intro kd τ hk hf hFm
    refine z_iload hO 7 dX9_meant_67 rfl ?_
    refine z_iconst hO dX9_meant_69 ?_
    refine z_icmp_ge hO 179 dX9_meant_70 (by decide) (by omega) (by decide) (fun c70 => ?_) (fun c70 => ?_)
    ·
      have hk5 : kd = 5 := by omega
      subst hk5
      refine z_aload_n hO 0 dX9_meant_179 rfl ?_
      refine z_getR hO (114) fl_X9_7 rfl rfl dX9_meant_180 ?_
      refine z_iconst hO dX9_meant_183 ?_
      refine z_iload hO 5 dX9_meant_184 rfl ?_
      refine z_iast hO rfl (by omega) (by decide) (by omega) dX9_meant_186 ?_
      refine z_iload hO 6 dX9_meant_187 rfl ?_
      exact z_retI hO hR dX9_meant_189 (Or.inr (Or.inr ⟨hok, hwx, rfl, Fm_Mt hFm⟩))
    ·
      refine z_aload_n hO 0 dX9_meant_73 rfl ?_
      refine z_getR hO (114) fl_X9_7 rfl rfl dX9_meant_74 ?_
      refine z_iconst hO dX9_meant_77 ?_
      refine z_iload hO 7 dX9_meant_78 rfl ?_
      refine z_iast hO rfl (by omega) (by decide) (by omega) dX9_meant_80 ?_
      refine z_aload_n hO 0 dX9_meant_81 rfl ?_
      refine z_cvV hO (t_X9_finds (Mt_EqV hFm kd |>.WV hV)) cv_X9_154 rfl rfl rfl rfl (by decide) (Nat.le_of_ble_eq_true rfl) dX9_meant_82 (fun s82 p82 => ?_)
      have hee := Mt_EqV hFm (kd : Int)
      rw [show up τ 114 1 (kd : Int) 114 1 = kd from up_eq] at p82
      obtain ⟨⟨f8, f9, f10, f11, f12, f13⟩, hF5⟩ := p82
      rw [← eq_bst hee hV, ← eq_rdN hee hV.1] at f12
      rw [← eq_bst hee hV, ← eq_rdN hee hV.1, ← eq_nm hee hV] at f13
      have hF1 : Fm fMt σ s82 := (hFm.up rfl).trans (hF5.mono fFd_Mt)
      have hal : (s82 113 13 = n ∧ ∀ j : Int, 0 ≤ j → j < n → s82 118 j = s82 132 (24 * s + i0 + j)) ↔ (mP (mv (σ 114)) (fun j => σ 132 (24 * s + i0 + j)) n (rdN (mv (σ 114))).toNat 0) kd = true := by
        rw [mP_0]; unfold mB; rw [dec_iff]
        by_cases hz : (bst (mv (σ 114)) kd (rdN (mv (σ 114))).toNat).1 = -4
        · have z := f12 hz
          exact ⟨fun y => by omega, fun y => absurd hz y.1⟩
        · have z := f13 hz
          have hsr := said_r hV (snd_said (show snd (mv (σ 114)) kd (bst (mv (σ 114)) kd (rdN (mv (σ 114))).toNat).1 = true from by rcases bst_r hV kd (rdN (mv (σ 114))).toNat with q | q; exact absurd q.1 hz; exact q.2.2.2))
          rw [z.1]
          refine ⟨fun y => ⟨hz, y.1, fun j j0 j1 => ?_⟩, fun y => ⟨y.2.1, fun j j0 j1 => ?_⟩⟩
          · show σ 132 (24 * s + i0 + j) = _; rw [← hF1 132 _ rfl, ← y.2 j j0 j1]; exact row_lrow z.2 j0 (by omega)
          · rw [hF1 132 _ rfl, show σ 132 (24 * s + i0 + j) = _ from y.2.2 j j0 j1]; exact row_lrow z.2 j0 (by have := y.2.1; omega)
      have hlt := setF_lt (mP (mv (σ 114)) (fun j => σ 132 (24 * s + i0 + j)) n (rdN (mv (σ 114))).toNat 0) kd
      have h32 : setF (mP (mv (σ 114)) (fun j => σ 132 (24 * s + i0 + j)) n (rdN (mv (σ 114))).toNat 0) kd < 32 := Nat.lt_of_lt_of_le hlt (by have : 2 ^ kd ≤ 2 ^ 5 := Nat.pow_le_pow_right (by decide) (by omega); omega)
      refine z_aload_n hO 0 dX9_meant_85 rfl ?_
      refine z_getI hO 13 fl_X9_151 rfl rfl rfl dX9_meant_86 (fun r86 => ?_)
      refine z_iload hO 4 dX9_meant_89 rfl ?_
      refine z_icmp_ne hO 98 dX9_meant_91 (by decide) (by have := r86; omega) (by have := r86; omega) (fun c91 => ?_) (fun c91 => ?_)
      ·
        refine z_iconst hO dX9_meant_98 ?_
        refine z_istore hO (L' := [(9, _), (0, _), (1, _), (2, _), (3, _), (4, _), (6, _), (7, _), (8, _)]) dX9_meant_99 (by decide) rfl ?_
        refine z_iconst hO dX9_meant_101 ?_
        refine z_istore hO (L' := [(10, _), (9, _), (0, _), (1, _), (2, _), (3, _), (4, _), (6, _), (7, _), (8, _)]) dX9_meant_102 (by decide) rfl ?_
        refine z_pick [2, 3, 4, 5, 6, 7, 8, 9, 1, 0] rfl (lp_meant1 (σ := s82) hO (by omega) (by omega) (by omega) ?_ 7 0 false (by omega) (by omega) (iff_of_false (by decide) (fun z => c91 z.1)))
        intro b hb
        refine z_iload hO 6 dX9_meant_155 rfl ?_
        refine z_iload hO 8 dX9_meant_157 rfl ?_
        refine z_if_eq hO 169 dX9_meant_159 (by decide) (by have := b2i_r b; omega) (fun c159 => ?_) (fun c159 => ?_)
        ·
          have hbf := b2i_0.mp c159
          have hps : (mP (mv (σ 114)) (fun j => σ 132 (24 * s + i0 + j)) n (rdN (mv (σ 114))).toNat 0) kd = false := Bool.not_eq_true _ ▸ (fun z => by have y := hb.mpr (hal.mpr z); rw [hbf] at y; cases y)
          refine z_iconst hO dX9_meant_169 ?_
          refine z_ior hO (((setF (mP (mv (σ 114)) (fun j => σ 132 (24 * s + i0 + j)) n (rdN (mv (σ 114))).toNat 0) (kd + 1) : Nat) : Int)) dX9_meant_170 (by rw [setF_s]; first | (rw [if_pos hps]; exact bi_add kd (by omega) _ hlt) | (rw [if_neg (by rw [hps]; decide)]; exact bi_zero _ h32)) ?_
          refine z_istore hO (L' := [(7, _), (0, _), (1, _), (2, _), (3, _), (4, _), (6, _), (8, _), (9, _)]) dX9_meant_171 (by decide) rfl ?_
          refine z_iinc hO (L' := [(8, _), (7, _), (0, _), (1, _), (2, _), (3, _), (4, _), (6, _), (9, _)]) 7 dX9_meant_173 rfl (by decide) rfl ?_
          refine z_goto hO 67 dX9_meant_176 (by decide) ?_
          exact z_pick [2, 3, 4, 5, 6, 7, 1, 0] rfl (ih (kd + 1) s82 (by omega) (by omega) hF1)
        ·
          have hbt := b2i_1.mp c159
          have hps : (mP (mv (σ 114)) (fun j => σ 132 (24 * s + i0 + j)) n (rdN (mv (σ 114))).toNat 0) kd = true := hal.mp (hb.mp hbt)
          refine z_iconst hO dX9_meant_162 ?_
          refine z_iload hO 7 dX9_meant_163 rfl ?_
          refine z_ishl hO (((2 ^ kd : Nat) : Int)) dX9_meant_165 (bi_shl kd (by omega)) ?_
          refine z_goto hO 170 dX9_meant_166 (by decide) ?_
          refine z_ior hO (((setF (mP (mv (σ 114)) (fun j => σ 132 (24 * s + i0 + j)) n (rdN (mv (σ 114))).toNat 0) (kd + 1) : Nat) : Int)) dX9_meant_170 (by rw [setF_s]; first | (rw [if_pos hps]; exact bi_add kd (by omega) _ hlt) | (rw [if_neg (by rw [hps]; decide)]; exact bi_zero _ h32)) ?_
          refine z_istore hO (L' := [(7, _), (0, _), (1, _), (2, _), (3, _), (4, _), (6, _), (8, _), (9, _)]) dX9_meant_171 (by decide) rfl ?_
          refine z_iinc hO (L' := [(8, _), (7, _), (0, _), (1, _), (2, _), (3, _), (4, _), (6, _), (9, _)]) 7 dX9_meant_173 rfl (by decide) rfl ?_
          refine z_goto hO 67 dX9_meant_176 (by decide) ?_
          exact z_pick [2, 3, 4, 5, 6, 7, 1, 0] rfl (ih (kd + 1) s82 (by omega) (by omega) hF1)
      ·
        refine z_iconst hO dX9_meant_94 ?_
        refine z_goto hO 99 dX9_meant_95 (by decide) ?_
        refine z_istore hO (L' := [(9, _), (0, _), (1, _), (2, _), (3, _), (4, _), (6, _), (7, _), (8, _)]) dX9_meant_99 (by decide) rfl ?_
        refine z_iconst hO dX9_meant_101 ?_
        refine z_istore hO (L' := [(10, _), (9, _), (0, _), (1, _), (2, _), (3, _), (4, _), (6, _), (7, _), (8, _)]) dX9_meant_102 (by decide) rfl ?_
        refine z_pick [2, 3, 4, 5, 6, 7, 8, 9, 1, 0] rfl (lp_meant1 (σ := s82) hO (by omega) (by omega) (by omega) ?_ 7 0 true (by omega) (by omega) (iff_of_true rfl ⟨c91, fun j j0 j1 => absurd j1 (by omega)⟩))
        intro b hb
        refine z_iload hO 6 dX9_meant_155 rfl ?_
        refine z_iload hO 8 dX9_meant_157 rfl ?_
        refine z_if_eq hO 169 dX9_meant_159 (by decide) (by have := b2i_r b; omega) (fun c159 => ?_) (fun c159 => ?_)
        ·
          have hbf := b2i_0.mp c159
          have hps : (mP (mv (σ 114)) (fun j => σ 132 (24 * s + i0 + j)) n (rdN (mv (σ 114))).toNat 0) kd = false := Bool.not_eq_true _ ▸ (fun z => by have y := hb.mpr (hal.mpr z); rw [hbf] at y; cases y)
          refine z_iconst hO dX9_meant_169 ?_
          refine z_ior hO (((setF (mP (mv (σ 114)) (fun j => σ 132 (24 * s + i0 + j)) n (rdN (mv (σ 114))).toNat 0) (kd + 1) : Nat) : Int)) dX9_meant_170 (by rw [setF_s]; first | (rw [if_pos hps]; exact bi_add kd (by omega) _ hlt) | (rw [if_neg (by rw [hps]; decide)]; exact bi_zero _ h32)) ?_
          refine z_istore hO (L' := [(7, _), (0, _), (1, _), (2, _), (3, _), (4, _), (6, _), (8, _), (9, _)]) dX9_meant_171 (by decide) rfl ?_
          refine z_iinc hO (L' := [(8, _), (7, _), (0, _), (1, _), (2, _), (3, _), (4, _), (6, _), (9, _)]) 7 dX9_meant_173 rfl (by decide) rfl ?_
          refine z_goto hO 67 dX9_meant_176 (by decide) ?_
          exact z_pick [2, 3, 4, 5, 6, 7, 1, 0] rfl (ih (kd + 1) s82 (by omega) (by omega) hF1)
        ·
          have hbt := b2i_1.mp c159
          have hps : (mP (mv (σ 114)) (fun j => σ 132 (24 * s + i0 + j)) n (rdN (mv (σ 114))).toNat 0) kd = true := hal.mp (hb.mp hbt)
          refine z_iconst hO dX9_meant_162 ?_
          refine z_iload hO 7 dX9_meant_163 rfl ?_
          refine z_ishl hO (((2 ^ kd : Nat) : Int)) dX9_meant_165 (bi_shl kd (by omega)) ?_
          refine z_goto hO 170 dX9_meant_166 (by decide) ?_
          refine z_ior hO (((setF (mP (mv (σ 114)) (fun j => σ 132 (24 * s + i0 + j)) n (rdN (mv (σ 114))).toNat 0) (kd + 1) : Nat) : Int)) dX9_meant_170 (by rw [setF_s]; first | (rw [if_pos hps]; exact bi_add kd (by omega) _ hlt) | (rw [if_neg (by rw [hps]; decide)]; exact bi_zero _ h32)) ?_
          refine z_istore hO (L' := [(7, _), (0, _), (1, _), (2, _), (3, _), (4, _), (6, _), (8, _), (9, _)]) dX9_meant_171 (by decide) rfl ?_
          refine z_iinc hO (L' := [(8, _), (7, _), (0, _), (1, _), (2, _), (3, _), (4, _), (6, _), (9, _)]) 7 dX9_meant_173 rfl (by decide) rfl ?_
          refine z_goto hO 67 dX9_meant_176 (by decide) ?_
          exact z_pick [2, 3, 4, 5, 6, 7, 1, 0] rfl (ih (kd + 1) s82 (by omega) (by omega) hF1)

set_option maxHeartbeats 4000000 in
set_option maxRecDepth 100000 in
theorem t_X9_meant {g : G} {σ : Sg} {s lane i0 n : Int} (rs : -2147483648 ≤ s ∧ s ≤ 2147483647) (rl : -2147483648 ≤ lane ∧ lane ≤ 2147483647) (ri : -2147483648 ≤ i0 ∧ i0 ≤ 2147483647) (rn : -2147483648 ≤ n ∧ n ≤ 2147483647) (hV : WV (mv (σ 114))) (hz : ∀ s, 0 ≤ s → s ≤ 3 → 0 ≤ σ 131 s ∧ σ 131 s ≤ 24) : MM g mX9_meant [.ref (g.2.2.1 113), vI s, vI lane, vI i0, vI n] σ (pI (fun r σ' => (¬ (0 ≤ s ∧ s ≤ 3 ∧ (0 ≤ lane ∧ lane ≤ 3) ∧ 1 ≤ n ∧ n ≤ 6) ∧ r = -1 ∧ σ' = σ) ∨ ((0 ≤ s ∧ s ≤ 3 ∧ (0 ≤ lane ∧ lane ≤ 3) ∧ 1 ≤ n ∧ n ≤ 6) ∧ r < 0 ∧ r = (if σ 130 s < 0 then (-11 : Int) else if σ 130 s ≠ lane then -12 else if i0 < 0 ∨ σ 131 s - i0 < n then -13 else 0) ∧ σ' = σ) ∨ ((0 ≤ s ∧ s ≤ 3 ∧ (0 ≤ lane ∧ lane ≤ 3) ∧ 1 ≤ n ∧ n ≤ 6) ∧ (if σ 130 s < 0 then (-11 : Int) else if σ 130 s ≠ lane then -12 else if i0 < 0 ∨ σ 131 s - i0 < n then -13 else 0) = 0 ∧ r = ((setF (mP (mv (σ 114)) (fun j => σ 132 (24 * s + i0 + j)) n (rdN (mv (σ 114))).toNat 0) 5 : Nat) : Int) ∧ Fm fFd σ σ'))) := by
  refine mm_of rfl (by decide) rfl rfl (Nat.le_of_ble_eq_true rfl) (fun x hO hR => ?_)
  refine z_iload_n hO 1 dX9_meant_0 rfl ?_
  refine z_csQ hO (t_X9_isSheet (by omega)) cs_X9_282 rfl rfl (by decide) (Nat.le_of_ble_eq_true rfl) dX9_meant_1 (fun c1 => ?_) (fun c1 => ?_)
  ·
    refine z_if_eq hO 32 dX9_meant_4 (by decide) (by decide) (fun c4 => absurd c4 (by omega)) (fun c4 => ?_)
    refine z_iload_n hO 2 dX9_meant_7 rfl ?_
    refine z_i2l hO dX9_meant_8 (by omega) ?_
    refine z_lconst hO 0 dX9_meant_9 (by decide) ?_
    refine z_ldc2 hO k_X9_280 dX9_meant_10 ?_
    refine z_csQ hO (t_X9_in (by omega) (by omega) (by omega)) cs_X9_75 rfl rfl (by decide) (Nat.le_of_ble_eq_true rfl) dX9_meant_13 (fun c13 => ?_) (fun c13 => ?_)
    ·
      refine z_if_eq hO 32 dX9_meant_16 (by decide) (by decide) (fun c16 => absurd c16 (by omega)) (fun c16 => ?_)
      refine z_iload hO 4 dX9_meant_19 rfl ?_
      refine z_i2l hO dX9_meant_21 (by omega) ?_
      refine z_lconst hO 1 dX9_meant_22 (by decide) ?_
      refine z_ldc2 hO k_X9_293 dX9_meant_23 ?_
      refine z_csQ hO (t_X9_in (by omega) (by omega) (by omega)) cs_X9_75 rfl rfl (by decide) (Nat.le_of_ble_eq_true rfl) dX9_meant_26 (fun c26 => ?_) (fun c26 => ?_)
      ·
        refine z_if_ne hO 34 dX9_meant_29 (by decide) (by decide) (fun c29 => ?_) (fun c29 => absurd c29 (by omega))
        refine z_aload_n hO 0 dX9_meant_34 rfl ?_
        refine z_iload_n hO 1 dX9_meant_35 rfl ?_
        refine z_iload_n hO 2 dX9_meant_36 rfl ?_
        refine z_iload_n hO 3 dX9_meant_37 rfl ?_
        refine z_iload hO 4 dX9_meant_38 rfl ?_
        refine z_cvE hO (t_X9_why (by omega) (by omega) (by omega) (by omega) (hz s (by omega) (by omega))) cv_X9_285 rfl rfl rfl rfl (by decide) (Nat.le_of_ble_eq_true rfl) dX9_meant_40 ?_
        obtain ⟨y, hy⟩ : ∃ y, y = (if σ 130 s < 0 then (-11 : Int) else if σ 130 s ≠ lane then -12 else if i0 < 0 ∨ σ 131 s - i0 < n then -13 else 0) := ⟨_, rfl⟩
        rw [← hy]
        have hyr : -13 ≤ y ∧ y ≤ 0 := by rw [hy]; (repeat' split) <;> omega
        have hy2 : 0 ≤ y → 0 ≤ i0 ∧ n ≤ σ 131 s - i0 := by rw [hy]; intro q; (repeat' split at q) <;> omega
        have hzs := hz s (by omega) (by omega)
        refine z_istore hO (L' := [(5, _), (0, _), (1, _), (2, _), (3, _), (4, _)]) dX9_meant_43 (by decide) rfl ?_
        refine z_iload hO 0 dX9_meant_45 rfl ?_
        refine z_if_ge hO 53 dX9_meant_47 (by decide) (by omega) (fun c47 => ?_) (fun c47 => ?_)
        ·
          refine z_aload_n hO 1 dX9_meant_53 rfl ?_
          refine z_getR hO (114) fl_X9_7 rfl rfl dX9_meant_54 ?_
          refine z_iconst hO dX9_meant_57 ?_
          refine z_iald hO rfl (by omega) (by decide) dX9_meant_58 (fun r58 => ?_)
          refine z_istore hO (L' := [(6, _), (5, _), (0, _), (1, _), (2, _), (3, _), (4, _)]) dX9_meant_59 (by decide) rfl ?_
          refine z_iconst hO dX9_meant_61 ?_
          refine z_istore hO (L' := [(7, _), (6, _), (5, _), (0, _), (1, _), (2, _), (3, _), (4, _)]) dX9_meant_62 (by decide) rfl ?_
          refine z_iconst hO dX9_meant_64 ?_
          refine z_istore hO (L' := [(8, _), (7, _), (6, _), (5, _), (0, _), (1, _), (2, _), (3, _), (4, _)]) dX9_meant_65 (by decide) rfl ?_
          exact z_pick [4, 5, 6, 7, 8, 2, 1, 0] rfl (lp_meant2 (σ := σ) hO hR hV (by omega) (by omega) (by have := hy2 (by omega); omega) (by omega) 6 0 σ (by omega) (by omega) Fm.rf)
        ·
          refine z_iload hO 0 dX9_meant_50 rfl ?_
          exact z_retI hO hR dX9_meant_52 (Or.inr (Or.inl ⟨by omega, by omega, hy, rfl⟩))
      ·
        refine z_if_ne hO 34 dX9_meant_29 (by decide) (by decide) (fun c29 => absurd c29 (by omega)) (fun c29 => ?_)
        refine z_iconst hO dX9_meant_32 ?_
        exact z_retI hO hR dX9_meant_33 (Or.inl ⟨by omega, rfl, rfl⟩)
    ·
      refine z_if_eq hO 32 dX9_meant_16 (by decide) (by decide) (fun c16 => ?_) (fun c16 => absurd c16 (by omega))
      refine z_iconst hO dX9_meant_32 ?_
      exact z_retI hO hR dX9_meant_33 (Or.inl ⟨by omega, rfl, rfl⟩)
  ·
    refine z_if_eq hO 32 dX9_meant_4 (by decide) (by decide) (fun c4 => ?_) (fun c4 => absurd c4 (by omega))
    refine z_iconst hO dX9_meant_32 ?_
    exact z_retI hO hR dX9_meant_33 (Or.inl ⟨by omega, rfl, rfl⟩)
