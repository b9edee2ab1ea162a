/-! ===== weights ===== -/
def prW (V : Hv) (p : Int → Int) : Nat → Int
  | 0 => 1
  | m + 1 => prW V p m * (10 - V.2.2.2 m (p m))
theorem prW_s (V : Hv) (p : Int → Int) (m : Nat) : prW V p (m + 1) = prW V p m * (10 - V.2.2.2 m (p m)) := rfl
def pow10 : Nat → Int
  | 0 => 1
  | m + 1 => 10 * pow10 m
theorem pow10_le {m : Nat} (h : m ≤ 8) : pow10 m ≤ 100000000 := by
  rcases (show m = 0 ∨ m = 1 ∨ m = 2 ∨ m = 3 ∨ m = 4 ∨ m = 5 ∨ m = 6 ∨ m = 7 ∨ m = 8 by omega) with rfl | rfl | rfl | rfl | rfl | rfl | rfl | rfl | rfl <;> decide
theorem prW_r {V : Hv} {p : Int → Int} (hV : WV V) (hp : WP V p) (m : Nat) (hm : (m : Int) ≤ V.1) : 1 ≤ prW V p m ∧ prW V p m ≤ pow10 m := by
  induction m with
  | zero => exact ⟨Int.le_refl 1, Int.le_refl 1⟩
  | succ m ih =>
    have a := ih (by omega)
    have b := hp m (by omega) (by omega)
    have c := (hV.2.2 m (by omega) (by omega)).2.2 (p m) b.1 b.2
    rw [prW_s]
    unfold pow10
    rw [Int.mul_comm 10]
    constructor
    · exact Int.le_trans (by decide) (Int.mul_le_mul a.1 (show (1 : Int) ≤ 10 - V.2.2.2 m (p m) by omega) (by decide) (by omega))
    · exact Int.mul_le_mul a.2 (by omega) (by omega) (by omega)
theorem prW_congr {V : Hv} {p p' : Int → Int} (m : Nat) (h : ∀ j : Int, 0 ≤ j → j < m → p j = p' j) : prW V p m = prW V p' m := by
  induction m with
  | zero => rfl
  | succ m ih => rw [prW_s, prW_s, ih (fun j h0 h1 => h j h0 (by omega)), h m (by omega) (by omega)]
def wgt (V : Hv) (r : Int) : Int := prW V (pk V r) V.1.toNat
theorem wgt_r {V : Hv} (hV : WV V) (r : Int) : 1 ≤ wgt V r ∧ wgt V r ≤ 100000000 := by
  have h0 := hV.1; have h8 := hV.2.1
  have a := prW_r hV (pk_WP hV r) V.1.toNat (by omega)
  have b := pow10_le (m := V.1.toNat) (by omega)
  unfold wgt; omega
def lastN (V : Hv) (r : Int) : Int := lrow (nm V r) ((nm V r).length - 1)
noncomputable def wAll (V : Hv) (K : Int) : Nat → Int
  | 0 => 0
  | m + 1 => wAll V K m + (if snd V K m = true then wgt V m else 0)
noncomputable def wOne (V : Hv) (K v : Int) : Nat → Int
  | 0 => 0
  | m + 1 => wOne V K v m + (if snd V K m = true ∧ lastN V m = v then wgt V m else 0)
theorem wAll_s (V : Hv) (K : Int) (m : Nat) : wAll V K (m + 1) = wAll V K m + (if snd V K m = true then wgt V m else 0) := rfl
theorem wOne_s (V : Hv) (K v : Int) (m : Nat) : wOne V K v (m + 1) = wOne V K v m + (if snd V K m = true ∧ lastN V m = v then wgt V m else 0) := rfl
theorem wAll_f {V : Hv} {K : Int} {m : Nat} (h : snd V K m = false) : wAll V K (m + 1) = wAll V K m := by rw [wAll_s, if_neg (by rw [h]; decide)]; omega
theorem wAll_t {V : Hv} {K : Int} {m : Nat} (h : snd V K m = true) : wAll V K (m + 1) = wAll V K m + wgt V m := by rw [wAll_s, if_pos h]
theorem wOne_f {V : Hv} {K v : Int} {m : Nat} (h : snd V K m = false) : wOne V K v (m + 1) = wOne V K v m := by rw [wOne_s, if_neg (fun q => by rw [h] at q; exact absurd q.1 (by decide))]; omega
theorem wOne_t {V : Hv} {K v : Int} {m : Nat} (h : snd V K m = true) (e : lastN V m = v) : wOne V K v (m + 1) = wOne V K v m + wgt V m := by rw [wOne_s, if_pos ⟨h, e⟩]
theorem wOne_n {V : Hv} {K v : Int} {m : Nat} (e : lastN V m ≠ v) : wOne V K v (m + 1) = wOne V K v m := by rw [wOne_s, if_neg (fun q => e q.2)]; omega
theorem w_r {V : Hv} (hV : WV V) (K v : Int) (m : Nat) : 0 ≤ wOne V K v m ∧ wOne V K v m ≤ wAll V K m ∧ wAll V K m ≤ 100000000 * m := by
  induction m with
  | zero => exact ⟨Int.le_refl 0, Int.le_refl 0, Int.le_refl 0⟩
  | succ m ih =>
    have := wgt_r hV m
    rw [wAll_s, wOne_s]
    by_cases h : snd V K m = true
    · rw [if_pos h]; split <;> omega
    · rw [if_neg h, if_neg (fun q => h q.1)]; omega
/-- the fraction in lowest terms: above (0), below (1) -/
def lowT (a b what : Int) : Int := (if what = 0 then a else b) / (Int.gcd a b : Int)
noncomputable def likF (V : Hv) (K v what : Int) : Int := if wAll V K (rdN V).toNat = 0 then -4 else lowT (wOne V K v (rdN V).toNat) (wAll V K (rdN V).toNat) what

theorem gcd_step {a b : Int} (ha : 0 ≤ a) (hb : 0 ≤ b) : Int.gcd b (a % b) = Int.gcd a b := by
  obtain ⟨n, rfl⟩ : ∃ n : Nat, a = n := ⟨a.toNat, by omega⟩
  obtain ⟨m, rfl⟩ : ∃ m : Nat, b = m := ⟨b.toNat, by omega⟩
  show Nat.gcd m ((n : Int) % (m : Int)).natAbs = Nat.gcd n m
  rw [← Int.natCast_emod, Int.natAbs_natCast, Nat.gcd_comm m, ← Nat.gcd_rec, Nat.gcd_comm]

set_option maxHeartbeats 4000000 in
set_option maxRecDepth 100000 in
theorem lp_gcd {g : G} {x : Cx} {σ : Sg} {what a0 b0 : Int} (hO : Ok g x RX9 cX9_likely 14 10) (hE : Z g x 14 196 [(0, .ref (g.2.2.1 113)), (2, vI what), (3, vL a0), (5, vL b0), (8, vL (Int.gcd a0 b0 : Int))] [] σ) : ∀ (k : Nat) (a b : Int), 0 ≤ a → (0 ≤ b ∧ b < k) → a ≤ 9000000000000000000 → b ≤ 9000000000000000000 → Int.gcd a b = Int.gcd a0 b0 → Z g x 14 171 [(0, .ref (g.2.2.1 113)), (2, vI what), (3, vL a0), (5, vL b0), (8, vL a), (10, vL b)] [] σ := by
  intro k
  induction k with
  | zero => intro a b h0 hk; exact absurd hk (by omega)
  | succ k ih =>
    intro a b h0 hk ra rb hg
    refine z_lload hO 5 dX9_likely_171 rfl ?_
    refine z_lconst hO 0 dX9_likely_173 (by decide) ?_
    refine z_lcmp hO dX9_likely_174 (by omega) (by omega) (fun c174 => ?_) (fun c174 => ?_) (fun c174 => ?_)
    ·
      refine z_if_eq hO 196 dX9_likely_175 (by decide) (by decide) (fun c175 => absurd c175 (by omega)) (fun c175 => ?_)
      refine z_lload hO 4 dX9_likely_178 rfl ?_
      refine z_lload hO 5 dX9_likely_180 rfl ?_
      refine z_lrem hO dX9_likely_182 (by omega) (by omega) ?_
      have hm0 := Int.emod_nonneg a (show b ≠ 0 by omega)
      have hm1 := Int.emod_lt_of_pos a (show 0 < b by omega)
      refine z_lstore hO (L' := [(12, _), (0, _), (2, _), (3, _), (5, _), (8, _), (10, _)]) dX9_likely_183 (by decide) rfl ?_
      refine z_lload hO 6 dX9_likely_185 rfl ?_
      refine z_lstore hO (L' := [(8, _), (12, _), (0, _), (2, _), (3, _), (5, _), (10, _)]) dX9_likely_187 (by decide) rfl ?_
      refine z_lload hO 1 dX9_likely_189 rfl ?_
      refine z_lstore hO (L' := [(10, _), (8, _), (12, _), (0, _), (2, _), (3, _), (5, _)]) dX9_likely_191 (by decide) rfl ?_
      refine z_goto hO 171 dX9_likely_193 (by decide) ?_
      refine z_pick [3, 4, 5, 6, 1, 0] rfl (ih _ _ (by omega) (by omega) (by omega) (by omega) ?_)
      rw [← hg]; exact gcd_step h0 hk.1
    ·
      refine z_if_eq hO 196 dX9_likely_175 (by decide) (by decide) (fun c175 => ?_) (fun c175 => absurd c175 (by omega))
      have hb0 : b = 0 := by omega
      subst hb0
      have hga : a = (Int.gcd a0 b0 : Int) := by rw [← hg, Int.gcd_zero_right]; omega
      rw [hga]
      refine z_pick [0, 1, 2, 3, 4, 5] rfl ?_
      exact z_pick [0, 1, 2, 3, 4] rfl hE
    ·
      exfalso; omega

set_option maxHeartbeats 4000000 in
set_option maxRecDepth 100000 in
theorem lp_likely1 {g : G} {x : Cx} {σ : Sg} {v what a b n r : Int} (hO : Ok g x RX9 cX9_likely 14 10) (hV : WV (mv (σ 114))) (hp : WP (mv (σ 114)) (σ 115)) (hE : Z g x 14 116 [(0, .ref (g.2.2.1 113)), (1, vI v), (2, vI what), (3, vL a), (5, vL b), (7, vI n), (8, vI r), (9, vL (prW (mv (σ 114)) (σ 115) (σ 114 0).toNat))] [] σ) : ∀ (k j : Nat), (j : Int) ≤ σ 114 0 → σ 114 0 - j < k → Z g x 14 69 [(0, .ref (g.2.2.1 113)), (1, vI v), (2, vI what), (3, vL a), (5, vL b), (7, vI n), (8, vI r), (9, vL (prW (mv (σ 114)) (σ 115) j)), (11, vI j)] [] σ := by
  have hn0 := hV.1
  have hn8 := hV.2.1
  rw [mv_n] at hn0 hn8
  intro k
  induction k with
  | zero => intro j h0 hk; exact absurd hk (by omega)
  | succ k ih =>
    intro j h0 hk
    refine z_iload hO 8 dX9_likely_69 rfl ?_
    refine z_aload_n hO 0 dX9_likely_71 rfl ?_
    refine z_getR hO (114) fl_X9_7 rfl rfl dX9_likely_72 ?_
    refine z_iconst hO dX9_likely_75 ?_
    refine z_iald hO rfl (by omega) (by decide) dX9_likely_76 (fun r76 => ?_)
    refine z_icmp_ge hO 116 dX9_likely_77 (by decide) (by omega) (by omega) (fun c77 => ?_) (fun c77 => ?_)
    ·
      have hj : j = (σ 114 0).toNat := by omega
      subst hj
      exact z_pick [0, 1, 2, 3, 4, 5, 6, 7] rfl hE
    ·
      have hW := hV.2.2 j (by omega) (show (j : Int) < σ 114 0 by omega)
      have hQ := hp j (by omega) (show (j : Int) < σ 114 0 by omega)
      have hX := hW.2.2 (σ 115 j) hQ.1 hQ.2
      rw [mv_c] at hW hQ
      rw [mv_w, mv_q] at hX
      have hwr := prW_r hV hp j (show (j : Int) ≤ σ 114 0 by omega)
      have hpl := pow10_le (m := j) (by omega)
      refine z_lload hO 7 dX9_likely_80 rfl ?_
      refine z_bipush hO dX9_likely_82 (by decide) ?_
      refine z_aload_n hO 0 dX9_likely_84 rfl ?_
      refine z_getR hO (114) fl_X9_7 rfl rfl dX9_likely_85 ?_
      refine z_aload_n hO 0 dX9_likely_88 rfl ?_
      refine z_iload hO 8 dX9_likely_89 rfl ?_
      refine z_cvE hO (t_X9_at) cv_X9_79 rfl rfl rfl rfl (by decide) (Nat.le_of_ble_eq_true rfl) dX9_likely_91 ?_
      refine z_iconst hO dX9_likely_94 ?_
      refine z_iadd hO dX9_likely_95 ?_
      refine z_aload_n hO 0 dX9_likely_96 rfl ?_
      refine z_getR hO (115) fl_X9_13 rfl rfl dX9_likely_97 ?_
      refine z_iload hO 8 dX9_likely_100 rfl ?_
      refine z_iald hO rfl (by omega) (by decide) dX9_likely_102 (fun r102 => ?_)
      refine z_iadd hO dX9_likely_103 ?_
      refine z_iald hO rfl (by omega) (by decide) dX9_likely_104 (fun r104 => ?_)
      refine z_isub hO dX9_likely_105 ?_
      refine z_i2l hO dX9_likely_106 (by omega) ?_
      refine z_lmul hO dX9_likely_107 ?_
      refine z_lstore hO (L' := [(9, _), (0, _), (1, _), (2, _), (3, _), (5, _), (7, _), (8, _), (11, _)]) dX9_likely_108 (by decide) rfl ?_
      refine z_iinc hO (L' := [(11, _), (9, _), (0, _), (1, _), (2, _), (3, _), (5, _), (7, _), (8, _)]) 8 dX9_likely_110 rfl (by decide) rfl ?_
      refine z_goto hO 69 dX9_likely_113 (by decide) ?_
      refine z_pick [2, 3, 4, 5, 6, 7, 8, 1, 0] rfl ?_
      rw [show prW (mv (σ 114)) (σ 115) j * (10 - σ 114 (4 + 9 * j + 5 + σ 115 j)) = prW (mv (σ 114)) (σ 115) (j + 1) by rw [prW_s, mv_q]]
      exact ih (j + 1) (by omega) (by omega)

set_option maxHeartbeats 4000000 in
set_option maxRecDepth 100000 in
theorem lp_likely2 {g : G} {x : Cx} {σ : Sg} {v what : Int} (hO : Ok g x RX9 cX9_likely 14 10) (hV : WV (mv (σ 114))) (rv : 0 ≤ v ∧ v ≤ 999999) (hE : ∀ τ, Fm fTk σ τ → Z g x 14 153 [(0, .ref (g.2.2.1 113)), (1, vI v), (2, vI what), (3, vL (wOne (mv (σ 114)) (σ 114 1) v (rdN (mv (σ 114))).toNat)), (5, vL (wAll (mv (σ 114)) (σ 114 1) (rdN (mv (σ 114))).toNat))] [] τ) : ∀ (k i : Nat) (a b : Int) (τ : Sg), (i : Int) ≤ rdN (mv (σ 114)) → rdN (mv (σ 114)) - i < k → a = wOne (mv (σ 114)) (σ 114 1) v i → b = wAll (mv (σ 114)) (σ 114 1) i → Fm fTk σ τ → Z g x 14 40 [(0, .ref (g.2.2.1 113)), (1, vI v), (2, vI what), (3, vL a), (5, vL b), (7, vI (rdN (mv (σ 114)))), (8, vI i)] [] τ := by
  have hn0 := hV.1
  have hn8 := hV.2.1
  rw [mv_n] at hn0 hn8
  intro k
  induction k with
  | zero => intro i a b τ h0 hk; exact absurd hk (by omega)
  | succ k ih2 =>
    intro i a b τ h0 hk ea eb hFm
    have e114 : τ 114 = σ 114 := hFm.row 114 (fun _ => rfl)
    subst ea
    subst eb
    refine z_iload hO 6 dX9_likely_40 rfl ?_
    refine z_iload hO 5 dX9_likely_42 rfl ?_
    refine z_icmp_ge hO 153 dX9_likely_44 (by decide) (by have := rdN_r hV; omega) (by have := rdN_r hV; omega) (fun c44 => ?_) (fun c44 => ?_)
    ·
      have hi3 : i = (rdN (mv (σ 114))).toNat := by have := rdN_r hV; omega
      subst hi3
      exact z_pick [0, 1, 2, 3, 4] rfl (hE τ hFm)
    ·
      have hrd := rdN_r hV
      have hwr := w_r hV (σ 114 1) v i
      have hwg := wgt_r hV i
      refine z_aload_n hO 0 dX9_likely_47 rfl ?_
      refine z_iload hO 6 dX9_likely_48 rfl ?_
      refine z_cvB hO (t_X9_takes (r := i) (by rw [e114]; exact hV) (by omega)) cv_X9_144 rfl rfl rfl rfl (by decide) (Nat.le_of_ble_eq_true rfl) dX9_likely_50 (fun s50 p50 => ?_) (fun s50 p50 => ?_)
      ·
        rw [e114] at p50
        have q114 : s50 114 = σ 114 := (p50.2.2.row 114 (fun _ => rfl)).trans e114
        have hF2 : Fm fTk σ s50 := hFm.trans p50.2.2
        have hsd : said (mv (σ 114)) i = true := p50.1.1.symm
        have q6 : s50 113 6 = (nm (mv (σ 114)) i).length := p50.1.2.1
        have q117 : rowIs (s50 117) (nm (mv (σ 114)) i) := p50.1.2.2.1
        have hsr := said_r hV hsd
        refine z_if_eq hO 147 dX9_likely_53 (by decide) (by decide) (fun c53 => absurd c53 (by omega)) (fun c53 => ?_)
        refine z_aload_n hO 0 dX9_likely_56 rfl ?_
        refine z_cvQ hO (t_X9_holds (by rw [q6]; exact row_NR q117 hsr)) cv_X9_148 rfl rfl rfl rfl (by decide) (Nat.le_of_ble_eq_true rfl) dX9_likely_57 (fun c57 => ?_) (fun c57 => ?_)
        ·
          try simp only [fl_row_ne, fl_ne, up_row_ne, up_ne, up_eq, up_nk, up_up, up_self, ne_eq, Nat.reduceEqDiff, Int.reduceEq, reduceCtorEq, not_false_eq_true, not_true_eq_false, e114, q114, q6] at c57 ⊢
          have c57 : hld (σ 114 1) (lrow (nm (mv (σ 114)) i)) (nm (mv (σ 114)) i).length := (hld_row q117 hsr.1).mp c57
          have hsn : snd (mv (σ 114)) (σ 114 1) i = true := snd_hld hsd c57
          have ha := wAll_t hsn
          refine z_if_eq hO 147 dX9_likely_60 (by decide) (by decide) (fun c60 => absurd c60 (by omega)) (fun c60 => ?_)
          refine z_lconst hO 1 dX9_likely_63 (by decide) ?_
          refine z_lstore hO (L' := [(9, _), (0, _), (1, _), (2, _), (3, _), (5, _), (7, _), (8, _)]) dX9_likely_64 (by decide) rfl ?_
          refine z_iconst hO dX9_likely_66 ?_
          refine z_istore hO (L' := [(11, _), (9, _), (0, _), (1, _), (2, _), (3, _), (5, _), (7, _), (8, _)]) dX9_likely_67 (by decide) rfl ?_
          have hwp : WP (mv (s50 114)) (s50 115) := by rw [q114]; intro j h0 h1; rw [p50.2.1 j h0 h1]; exact pk_WP hV i j h0 h1
          refine z_pick [2, 3, 4, 5, 6, 7, 8, 1, 0] rfl (lp_likely1 (σ := s50) hO (by rw [q114]; exact hV) hwp ?_ 9 0 (by rw [q114]; omega) (by rw [q114]; omega))
          have hwe : prW (mv (s50 114)) (s50 115) (s50 114 0).toNat = wgt (mv (σ 114)) i := by rw [q114, prW_congr (p' := pk (mv (σ 114)) i) _ (fun j h0 h1 => p50.2.1 j h0 (by omega))]; rfl
          rw [hwe]
          refine z_lload hO 4 dX9_likely_116 rfl ?_
          refine z_lload hO 7 dX9_likely_118 rfl ?_
          refine z_ladd hO dX9_likely_120 ?_
          refine z_lstore hO (L' := [(5, _), (0, _), (1, _), (2, _), (3, _), (7, _), (8, _), (9, _)]) dX9_likely_121 (by decide) rfl ?_
          refine z_lload_n hO 4 dX9_likely_123 rfl ?_
          refine z_aload_n hO 1 dX9_likely_124 rfl ?_
          refine z_getR hO (117) fl_X9_19 rfl rfl dX9_likely_125 ?_
          refine z_aload_n hO 1 dX9_likely_128 rfl ?_
          refine z_getI hO 6 fl_X9_113 rfl rfl rfl dX9_likely_129 (fun r129 => ?_)
          try simp only [fl_row_ne, fl_ne, up_row_ne, up_ne, up_eq, up_nk, up_up, up_self, ne_eq, Nat.reduceEqDiff, Int.reduceEq, reduceCtorEq, not_false_eq_true, not_true_eq_false, e114, q114, q6] at r129 ⊢
          refine z_iconst hO dX9_likely_132 ?_
          refine z_isub hO dX9_likely_133 ?_
          refine z_iald hO rfl (by omega) (by decide) dX9_likely_134 (fun r134 => ?_)
          rw [row_lrow q117 (by omega) (by omega)] at r134 ⊢
          refine z_iload_n hO 2 dX9_likely_135 rfl ?_
          refine z_icmp_ne hO 144 dX9_likely_136 (by decide) (by omega) (by omega) (fun c136 => ?_) (fun c136 => ?_)
          ·
            have ho := wOne_n (V := (mv (σ 114))) (K := (σ 114 1)) (v := v) (m := i) c136
            refine z_lconst hO 0 dX9_likely_144 (by decide) ?_
            refine z_ladd hO dX9_likely_145 ?_
            refine z_lstore_n hO (L' := [(3, _), (5, _), (0, _), (1, _), (2, _), (7, _), (8, _), (9, _)]) dX9_likely_146 (by decide) rfl ?_
            refine z_iinc hO (L' := [(8, _), (3, _), (5, _), (0, _), (1, _), (2, _), (7, _), (9, _)]) 6 dX9_likely_147 rfl (by decide) rfl ?_
            refine z_goto hO 40 dX9_likely_150 (by decide) ?_
            refine z_pick [3, 4, 5, 1, 2, 6, 0] rfl (ih2 (i + 1) _ _ _ (by omega) (by omega) (by first | omega | (rw [ho]; omega)) (by first | omega | (rw [ha]; omega)) hF2)
          ·
            have ho := wOne_t (v := v) hsn c136
            refine z_lload hO 7 dX9_likely_139 rfl ?_
            refine z_goto hO 145 dX9_likely_141 (by decide) ?_
            refine z_ladd hO dX9_likely_145 ?_
            refine z_lstore_n hO (L' := [(3, _), (5, _), (0, _), (1, _), (2, _), (7, _), (8, _), (9, _)]) dX9_likely_146 (by decide) rfl ?_
            refine z_iinc hO (L' := [(8, _), (3, _), (5, _), (0, _), (1, _), (2, _), (7, _), (9, _)]) 6 dX9_likely_147 rfl (by decide) rfl ?_
            refine z_goto hO 40 dX9_likely_150 (by decide) ?_
            refine z_pick [3, 4, 5, 1, 2, 6, 0] rfl (ih2 (i + 1) _ _ _ (by omega) (by omega) (by first | omega | (rw [ho]; omega)) (by first | omega | (rw [ha]; omega)) hF2)
        ·
          try simp only [fl_row_ne, fl_ne, up_row_ne, up_ne, up_eq, up_nk, up_up, up_self, ne_eq, Nat.reduceEqDiff, Int.reduceEq, reduceCtorEq, not_false_eq_true, not_true_eq_false, e114, q114, q6] at c57 ⊢
          have c57 : ¬ hld (σ 114 1) (lrow (nm (mv (σ 114)) i)) (nm (mv (σ 114)) i).length := fun z => c57 ((hld_row q117 hsr.1).mpr z)
          have hsn : snd (mv (σ 114)) (σ 114 1) i = false := snd_nhld c57
          have ha := wAll_f hsn
          have ho := wOne_f (v := v) hsn
          refine z_if_eq hO 147 dX9_likely_60 (by decide) (by decide) (fun c60 => ?_) (fun c60 => absurd c60 (by omega))
          refine z_iinc hO (L' := [(8, _), (0, _), (1, _), (2, _), (3, _), (5, _), (7, _)]) 6 dX9_likely_147 rfl (by decide) rfl ?_
          refine z_goto hO 40 dX9_likely_150 (by decide) ?_
          refine z_pick [1, 2, 3, 4, 5, 6, 0] rfl (ih2 (i + 1) _ _ _ (by omega) (by omega) (by first | omega | (rw [ho]; omega)) (by first | omega | (rw [ha]; omega)) hF2)
      ·
        rw [e114] at p50
        have q114 : s50 114 = σ 114 := (p50.2.2.row 114 (fun _ => rfl)).trans e114
        have hF2 : Fm fTk σ s50 := hFm.trans p50.2.2
        have hsn : snd (mv (σ 114)) (σ 114 1) i = false := snd_nsaid p50.1.1.symm
        have ha := wAll_f hsn
        have ho := wOne_f (v := v) hsn
        refine z_if_eq hO 147 dX9_likely_53 (by decide) (by decide) (fun c53 => ?_) (fun c53 => absurd c53 (by omega))
        refine z_iinc hO (L' := [(8, _), (0, _), (1, _), (2, _), (3, _), (5, _), (7, _)]) 6 dX9_likely_147 rfl (by decide) rfl ?_
        refine z_goto hO 40 dX9_likely_150 (by decide) ?_
        refine z_pick [1, 2, 3, 4, 5, 6, 0] rfl (ih2 (i + 1) _ _ _ (by omega) (by omega) (by first | omega | (rw [ho]; omega)) (by first | omega | (rw [ha]; omega)) hF2)

set_option maxHeartbeats 4000000 in
set_option maxRecDepth 100000 in
theorem t_X9_likely {g : G} {σ : Sg} {v what : Int} (rv : -2147483648 ≤ v ∧ v ≤ 2147483647) (rw : -2147483648 ≤ what ∧ what ≤ 2147483647) (hV : WV (mv (σ 114))) : MM g mX9_likely [.ref (g.2.2.1 113), vI v, vI what] σ (pL (fun r σ' => (¬ ((0 ≤ v ∧ v ≤ 999999) ∧ 0 ≤ what ∧ what ≤ 1) ∧ r = -1 ∧ σ' = σ) ∨ ((0 ≤ v ∧ v ≤ 999999) ∧ (0 ≤ what ∧ what ≤ 1) ∧ r = likF (mv (σ 114)) (σ 114 1) v what ∧ Fm fTk σ σ'))) := by
  refine mm_of rfl (by decide) rfl rfl (Nat.le_of_ble_eq_true rfl) (fun x hO hR => ?_)
  refine z_iload_n hO 1 dX9_likely_0 rfl ?_
  refine z_i2l hO dX9_likely_1 (by omega) ?_
  refine z_lconst hO 0 dX9_likely_2 (by decide) ?_
  refine z_ldc2 hO k_X9_237 dX9_likely_3 ?_
  refine z_csQ hO (t_X9_in (by omega) (by omega) (by omega)) cs_X9_75 rfl rfl (by decide) (Nat.le_of_ble_eq_true rfl) dX9_likely_6 (fun c6 => ?_) (fun c6 => ?_)
  ·
    refine z_if_eq hO 22 dX9_likely_9 (by decide) (by decide) (fun c9 => absurd c9 (by omega)) (fun c9 => ?_)
    refine z_iload_n hO 2 dX9_likely_12 rfl ?_
    refine z_i2l hO dX9_likely_13 (by omega) ?_
    refine z_lconst hO 0 dX9_likely_14 (by decide) ?_
    refine z_lconst hO 1 dX9_likely_15 (by decide) ?_
    refine z_csQ hO (t_X9_in (by omega) (by omega) (by omega)) cs_X9_75 rfl rfl (by decide) (Nat.le_of_ble_eq_true rfl) dX9_likely_16 (fun c16 => ?_) (fun c16 => ?_)
    ·
      refine z_if_ne hO 26 dX9_likely_19 (by decide) (by decide) (fun c19 => ?_) (fun c19 => absurd c19 (by omega))
      refine z_lconst hO 0 dX9_likely_26 (by decide) ?_
      refine z_lstore_n hO (L' := [(3, _), (0, _), (1, _), (2, _)]) dX9_likely_27 (by decide) rfl ?_
      refine z_lconst hO 0 dX9_likely_28 (by decide) ?_
      refine z_lstore hO (L' := [(5, _), (3, _), (0, _), (1, _), (2, _)]) dX9_likely_29 (by decide) rfl ?_
      refine z_aload_n hO 2 dX9_likely_31 rfl ?_
      refine z_cvE hO (t_X9_readings hV) cv_X9_141 rfl rfl rfl rfl (by decide) (Nat.le_of_ble_eq_true rfl) dX9_likely_32 ?_
      refine z_istore hO (L' := [(7, _), (5, _), (3, _), (0, _), (1, _), (2, _)]) dX9_likely_35 (by decide) rfl ?_
      refine z_iconst hO dX9_likely_37 ?_
      refine z_istore hO (L' := [(8, _), (7, _), (5, _), (3, _), (0, _), (1, _), (2, _)]) dX9_likely_38 (by decide) rfl ?_
      refine z_pick [4, 5, 6, 3, 2, 1, 0] rfl (lp_likely2 (σ := σ) hO hV (by omega) ?_ 65537 0 0 0 σ (by have := rdN_r hV; omega) (by have := rdN_r hV; omega) rfl rfl Fm.rf)
      intro τ hF
      have hwr := w_r hV (σ 114 1) v (rdN (mv (σ 114))).toNat
      have hrd := rdN_r hV
      refine z_lload hO 4 dX9_likely_153 rfl ?_
      refine z_lconst hO 0 dX9_likely_155 (by decide) ?_
      refine z_lcmp hO dX9_likely_156 (by omega) (by omega) (fun c156 => ?_) (fun c156 => ?_) (fun c156 => ?_)
      ·
        refine z_if_ne hO 164 dX9_likely_157 (by decide) (by decide) (fun c157 => ?_) (fun c157 => absurd c157 (by omega))
        refine z_lload_n hO 3 dX9_likely_164 rfl ?_
        refine z_lstore hO (L' := [(8, _), (0, _), (1, _), (2, _), (3, _), (5, _)]) dX9_likely_165 (by decide) rfl ?_
        refine z_lload hO 5 dX9_likely_167 rfl ?_
        refine z_lstore hO (L' := [(10, _), (8, _), (0, _), (1, _), (2, _), (3, _), (5, _)]) dX9_likely_169 (by decide) rfl ?_
        have hgp : 0 < (Int.gcd (wOne (mv (σ 114)) (σ 114 1) v (rdN (mv (σ 114))).toNat) (wAll (mv (σ 114)) (σ 114 1) (rdN (mv (σ 114))).toNat) : Int) := by have := Int.gcd_pos_of_ne_zero_right (wOne (mv (σ 114)) (σ 114 1) v (rdN (mv (σ 114))).toNat) (show (wAll (mv (σ 114)) (σ 114 1) (rdN (mv (σ 114))).toNat) ≠ 0 by omega); omega
        have hgl : (Int.gcd (wOne (mv (σ 114)) (σ 114 1) v (rdN (mv (σ 114))).toNat) (wAll (mv (σ 114)) (σ 114 1) (rdN (mv (σ 114))).toNat) : Int) ≤ (wAll (mv (σ 114)) (σ 114 1) (rdN (mv (σ 114))).toNat) := by have := Int.le_of_dvd (show 0 < (wAll (mv (σ 114)) (σ 114 1) (rdN (mv (σ 114))).toNat) by omega) (Int.gcd_dvd_right (wOne (mv (σ 114)) (σ 114 1) v (rdN (mv (σ 114))).toNat) (wAll (mv (σ 114)) (σ 114 1) (rdN (mv (σ 114))).toNat)); exact this
        refine z_pick [2, 4, 5, 6, 1, 0] rfl (lp_gcd hO ?_ ((wAll (mv (σ 114)) (σ 114 1) (rdN (mv (σ 114))).toNat) + 1).toNat _ _ (by omega) (by omega) (by omega) (by omega) rfl)
        refine z_iload_n hO 1 dX9_likely_196 rfl ?_
        refine z_if_ne hO 204 dX9_likely_197 (by decide) (by omega) (fun c197 => ?_) (fun c197 => ?_)
        ·
          refine z_lload hO 3 dX9_likely_204 rfl ?_
          refine z_lload hO 4 dX9_likely_206 rfl ?_
          refine z_ldiv hO dX9_likely_208 (by omega) (by omega) ?_
          exact z_retL hO hR dX9_likely_209 (Or.inr ⟨by omega, by omega, by unfold likF lowT; rw [if_neg (by omega)]; first | rw [if_pos (by omega)] | rw [if_neg (by omega)], hF⟩)
        ·
          refine z_lload_n hO 2 dX9_likely_200 rfl ?_
          refine z_goto hO 206 dX9_likely_201 (by decide) ?_
          refine z_lload hO 4 dX9_likely_206 rfl ?_
          refine z_ldiv hO dX9_likely_208 (by omega) (by omega) ?_
          exact z_retL hO hR dX9_likely_209 (Or.inr ⟨by omega, by omega, by unfold likF lowT; rw [if_neg (by omega)]; first | rw [if_pos (by omega)] | rw [if_neg (by omega)], hF⟩)
      ·
        refine z_if_ne hO 164 dX9_likely_157 (by decide) (by decide) (fun c157 => absurd c157 (by omega)) (fun c157 => ?_)
        refine z_ldc2 hO k_X9_278 dX9_likely_160 ?_
        exact z_retL hO hR dX9_likely_163 (Or.inr ⟨by omega, by omega, by unfold likF; rw [if_pos (by omega)], hF⟩)
      ·
        exfalso; omega
    ·
      refine z_if_ne hO 26 dX9_likely_19 (by decide) (by decide) (fun c19 => absurd c19 (by omega)) (fun c19 => ?_)
      refine z_ldc2 hO k_X9_273 dX9_likely_22 ?_
      exact z_retL hO hR dX9_likely_25 (Or.inl ⟨by omega, rfl, rfl⟩)
  ·
    refine z_if_eq hO 22 dX9_likely_9 (by decide) (by decide) (fun c9 => ?_) (fun c9 => absurd c9 (by omega))
    refine z_ldc2 hO k_X9_273 dX9_likely_22 ?_
    exact z_retL hO hR dX9_likely_25 (Or.inl ⟨by omega, rfl, rfl⟩)
