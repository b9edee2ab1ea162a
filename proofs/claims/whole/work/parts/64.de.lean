def fWk : Nat → Int → Bool := fun c _ => decide (88 ≤ c ∧ c ≤ 96)
theorem fWk_f {c : Nat} {k : Int} (h : fWk c k = false) : c < 88 ∨ 96 < c := by unfold fWk at h; have := of_decide_eq_false h; omega
theorem Fm_entR {σ τ : Sg} {d k w : Int} (h : Fm fWk σ τ) (hw : 0 ≤ w ∧ w ≤ 31) : Fm fWk σ (entR τ d k w) := fun c e q => (entR_ne hw (by have := fWk_f q; omega)).trans (h c e q)
theorem Fm_entS {σ τ : Sg} {d k : Int} (h : Fm fWk σ τ) : Fm fWk σ (entS τ d k) := fun c e q => (entS_ne (by have := fWk_f q; omega)).trans (h c e q)
theorem Fm_finS {σ τ : Sg} {d : Int} (h : Fm fWk σ τ) : Fm fWk σ (finS τ d) := by unfold finS; exact (((h.up rfl).up rfl).up rfl).up rfl
theorem fin_8 {τ : Sg} {d : Int} : finS τ d 88 8 = τ 88 8 := by unfold finS; rw [up_nk (by decide), up_nk (by decide), up_nk (by decide), up_ne (by decide)]
theorem WD_b {V : Hv} {τ : Sg} {d : Int} (hV : WV V) (h : WD V τ d) (h0 : 0 ≤ d) (h1 : d ≤ V.1) : 0 ≤ τ 93 d ∧ (0 ≤ τ 91 d ∧ τ 91 d ≤ 999000) ∧ (0 ≤ τ 92 d ∧ τ 92 d ≤ 999) ∧ (0 ≤ τ 94 d ∧ τ 94 d ≤ 100) ∧ (0 ≤ τ 95 d ∧ τ 95 d ≤ 10000000000) := by
  obtain ⟨s, s1, s2, s3, s4⟩ := h.2 d.toNat (by omega)
  rw [show ((d.toNat : Nat) : Int) = d by omega] at s2 s3 s4
  have hp := WD_p h
  have h8 := hV.2.1
  let p : Int → Int := fun e => if 0 ≤ e ∧ e < d then trP τ e else 0
  have hpe : ∀ j : Int, 0 ≤ j → j < (d.toNat : Int) → trP τ j = p j := fun j j0 j1 => (if_pos ⟨j0, by omega⟩).symm
  have hP : WP V p := by
    intro e e0 e1
    have c := hV.2.2 e e0 e1
    show 0 ≤ (if 0 ≤ e ∧ e < d then trP τ e else 0) ∧ (if 0 ≤ e ∧ e < d then trP τ e else 0) < _
    by_cases q : 0 ≤ e ∧ e < d
    · rw [if_pos q]; exact hp e q.1 q.2
    · rw [if_neg q]; omega
  have ai := aD_AI hV hP d.toNat s (by omega) (by rw [← aD_congr _ hpe]; exact s1)
  have r1 := sumC_r hV hP d.toNat (by omega)
  have r2 := prW_r hV hP d.toNat (by omega)
  have r3 := pow10_le (m := d.toNat) (by omega)
  rw [sumC_congr _ hpe] at s3
  rw [prW_congr _ hpe] at s4
  obtain ⟨b0, b1, b2, b3, _⟩ := s2
  have := ai.r
  have := ai.1
  refine ⟨by omega, by omega, by omega, by omega, by omega⟩
theorem pf_lt {V : Hv} {p : Int → Int} (hV : WV V) (d : Nat) (hd : (d : Int) ≤ V.1) (hp : ∀ e : Int, 0 ≤ e → e < d → 0 ≤ p e ∧ p e < V.2.1 e) : 0 ≤ pf V p d ∧ pf V p d + 1 ≤ fw V d := by
  induction d with
  | zero => exact ⟨Int.le_refl 0, Int.le_refl 1⟩
  | succ d ih =>
    have a := ih (by omega) (fun e e0 e1 => hp e e0 (by omega))
    have b := hp d (by omega) (by omega)
    have c := hV.2.2 d (by omega) (by omega)
    rw [pf_s, fw_s]
    have m0 := Int.mul_nonneg a.1 (show 0 ≤ V.2.1 d by omega)
    have m1 := Int.mul_le_mul_of_nonneg_right a.2 (show 0 ≤ V.2.1 d by omega)
    rw [Int.add_mul, Int.one_mul] at m1
    omega
theorem said_n0 {V : Hv} (hV : WV V) {r : Int} (h : said V r = true) : 0 < V.1 := by
  have h0 := hV.1
  apply Classical.byContradiction; intro z
  have e : V.1.toNat = 0 := by omega
  have a := said_aD hV r
  rw [e, h, if_pos rfl] at a
  cases a
theorem T_rd {V : Hv} {τ : Sg} {r : Int} (hV : WV V) (h : WI V τ r) (hd : τ 88 8 = V.1) (hs : said V r = true) : 0 ≤ r ∧ r < rdN V := by
  have a := T_n hV h hd
  have n0 := said_n0 hV hs
  have h2 := h.2.1
  rw [hd] at h2
  have b := pf_lt (p := trP τ) hV V.1.toNat (by omega) (fun e e0 e1 => WD_p h2 e e0 (by omega))
  rw [fw_n (by omega)] at b
  unfold rdN; rw [if_neg (by omega), a.1]; omega
/-- what a step of the walk tells -/
def stQ (V : Hv) (r : Int) (b : Bool) (σ' : Sg) : Prop := (b = true → ∃ q, (r ≤ q ∧ q < rdN V) ∧ (∀ y, r ≤ y → y < q → said V y = false) ∧ said V q = true ∧ Fnd V q σ' ∧ WI V σ' (q + 1)) ∧ (b = false → ∀ y, r ≤ y → y < pq V V.1.toNat → said V y = false)

set_option maxHeartbeats 4000000 in
set_option maxRecDepth 100000 in
theorem lp_step {g : G} {x : Cx} {σ : Sg} {r : Int} (hO : Ok g x RX7 cX7_step 3 3) (hR : Rt g x (some .boolean) (pB (fun b σ' => stQ (cv σ 1) r b σ' ∧ Fm fWk σ σ'))) (hV : WV (cv σ 1)) : ∀ (f : Nat) (left : Int) (τ : Sg) (q : Int), left < f → 0 ≤ left → left ≤ 1000000 → WI (cv σ 1) τ q → Psi (cv σ 1) τ (τ 88 8) ≤ left → r ≤ q → (∀ y, r ≤ y → y < q → said (cv σ 1) y = false) → Fm fWk σ τ → Z g x 3 3 [(0, .ref (g.2.2.1 88)), (1, vI left)] [] τ := by
  have hn8 := hV.2.1
  have hn0 := hV.1
  have hn : (cv σ 1).1 = σ 1 3 := rfl
  intro f
  induction f with
  | zero => intro left τ q hl h0; exact absurd hl (by omega)
  | succ f ih =>
    intro left τ q hl h0 hl2 hW hP hrq hno hFm
    have hd1 := hW.1
    have e1 : τ 1 = σ 1 := hFm.row 1 (fun _ => rfl)
    have e2 : τ 2 = σ 2 := hFm.row 2 (fun _ => rfl)
    have e3 : τ 3 = σ 3 := hFm.row 3 (fun _ => rfl)
    have e4 : τ 4 = σ 4 := hFm.row 4 (fun _ => rfl)
    have hfin : τ 88 8 < 0 → ∀ y, r ≤ y → y < pq (cv σ 1) (cv σ 1).1.toNat → said (cv σ 1) y = false := fun hd y y0 y1 => hno y y0 (by rw [hW.2.2.2]; unfold psn; rw [if_pos hd]; exact y1)
    refine z_iload_n hO 1 dX7_step_3 rfl ?_
    refine z_if_le hO 153 dX7_step_4 (by decide) (by omega) (fun c4 => ?_) (fun c4 => ?_)
    ·
      refine z_iconst hO dX7_step_153 ?_
      exact z_retF hO hR dX7_step_154 (⟨⟨fun z => absurd z (by decide), fun _ => hfin (by first | exact c11 | (apply Classical.byContradiction; intro z; have := Psi_1 hV hW (by omega); omega))⟩, hFm⟩)
    ·
      refine z_aload_n hO 0 dX7_step_7 rfl ?_
      refine z_getI hO 8 fl_X7_41 rfl rfl rfl dX7_step_8 (fun r8 => ?_)
      try simp (disch := omega) only [fl_row_ne, fl_ne, up_row_ne, up_ne, up_eq, up_nk, up_up, up_self, ne_eq, Nat.reduceEqDiff, Int.reduceEq, reduceCtorEq, not_false_eq_true, not_true_eq_false, e1, e2, e3, e4] at r8 ⊢
      refine z_if_lt hO 153 dX7_step_11 (by decide) (by omega) (fun c11 => ?_) (fun c11 => ?_)
      ·
        refine z_iconst hO dX7_step_153 ?_
        exact z_retF hO hR dX7_step_154 (⟨⟨fun z => absurd z (by decide), fun _ => hfin (by first | exact c11 | (apply Classical.byContradiction; intro z; have := Psi_1 hV hW (by omega); omega))⟩, hFm⟩)
      ·
        refine z_aload_n hO 0 dX7_step_14 rfl ?_
        refine z_getI hO 8 fl_X7_41 rfl rfl rfl dX7_step_15 (fun r15 => ?_)
        try simp (disch := omega) only [fl_row_ne, fl_ne, up_row_ne, up_ne, up_eq, up_nk, up_up, up_self, ne_eq, Nat.reduceEqDiff, Int.reduceEq, reduceCtorEq, not_false_eq_true, not_true_eq_false, e1, e2, e3, e4] at r15 ⊢
        refine z_aload_n hO 0 dX7_step_18 rfl ?_
        refine z_getR hO (1) fl_X7_37 rfl rfl dX7_step_19 ?_
        refine z_getI hO 3 fl_X7_46 rfl rfl rfl dX7_step_22 (fun r22 => ?_)
        try simp (disch := omega) only [fl_row_ne, fl_ne, up_row_ne, up_ne, up_eq, up_nk, up_up, up_self, ne_eq, Nat.reduceEqDiff, Int.reduceEq, reduceCtorEq, not_false_eq_true, not_true_eq_false, e1, e2, e3, e4] at r22 ⊢
        refine z_icmp_lt hO 56 dX7_step_25 (by decide) (by omega) (by omega) (fun c25 => ?_) (fun c25 => ?_)
        ·
          have hb := WD_b hV hW.2.1 (by omega) (by omega)
          have hV5 := hV.2.2 (τ 88 8) (by omega) (by omega)
          have hc5 := hW.2.2.1 (by omega) (by omega)
          rw [show (cv σ 1).2.1 (τ 88 8) = σ 2 (τ 88 8) from rfl] at hV5 hc5
          refine z_aload_n hO 0 dX7_step_56 rfl ?_
          refine z_getR hO (89) fl_X7_9 rfl rfl dX7_step_57 ?_
          refine z_aload_n hO 0 dX7_step_60 rfl ?_
          refine z_getI hO 8 fl_X7_41 rfl rfl rfl dX7_step_61 (fun r61 => ?_)
          try simp (disch := omega) only [fl_row_ne, fl_ne, up_row_ne, up_ne, up_eq, up_nk, up_up, up_self, ne_eq, Nat.reduceEqDiff, Int.reduceEq, reduceCtorEq, not_false_eq_true, not_true_eq_false, e1, e2, e3, e4] at r61 ⊢
          refine z_iald hO rfl (by omega) (by decide) dX7_step_64 (fun r64 => ?_)
          try simp (disch := omega) only [fl_row_ne, fl_ne, up_row_ne, up_ne, up_eq, up_nk, up_up, up_self, ne_eq, Nat.reduceEqDiff, Int.reduceEq, reduceCtorEq, not_false_eq_true, not_true_eq_false, e1, e2, e3, e4] at r64 ⊢
          refine z_aload_n hO 0 dX7_step_65 rfl ?_
          refine z_getR hO (1) fl_X7_37 rfl rfl dX7_step_66 ?_
          refine z_getR hO (2) fl_X7_55 rfl rfl dX7_step_69 ?_
          refine z_aload_n hO 0 dX7_step_72 rfl ?_
          refine z_getI hO 8 fl_X7_41 rfl rfl rfl dX7_step_73 (fun r73 => ?_)
          try simp (disch := omega) only [fl_row_ne, fl_ne, up_row_ne, up_ne, up_eq, up_nk, up_up, up_self, ne_eq, Nat.reduceEqDiff, Int.reduceEq, reduceCtorEq, not_false_eq_true, not_true_eq_false, e1, e2, e3, e4] at r73 ⊢
          refine z_iald hO rfl (by omega) (by decide) dX7_step_76 (fun r76 => ?_)
          try simp (disch := omega) only [fl_row_ne, fl_ne, up_row_ne, up_ne, up_eq, up_nk, up_up, up_self, ne_eq, Nat.reduceEqDiff, Int.reduceEq, reduceCtorEq, not_false_eq_true, not_true_eq_false, e1, e2, e3, e4] at r76 ⊢
          refine z_icmp_lt hO 93 dX7_step_77 (by decide) (by omega) (by omega) (fun c77 => ?_) (fun c77 => ?_)
          ·
            have hcc : τ 89 (τ 88 8) < (cv σ 1).2.1 (τ 88 8) := c77
            have hw5 := hV5.2.2 (τ 89 (τ 88 8)) hc5.1 hcc
            have ew : up τ 89 (τ 88 8) (τ 89 (τ 88 8) + 1) 3 (τ 88 8 * 4 + τ 89 (τ 88 8)) = (cv σ 1).2.2.1 (τ 88 8) (τ 89 (τ 88 8)) := by rw [up_ne (by decide), e3]; rfl
            have eq5 : up τ 89 (τ 88 8) (τ 89 (τ 88 8) + 1) 4 (τ 88 8 * 4 + τ 89 (τ 88 8)) = (cv σ 1).2.2.2 (τ 88 8) (τ 89 (τ 88 8)) := by rw [up_ne (by decide), e4]; rfl
            have eq6 : τ 4 (τ 88 8 * 4 + τ 89 (τ 88 8)) = (cv σ 1).2.2.2 (τ 88 8) (τ 89 (τ 88 8)) := by rw [e4]; rfl
            have z91 : up τ 89 (τ 88 8) (τ 89 (τ 88 8) + 1) 91 (τ 88 8) = τ 91 (τ 88 8) := up_ne (by decide)
            have z92 : up τ 89 (τ 88 8) (τ 89 (τ 88 8) + 1) 92 (τ 88 8) = τ 92 (τ 88 8) := up_ne (by decide)
            have z93 : up τ 89 (τ 88 8) (τ 89 (τ 88 8) + 1) 93 (τ 88 8) = τ 93 (τ 88 8) := up_ne (by decide)
            have z94 : up τ 89 (τ 88 8) (τ 89 (τ 88 8) + 1) 94 (τ 88 8) = τ 94 (τ 88 8) := up_ne (by decide)
            have z95 : up τ 89 (τ 88 8) (τ 89 (τ 88 8) + 1) 95 (τ 88 8) = τ 95 (τ 88 8) := up_ne (by decide)
            refine z_aload_n hO 0 dX7_step_93 rfl ?_
            refine z_getR hO (89) fl_X7_9 rfl rfl dX7_step_94 ?_
            refine z_aload_n hO 0 dX7_step_97 rfl ?_
            refine z_getI hO 8 fl_X7_41 rfl rfl rfl dX7_step_98 (fun r98 => ?_)
            try simp (disch := omega) only [fl_row_ne, fl_ne, up_row_ne, up_ne, up_eq, up_nk, up_up, up_self, ne_eq, Nat.reduceEqDiff, Int.reduceEq, reduceCtorEq, not_false_eq_true, not_true_eq_false, e1, e2, e3, e4] at r98 ⊢
            refine z_iald hO rfl (by omega) (by decide) dX7_step_101 (fun r101 => ?_)
            try simp (disch := omega) only [fl_row_ne, fl_ne, up_row_ne, up_ne, up_eq, up_nk, up_up, up_self, ne_eq, Nat.reduceEqDiff, Int.reduceEq, reduceCtorEq, not_false_eq_true, not_true_eq_false, e1, e2, e3, e4] at r101 ⊢
            refine z_istore_n hO (L' := [(2, _), (0, _), (1, _)]) dX7_step_102 (by decide) rfl ?_
            refine z_aload_n hO 1 dX7_step_103 rfl ?_
            refine z_getR hO (89) fl_X7_9 rfl rfl dX7_step_104 ?_
            refine z_aload_n hO 1 dX7_step_107 rfl ?_
            refine z_getI hO 8 fl_X7_41 rfl rfl rfl dX7_step_108 (fun r108 => ?_)
            try simp (disch := omega) only [fl_row_ne, fl_ne, up_row_ne, up_ne, up_eq, up_nk, up_up, up_self, ne_eq, Nat.reduceEqDiff, Int.reduceEq, reduceCtorEq, not_false_eq_true, not_true_eq_false, e1, e2, e3, e4] at r108 ⊢
            refine z_iload_n hO 0 dX7_step_111 rfl ?_
            refine z_iconst hO dX7_step_112 ?_
            refine z_iadd hO dX7_step_113 ?_
            refine z_iast hO rfl (by omega) (by decide) (by omega) dX7_step_114 ?_
            refine z_aload_n hO 1 dX7_step_115 rfl ?_
            refine z_aload_n hO 1 dX7_step_116 rfl ?_
            refine z_getI hO 8 fl_X7_41 rfl rfl rfl dX7_step_117 (fun r117 => ?_)
            try simp (disch := omega) only [fl_row_ne, fl_ne, up_row_ne, up_ne, up_eq, up_nk, up_up, up_self, ne_eq, Nat.reduceEqDiff, Int.reduceEq, reduceCtorEq, not_false_eq_true, not_true_eq_false, e1, e2, e3, e4] at r117 ⊢
            refine z_iload_n hO 0 dX7_step_120 rfl ?_
            refine z_cvB hO (t_X7_enter (by omega) (by omega) (by rw [ew]; omega) (by rw [eq5]; omega) (by rw [z93]; exact hb.1) (by rw [z91]; exact hb.2.1) (by rw [z92]; exact hb.2.2.1) (by rw [z94]; exact hb.2.2.2.1) (by rw [z95]; exact hb.2.2.2.2)) cv_X7_58 rfl rfl rfl rfl (by decide) (Nat.le_of_ble_eq_true rfl) dX7_step_121 (fun s121 p121 => ?_) (fun s121 p121 => ?_)
            ·
              rw [ew] at p121
              obtain ⟨k121, e121⟩ := p121.1 rfl
              subst e121
              have hT := T_ent hV hW (by omega) (by omega) hcc eq6 k121
              have hW2 := hT.1
              have x8 : entR (up τ 89 (τ 88 8) (τ 89 (τ 88 8) + 1)) (τ 88 8) (τ 89 (τ 88 8)) ((cv σ 1).2.2.1 (τ 88 8) (τ 89 (τ 88 8))) 88 8 = τ 88 8 := by rw [entR_ne (by omega) (by omega), up_ne (by decide)]
              have hP2 : Psi (cv σ 1) (up (up (entR (up τ 89 (τ 88 8) (τ 89 (τ 88 8) + 1)) (τ 88 8) (τ 89 (τ 88 8)) ((cv σ 1).2.2.1 (τ 88 8) (τ 89 (τ 88 8)))) 88 8 (τ 88 8 + 1)) 89 (τ 88 8 + 1) 0) (up (up (entR (up τ 89 (τ 88 8) (τ 89 (τ 88 8) + 1)) (τ 88 8) (τ 89 (τ 88 8)) ((cv σ 1).2.2.1 (τ 88 8) (τ 89 (τ 88 8)))) 88 8 (τ 88 8 + 1)) 89 (τ 88 8 + 1) 0 88 8) + 1 ≤ Psi (cv σ 1) τ (τ 88 8) := by rw [up_ne (by decide), up_eq]; exact hT.2
              have hq2 : q ≤ q := by omega
              have hno2 := hno
              have hF2 : Fm fWk σ (up (up (entR (up τ 89 (τ 88 8) (τ 89 (τ 88 8) + 1)) (τ 88 8) (τ 89 (τ 88 8)) ((cv σ 1).2.2.1 (τ 88 8) (τ 89 (τ 88 8)))) 88 8 (τ 88 8 + 1)) 89 (τ 88 8 + 1) 0) := ((Fm_entR (hFm.up rfl) (by omega)).up rfl).up rfl
              refine z_if_eq hO 147 dX7_step_124 (by decide) (by decide) (fun c124 => absurd c124 (by omega)) (fun c124 => ?_)
              refine z_aload_n hO 1 dX7_step_127 rfl ?_
              refine z_dup hO dX7_step_128 rfl ?_
              refine z_getI hO 8 fl_X7_41 rfl rfl rfl dX7_step_129 (fun r129 => ?_)
              try simp (disch := omega) only [fl_row_ne, fl_ne, up_row_ne, up_ne, up_eq, up_nk, up_up, up_self, ne_eq, Nat.reduceEqDiff, Int.reduceEq, reduceCtorEq, not_false_eq_true, not_true_eq_false, e1, e2, e3, e4, x8] at r129 ⊢
              refine z_iconst hO dX7_step_132 ?_
              refine z_iadd hO dX7_step_133 ?_
              refine z_putI hO 8 fp_X7_41 rfl rfl rfl (by omega) rfl rfl dX7_step_134 ?_
              refine z_aload_n hO 1 dX7_step_137 rfl ?_
              refine z_getR hO (89) fl_X7_9 rfl rfl dX7_step_138 ?_
              refine z_aload_n hO 1 dX7_step_141 rfl ?_
              refine z_getI hO 8 fl_X7_41 rfl rfl rfl dX7_step_142 (fun r142 => ?_)
              try simp (disch := omega) only [fl_row_ne, fl_ne, up_row_ne, up_ne, up_eq, up_nk, up_up, up_self, ne_eq, Nat.reduceEqDiff, Int.reduceEq, reduceCtorEq, not_false_eq_true, not_true_eq_false, e1, e2, e3, e4, x8] at r142 ⊢
              refine z_iconst hO dX7_step_145 ?_
              refine z_iast hO rfl (by omega) (by decide) (by omega) dX7_step_146 ?_
              refine z_iinc hO (L' := [(1, _), (2, _), (0, _)]) 2 dX7_step_147 rfl (by decide) rfl ?_
              refine z_goto hO 3 dX7_step_150 (by decide) ?_
              exact z_pick [2, 0] rfl (ih _ _ _ (by omega) (by omega) (by omega) hW2 (by omega) (by omega) hno2 hF2)
            ·
              rw [ew] at p121
              obtain ⟨k121, e121⟩ := p121.2 rfl
              subst e121
              have hT := T_enf hV hW (by omega) (by omega) hcc k121
              have hW2 := hT.1
              have x8 : entS (up τ 89 (τ 88 8) (τ 89 (τ 88 8) + 1)) (τ 88 8) (τ 89 (τ 88 8)) 88 8 = τ 88 8 := by rw [entS_ne (by omega), up_ne (by decide)]
              have hP2 : Psi (cv σ 1) (entS (up τ 89 (τ 88 8) (τ 89 (τ 88 8) + 1)) (τ 88 8) (τ 89 (τ 88 8))) (entS (up τ 89 (τ 88 8) (τ 89 (τ 88 8) + 1)) (τ 88 8) (τ 89 (τ 88 8)) 88 8) + 1 ≤ Psi (cv σ 1) τ (τ 88 8) := by rw [x8]; exact hT.2.2.2
              have hq2 : q ≤ q + pq (cv σ 1) ((cv σ 1).1 - 1 - τ 88 8).toNat := by have := hT.2.1; omega
              have hno2 : ∀ y, r ≤ y → y < q + pq (cv σ 1) ((cv σ 1).1 - 1 - τ 88 8).toNat → said (cv σ 1) y = false := fun y y0 y1 => by by_cases z : y < q; (exact hno y y0 z); exact hT.2.2.1 y (by omega) y1
              have hF2 : Fm fWk σ (entS (up τ 89 (τ 88 8) (τ 89 (τ 88 8) + 1)) (τ 88 8) (τ 89 (τ 88 8))) := Fm_entS (hFm.up rfl)
              refine z_if_eq hO 147 dX7_step_124 (by decide) (by decide) (fun c124 => ?_) (fun c124 => absurd c124 (by omega))
              refine z_iinc hO (L' := [(1, _), (2, _), (0, _)]) 2 dX7_step_147 rfl (by decide) rfl ?_
              refine z_goto hO 3 dX7_step_150 (by decide) ?_
              exact z_pick [2, 0] rfl (ih _ _ _ (by omega) (by omega) (by omega) hW2 (by omega) (by omega) hno2 hF2)
          ·
            have hT := T_pop hV hW (by omega) (by omega) c77
            have hW2 := hT.1
            have hP2 : Psi (cv σ 1) (up τ 88 8 (τ 88 8 - 1)) (up τ 88 8 (τ 88 8 - 1) 88 8) + 1 ≤ Psi (cv σ 1) τ (τ 88 8) := by rw [up_eq]; exact hT.2
            have hq2 : q ≤ q := by omega
            have hno2 := hno
            have hF2 : Fm fWk σ (up τ 88 8 (τ 88 8 - 1)) := hFm.up rfl
            refine z_aload_n hO 0 dX7_step_80 rfl ?_
            refine z_dup hO dX7_step_81 rfl ?_
            refine z_getI hO 8 fl_X7_41 rfl rfl rfl dX7_step_82 (fun r82 => ?_)
            try simp (disch := omega) only [fl_row_ne, fl_ne, up_row_ne, up_ne, up_eq, up_nk, up_up, up_self, ne_eq, Nat.reduceEqDiff, Int.reduceEq, reduceCtorEq, not_false_eq_true, not_true_eq_false, e1, e2, e3, e4] at r82 ⊢
            refine z_iconst hO dX7_step_85 ?_
            refine z_isub hO dX7_step_86 ?_
            refine z_putI hO 8 fp_X7_41 rfl rfl rfl (by omega) rfl rfl dX7_step_87 ?_
            refine z_goto hO 147 dX7_step_90 (by decide) ?_
            refine z_iinc hO (L' := [(1, _), (0, _)]) 1 dX7_step_147 rfl (by decide) rfl ?_
            refine z_goto hO 3 dX7_step_150 (by decide) ?_
            exact z_pick [1, 0] rfl (ih _ _ _ (by omega) (by omega) (by omega) hW2 (by omega) (by omega) hno2 hF2)
        ·
          have hd : τ 88 8 = (cv σ 1).1 := by omega
          have hb := WD_b hV hW.2.1 (by omega) (by omega)
          refine z_aload_n hO 0 dX7_step_28 rfl ?_
          refine z_aload_n hO 0 dX7_step_29 rfl ?_
          refine z_getI hO 8 fl_X7_41 rfl rfl rfl dX7_step_30 (fun r30 => ?_)
          try simp (disch := omega) only [fl_row_ne, fl_ne, up_row_ne, up_ne, up_eq, up_nk, up_up, up_self, ne_eq, Nat.reduceEqDiff, Int.reduceEq, reduceCtorEq, not_false_eq_true, not_true_eq_false, e1, e2, e3, e4] at r30 ⊢
          refine z_cvB hO (t_X7_finish (by omega) hb.1 hb.2.1 hb.2.2.1) cv_X7_51 rfl rfl rfl rfl (by decide) (Nat.le_of_ble_eq_true rfl) dX7_step_33 (fun s33 p33 => ?_) (fun s33 p33 => ?_)
          ·
            obtain ⟨k33, e33⟩ := p33.1 rfl
            subst e33
            have hT := T_fin hV hW hd k33
            have hr5 := T_rd hV hW hd hT.1
            refine z_istore_n hO (L' := [(2, _), (0, _), (1, _)]) dX7_step_36 (by decide) rfl ?_
            refine z_aload_n hO 1 dX7_step_37 rfl ?_
            refine z_dup hO dX7_step_38 rfl ?_
            refine z_getI hO 8 fl_X7_41 rfl rfl rfl dX7_step_39 (fun r39 => ?_)
            try simp (disch := omega) only [fl_row_ne, fl_ne, up_row_ne, up_ne, up_eq, up_nk, up_up, up_self, ne_eq, Nat.reduceEqDiff, Int.reduceEq, reduceCtorEq, not_false_eq_true, not_true_eq_false, e1, e2, e3, e4, fin_8] at r39 ⊢
            refine z_iconst hO dX7_step_42 ?_
            refine z_isub hO dX7_step_43 ?_
            refine z_putI hO 8 fp_X7_41 rfl rfl rfl (by omega) rfl rfl dX7_step_44 ?_
            refine z_iload_n hO 0 dX7_step_47 rfl ?_
            refine z_if_eq hO 53 dX7_step_48 (by decide) (by decide) (fun c48 => absurd c48 (by omega)) (fun c48 => ?_)
            refine z_iconst hO dX7_step_51 ?_
            exact z_retT hO hR dX7_step_52 (⟨⟨fun _ => ⟨q, ⟨hrq, hr5.2⟩, hno, hT.1, hT.2.1, hT.2.2⟩, fun z => absurd z (by decide)⟩, (Fm_finS hFm).up rfl⟩)
          ·
            obtain ⟨k33, e33⟩ := p33.2 rfl
            rw [e33]
            have hT := T_nof hV hW hd k33
            have hW2 := hT.2.1
            have hP2 : Psi (cv σ 1) (up τ 88 8 (τ 88 8 - 1)) (up τ 88 8 (τ 88 8 - 1) 88 8) + 1 ≤ Psi (cv σ 1) τ (τ 88 8) := by rw [up_eq]; exact hT.2.2
            have hq2 : q ≤ q + 1 := by omega
            have hno2 : ∀ y, r ≤ y → y < q + 1 → said (cv σ 1) y = false := fun y y0 y1 => by by_cases z : y = q; (subst z; exact hT.1); exact hno y y0 (by omega)
            have hF2 : Fm fWk σ (up τ 88 8 (τ 88 8 - 1)) := hFm.up rfl
            refine z_istore_n hO (L' := [(2, _), (0, _), (1, _)]) dX7_step_36 (by decide) rfl ?_
            refine z_aload_n hO 1 dX7_step_37 rfl ?_
            refine z_dup hO dX7_step_38 rfl ?_
            refine z_getI hO 8 fl_X7_41 rfl rfl rfl dX7_step_39 (fun r39 => ?_)
            try simp (disch := omega) only [fl_row_ne, fl_ne, up_row_ne, up_ne, up_eq, up_nk, up_up, up_self, ne_eq, Nat.reduceEqDiff, Int.reduceEq, reduceCtorEq, not_false_eq_true, not_true_eq_false, e1, e2, e3, e4] at r39 ⊢
            refine z_iconst hO dX7_step_42 ?_
            refine z_isub hO dX7_step_43 ?_
            refine z_putI hO 8 fp_X7_41 rfl rfl rfl (by omega) rfl rfl dX7_step_44 ?_
            refine z_iload_n hO 0 dX7_step_47 rfl ?_
            refine z_if_eq hO 53 dX7_step_48 (by decide) (by decide) (fun c48 => ?_) (fun c48 => absurd c48 (by omega))
            refine z_goto hO 147 dX7_step_53 (by decide) ?_
            refine z_iinc hO (L' := [(1, _), (2, _), (0, _)]) 2 dX7_step_147 rfl (by decide) rfl ?_
            refine z_goto hO 3 dX7_step_150 (by decide) ?_
            exact z_pick [2, 0] rfl (ih _ _ _ (by omega) (by omega) (by omega) hW2 (by omega) (by omega) hno2 hF2)

set_option maxHeartbeats 4000000 in
set_option maxRecDepth 100000 in
theorem t_X7_step {g : G} {σ : Sg} {r : Int} (hV : WV (cv σ 1)) (hW : WI (cv σ 1) σ r) : MM g mX7_step [.ref (g.2.2.1 88)] σ (pB (fun b σ' => stQ (cv σ 1) r b σ' ∧ Fm fWk σ σ')) := by
  refine mm_of rfl (by decide) rfl rfl (Nat.le_of_ble_eq_true rfl) (fun x hO hR => ?_)
  refine z_ldc hO k_X7_45 dX7_step_0 ?_
  refine z_istore_n hO (L' := [(1, _), (0, _)]) dX7_step_2 (by decide) rfl ?_
  exact z_pick [1, 0] rfl (lp_step hO hR hV 1000001 1000000 σ r (by omega) (by omega) (by omega) hW (by have := Psi_le hV hW; omega) (Int.le_refl r) (fun y y0 y1 => absurd y1 (by omega)) Fm.rf)
