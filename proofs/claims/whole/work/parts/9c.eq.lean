theorem po_t {p : Nat → Bool} {t : Nat} (h : p t = true) : Int64.ofInt ((setF p t : Nat) : Int) ||| Int64.ofInt ((2 ^ t : Nat) : Int) = Int64.ofInt ((setF p (t + 1) : Nat) : Int) := by rw [bl_or, bl_addbit (setF_lt p t), setF_s, if_pos h]
theorem po_f {p : Nat → Bool} {t : Nat} (h : p t = false) : Int64.ofInt ((setF p t : Nat) : Int) ||| Int64.ofInt 0 = Int64.ofInt ((setF p (t + 1) : Nat) : Int) := by
  have e : Int64.ofInt 0 = Int64.ofInt ((0 : Nat) : Int) := rfl
  rw [setF_s, if_neg (by rw [h]; decide), Nat.add_zero, e, bl_or, Nat.or_zero]

set_option maxHeartbeats 4000000 in
set_option maxRecDepth 100000 in
theorem lp_partOf {g : G} {x : Cx} {σ : Sg} {c : Nat → Nat} {s m : Nat} {sl wd : Int} (hO : Ok g x RX9 cX9_partOf 9 10) (hR : Rt g x (some .long) (pL (fun r σ' => r = ((setF (fun t => s.testBit t && decide ((mv (σ 114)).2.2.1 sl (pk (mv (σ 114)) (c t) sl) = wd)) m : Nat) : Int) ∧ Fm fTk σ σ'))) (hV : WV (mv (σ 114))) (hm : σ 113 15 = (m : Int)) (h60 : m ≤ 60) (hs : s < 2 ^ m) (hc : lsQ (mv (σ 114)) c m σ) (hsl : 0 ≤ sl ∧ sl < σ 114 0) (hw : 0 ≤ wd ∧ wd ≤ 31) : ∀ (f t : Nat) (τ : Sg), t ≤ m → m - t < f → Fm fTk σ τ → Z g x 9 6 [(0, .ref (g.2.2.1 113)), (1, vL (s : Int)), (3, vI sl), (4, vI wd), (5, vL ((setF (fun t => s.testBit t && decide ((mv (σ 114)).2.2.1 sl (pk (mv (σ 114)) (c t) sl) = wd)) t : Nat) : Int)), (7, vI t)] [] τ := by
  intro f
  induction f with
  | zero => intro t τ h0 hk; exact absurd hk (by omega)
  | succ f ih =>
    intro t τ ht hf hFm
    have e114 : τ 114 = σ 114 := hFm.row 114 (fun _ => rfl)
    have e120 : τ 120 = σ 120 := hFm.row 120 (fun _ => rfl)
    have e15 : τ 113 15 = (m : Int) := (hFm 113 15 rfl).trans hm
    refine z_iload hO 5 dX9_partOf_6 rfl ?_
    refine z_aload_n hO 0 dX9_partOf_8 rfl ?_
    refine z_getI hO 15 fl_X9_157 rfl rfl rfl dX9_partOf_9 (fun r9 => ?_)
    try simp (disch := omega) only [fl_row_ne, fl_ne, up_row_ne, up_ne, up_eq, up_nk, up_up, up_self, ne_eq, Nat.reduceEqDiff, Int.reduceEq, reduceCtorEq, not_false_eq_true, not_true_eq_false, e15, e120] at r9 ⊢
    refine z_icmp_ge hO 95 dX9_partOf_12 (by decide) (by omega) (by omega) (fun c12 => ?_) (fun c12 => ?_)
    ·
      have htm : t = m := by omega
      subst htm
      refine z_lload hO 4 dX9_partOf_95 rfl ?_
      exact z_retL hO hR dX9_partOf_97 (⟨rfl, hFm⟩)
    ·
      obtain ⟨hc1, hc2, hc3⟩ := hc t (by omega)
      have hte := Nat.testBit_eq_decide_div_mod_eq (x := s) (i := t)
      have hrd := rdN_r hV
      have hsl2 := pow60 hs h60
      have hlt := setF_lt (fun t => s.testBit t && decide ((mv (σ 114)).2.2.1 sl (pk (mv (σ 114)) (c t) sl) = wd)) t
      have hps := setF_s (fun t => s.testBit t && decide ((mv (σ 114)).2.2.1 sl (pk (mv (σ 114)) (c t) sl) = wd)) t
      refine z_lload_n hO 1 dX9_partOf_15 rfl ?_
      refine z_iload hO 5 dX9_partOf_16 rfl ?_
      refine z_lshr hO (((s / 2 ^ t : Nat) : Int)) dX9_partOf_18 (bl_shr (by omega) (by omega)) ?_
      refine z_lconst hO 1 dX9_partOf_19 (by decide) ?_
      refine z_land hO (((s / 2 ^ t % 2 : Nat) : Int)) dX9_partOf_20 (by rw [show ((1 : Int)) = ((1 : Nat) : Int) from rfl, bl_and, Nat.and_one_is_mod]) ?_
      refine z_lconst hO 1 dX9_partOf_21 (by decide) ?_
      refine z_lcmp hO dX9_partOf_22 (by omega) (by omega) (fun c22 => ?_) (fun c22 => ?_) (fun c22 => ?_)
      ·
        exfalso; omega
      ·
        refine z_if_ne hO 44 dX9_partOf_23 (by decide) (by decide) (fun c23 => absurd c23 (by omega)) (fun c23 => ?_)
        refine z_aload_n hO 0 dX9_partOf_26 rfl ?_
        refine z_aload_n hO 0 dX9_partOf_27 rfl ?_
        refine z_getR hO (120) fl_X9_28 rfl rfl dX9_partOf_28 ?_
        refine z_iload hO 5 dX9_partOf_31 rfl ?_
        refine z_iald hO rfl (by omega) (by decide) dX9_partOf_33 (fun r33 => ?_)
        try simp (disch := omega) only [fl_row_ne, fl_ne, up_row_ne, up_ne, up_eq, up_nk, up_up, up_self, ne_eq, Nat.reduceEqDiff, Int.reduceEq, reduceCtorEq, not_false_eq_true, not_true_eq_false, e15, e120] at r33 ⊢
        rw [hc1] at r33 ⊢
        refine z_cvB hO (t_X9_takes (r := (c t : Int)) (by rw [e114]; exact hV) (by omega)) cv_X9_144 rfl rfl rfl rfl (by decide) (Nat.le_of_ble_eq_true rfl) dX9_partOf_34 (fun s34 p34 => ?_) (fun s34 p34 => ?_)
        ·
          rw [e114] at p34
          have q115 := p34.2.1 sl hsl.1 (by (try rw [e114]); exact hsl.2)
          have q114 : s34 114 = σ 114 := (p34.2.2.row 114 (fun _ => rfl)).trans e114
          have hF2 : Fm fTk σ s34 := hFm.trans p34.2.2
          have hpk := pk_WP hV (c t) sl hsl.1 hsl.2
          have hcc := (hV.2.2 sl hsl.1 hsl.2).2.1
          have hww := (hV.2.2 sl hsl.1 hsl.2).2.2 _ hpk.1 hpk.2
          have hn8 := hV.2.1
          rw [mv_n] at hn8
          have hbit : s.testBit t = true := by rw [hte]; exact decide_eq_true (by omega)
          rw [mv_w, mv_q] at hww
          refine z_if_eq hO 44 dX9_partOf_37 (by decide) (by decide) (fun c37 => absurd c37 (by omega)) (fun c37 => ?_)
          refine z_iconst hO dX9_partOf_40 ?_
          refine z_goto hO 45 dX9_partOf_41 (by decide) ?_
          refine z_istore hO (L' := [(8, _), (0, _), (1, _), (3, _), (4, _), (5, _), (7, _)]) dX9_partOf_45 (by decide) rfl ?_
          refine z_lload hO 5 dX9_partOf_47 rfl ?_
          refine z_iload hO 0 dX9_partOf_49 rfl ?_
          refine z_if_eq hO 85 dX9_partOf_51 (by decide) (by decide) (fun c51 => absurd c51 (by omega)) (fun c51 => ?_)
          refine z_aload_n hO 1 dX9_partOf_54 rfl ?_
          refine z_getR hO (114) fl_X9_7 rfl rfl dX9_partOf_55 ?_
          refine z_aload_n hO 1 dX9_partOf_58 rfl ?_
          refine z_iload_n hO 3 dX9_partOf_59 rfl ?_
          refine z_cvE hO (t_X9_at) cv_X9_79 rfl rfl rfl rfl (by decide) (Nat.le_of_ble_eq_true rfl) dX9_partOf_60 ?_
          try simp (disch := omega) only [fl_row_ne, fl_ne, up_row_ne, up_ne, up_eq, up_nk, up_up, up_self, ne_eq, Nat.reduceEqDiff, Int.reduceEq, reduceCtorEq, not_false_eq_true, not_true_eq_false, e15, e120, q114, q115]
          refine z_iconst hO dX9_partOf_63 ?_
          refine z_iadd hO dX9_partOf_64 ?_
          refine z_aload_n hO 1 dX9_partOf_65 rfl ?_
          refine z_getR hO (115) fl_X9_13 rfl rfl dX9_partOf_66 ?_
          refine z_iload_n hO 3 dX9_partOf_69 rfl ?_
          refine z_iald hO rfl (by omega) (by decide) dX9_partOf_70 (fun r70 => ?_)
          try simp (disch := omega) only [fl_row_ne, fl_ne, up_row_ne, up_ne, up_eq, up_nk, up_up, up_self, ne_eq, Nat.reduceEqDiff, Int.reduceEq, reduceCtorEq, not_false_eq_true, not_true_eq_false, e15, e120, q114, q115] at r70 ⊢
          refine z_iadd hO dX9_partOf_71 ?_
          refine z_iald hO rfl (by omega) (by decide) dX9_partOf_72 (fun r72 => ?_)
          try simp (disch := omega) only [fl_row_ne, fl_ne, up_row_ne, up_ne, up_eq, up_nk, up_up, up_self, ne_eq, Nat.reduceEqDiff, Int.reduceEq, reduceCtorEq, not_false_eq_true, not_true_eq_false, e15, e120, q114, q115] at r72 ⊢
          refine z_iload hO 4 dX9_partOf_73 rfl ?_
          refine z_icmp_ne hO 85 dX9_partOf_75 (by decide) (by omega) (by omega) (fun c75 => ?_) (fun c75 => ?_)
          ·
            have hpf : (fun t => s.testBit t && decide ((mv (σ 114)).2.2.1 sl (pk (mv (σ 114)) (c t) sl) = wd)) t = false := by show (s.testBit t && decide _) = false; rw [hbit, Bool.true_and]; exact decide_eq_false c75
            refine z_lconst hO 0 dX9_partOf_85 (by decide) ?_
            refine z_lor hO (((setF (fun t => s.testBit t && decide ((mv (σ 114)).2.2.1 sl (pk (mv (σ 114)) (c t) sl) = wd)) (t + 1) : Nat) : Int)) dX9_partOf_86 (by first | exact po_t hpf | exact po_f hpf) ?_
            refine z_lstore hO (L' := [(5, _), (8, _), (0, _), (1, _), (3, _), (4, _), (7, _)]) dX9_partOf_87 (by decide) rfl ?_
            refine z_iinc hO (L' := [(7, _), (5, _), (8, _), (0, _), (1, _), (3, _), (4, _)]) 6 dX9_partOf_89 rfl (by decide) rfl ?_
            refine z_goto hO 6 dX9_partOf_92 (by decide) ?_
            first | exact z_pick [3, 4, 5, 6, 1, 0] rfl (ih (t + 1) s34 (by omega) (by omega) hF2) | exact z_pick [3, 4, 5, 6, 1, 0] rfl (ih (t + 1) τ (by omega) (by omega) hFm)
          ·
            have hpf : (fun t => s.testBit t && decide ((mv (σ 114)).2.2.1 sl (pk (mv (σ 114)) (c t) sl) = wd)) t = true := by show (s.testBit t && decide _) = true; rw [hbit, Bool.true_and]; exact decide_eq_true c75
            refine z_lconst hO 1 dX9_partOf_78 (by decide) ?_
            refine z_iload hO 6 dX9_partOf_79 rfl ?_
            refine z_lshl hO (((2 ^ t : Nat) : Int)) dX9_partOf_81 (bl_shl1 t (by omega)) ?_
            refine z_goto hO 86 dX9_partOf_82 (by decide) ?_
            refine z_lor hO (((setF (fun t => s.testBit t && decide ((mv (σ 114)).2.2.1 sl (pk (mv (σ 114)) (c t) sl) = wd)) (t + 1) : Nat) : Int)) dX9_partOf_86 (by first | exact po_t hpf | exact po_f hpf) ?_
            refine z_lstore hO (L' := [(5, _), (8, _), (0, _), (1, _), (3, _), (4, _), (7, _)]) dX9_partOf_87 (by decide) rfl ?_
            refine z_iinc hO (L' := [(7, _), (5, _), (8, _), (0, _), (1, _), (3, _), (4, _)]) 6 dX9_partOf_89 rfl (by decide) rfl ?_
            refine z_goto hO 6 dX9_partOf_92 (by decide) ?_
            first | exact z_pick [3, 4, 5, 6, 1, 0] rfl (ih (t + 1) s34 (by omega) (by omega) hF2) | exact z_pick [3, 4, 5, 6, 1, 0] rfl (ih (t + 1) τ (by omega) (by omega) hFm)
        ·
          rw [e114] at p34
          exfalso; have z : false = said (mv (σ 114)) (c t) := p34.1.1; rw [hc3] at z; cases z
      ·
        refine z_if_ne hO 44 dX9_partOf_23 (by decide) (by decide) (fun c23 => ?_) (fun c23 => absurd c23 (by omega))
        have hbit : s.testBit t = false := by rw [hte]; exact decide_eq_false (by omega)
        have hpf : (fun t => s.testBit t && decide ((mv (σ 114)).2.2.1 sl (pk (mv (σ 114)) (c t) sl) = wd)) t = false := by show (s.testBit t && _) = false; rw [hbit, Bool.false_and]
        refine z_iconst hO dX9_partOf_44 ?_
        refine z_istore hO (L' := [(8, _), (0, _), (1, _), (3, _), (4, _), (5, _), (7, _)]) dX9_partOf_45 (by decide) rfl ?_
        refine z_lload hO 5 dX9_partOf_47 rfl ?_
        refine z_iload hO 0 dX9_partOf_49 rfl ?_
        refine z_if_eq hO 85 dX9_partOf_51 (by decide) (by decide) (fun c51 => ?_) (fun c51 => absurd c51 (by omega))
        refine z_lconst hO 0 dX9_partOf_85 (by decide) ?_
        refine z_lor hO (((setF (fun t => s.testBit t && decide ((mv (σ 114)).2.2.1 sl (pk (mv (σ 114)) (c t) sl) = wd)) (t + 1) : Nat) : Int)) dX9_partOf_86 (by first | exact po_t hpf | exact po_f hpf) ?_
        refine z_lstore hO (L' := [(5, _), (8, _), (0, _), (1, _), (3, _), (4, _), (7, _)]) dX9_partOf_87 (by decide) rfl ?_
        refine z_iinc hO (L' := [(7, _), (5, _), (8, _), (0, _), (1, _), (3, _), (4, _)]) 6 dX9_partOf_89 rfl (by decide) rfl ?_
        refine z_goto hO 6 dX9_partOf_92 (by decide) ?_
        first | exact z_pick [3, 4, 5, 6, 1, 0] rfl (ih (t + 1) s34 (by omega) (by omega) hF2) | exact z_pick [3, 4, 5, 6, 1, 0] rfl (ih (t + 1) τ (by omega) (by omega) hFm)

set_option maxHeartbeats 4000000 in
set_option maxRecDepth 100000 in
theorem t_X9_partOf {g : G} {σ : Sg} {c : Nat → Nat} {s m : Nat} {sl wd : Int} (hV : WV (mv (σ 114))) (hm : σ 113 15 = (m : Int)) (h60 : m ≤ 60) (hs : s < 2 ^ m) (hc : lsQ (mv (σ 114)) c m σ) (hsl : 0 ≤ sl ∧ sl < σ 114 0) (hw : 0 ≤ wd ∧ wd ≤ 31) : MM g mX9_partOf [.ref (g.2.2.1 113), vL (s : Int), vI sl, vI wd] σ (pL (fun r σ' => r = ((setF (fun t => s.testBit t && decide ((mv (σ 114)).2.2.1 sl (pk (mv (σ 114)) (c t) sl) = wd)) m : Nat) : Int) ∧ Fm fTk σ σ')) := by
  refine mm_of rfl (by decide) rfl rfl (Nat.le_of_ble_eq_true rfl) (fun x hO hR => ?_)
  refine z_lconst hO 0 dX9_partOf_0 (by decide) ?_
  refine z_lstore hO (L' := [(5, _), (0, _), (1, _), (3, _), (4, _)]) dX9_partOf_1 (by decide) rfl ?_
  refine z_iconst hO dX9_partOf_3 ?_
  refine z_istore hO (L' := [(7, _), (5, _), (0, _), (1, _), (3, _), (4, _)]) dX9_partOf_4 (by decide) rfl ?_
  exact z_pick [2, 3, 4, 5, 1, 0] rfl (lp_partOf (σ := σ) (c := c) (m := m) hO hR hV hm h60 hs hc hsl hw 61 0 σ (by omega) (by omega) Fm.rf)
