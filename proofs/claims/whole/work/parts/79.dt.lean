theorem mP_00 {V : Hv} {row : Int → Int} {n : Int} : setF (mP V row n 0 0) 5 = 0 := by
  have h : ∀ j, mP V row n 0 0 j = false := fun j => by unfold mP mB; rw [if_neg (by omega)]; exact dec_not.mpr (fun z => z.1 rfl)
  rw [setF_5, h, h, h, h, h]; rfl
theorem kC_0 {V : Hv} (kd : Int) : kC V kd 0 = 80 := by unfold kC; exact if_pos rfl

set_option maxHeartbeats 4000000 in
set_option maxRecDepth 100000 in
theorem lp_kinds2 {g : G} {x : Cx} {σ : Sg} {o : Nat} {i0 n : Int} (hO : Ok g x RX6 cX6_kindsMeant 8 4) (hR : Rt g x (some .int) (pI (fun r σ' => r = ((setF (mP (cv σ 1) (fun j => σ (o + 1) (i0 + j)) n (rdN (cv σ 1)).toNat 0) 5 : Nat) : Int) ∧ Fm fWx σ σ'))) (ho : Sd o) (ho2 : 105 ≤ o) (hV : WV (cv σ 1)) (hz : 0 ≤ σ o 2 ∧ σ o 2 ≤ 24) (hi : 0 ≤ i0) (hn : 1 ≤ n ∧ n ≤ 6) (hin : i0 + n ≤ σ o 2) : ∀ (f : Nat) (left : Int) (r : Nat) (τ : Sg), left < f → 0 ≤ left → left ≤ 65536 → 65536 ≤ left + r → (r : Int) ≤ rdN (cv σ 1) → WI (cv σ 1) τ r → (∀ j : Nat, j < 5 → τ 87 j = kC (cv σ 1) j r) → Fm fWx σ τ → Z g x 8 38 [(0, .ref (g.2.2.1 83)), (1, .ref (g.2.2.1 o)), (2, vI i0), (3, vI n), (4, vI ((setF (mP (cv σ 1) (fun j => σ (o + 1) (i0 + j)) n r 0) 5 : Nat) : Int)), (5, vI left)] [] τ := by
  intro f
  induction f with
  | zero => intro left r τ hl h0; exact absurd hl (by omega)
  | succ f ih =>
    intro left r τ hl h0 hl2 hlr hr hW hkc hFm
    have e1 : τ 1 = σ 1 := hFm.row 1 (fun _ => rfl)
    have e2 : τ 2 = σ 2 := hFm.row 2 (fun _ => rfl)
    have e3 : τ 3 = σ 3 := hFm.row 3 (fun _ => rfl)
    have e4 : τ 4 = σ 4 := hFm.row 4 (fun _ => rfl)
    have eV : cv τ 1 = cv σ 1 := cv_eq e1 e2 e3 e4
    refine z_iload hO 5 dX6_kindsMeant_38 rfl ?_
    refine z_if_le hO 175 dX6_kindsMeant_40 (by decide) (by omega) (fun c40 => ?_) (fun c40 => ?_)
    ·
      have hrN : r = (rdN (cv σ 1)).toNat := by have := rdN_r hV; omega
      refine z_iload hO 4 dX6_kindsMeant_175 rfl ?_
      exact z_retI hO hR dX6_kindsMeant_177 (by first | exact ⟨by rw [hrN], hFm⟩ | exact ⟨by rw [mP_sk (a := r) (b := (rdN (cv σ 1)).toNat) (by omega) (fun y y0 y1 => hz3 y y0 (by have := rd_pq hV; omega))], hF1⟩)
    ·
      refine z_aload_n hO 0 dX6_kindsMeant_43 rfl ?_
      refine z_getR hO (88) fl_X6_40 rfl rfl dX6_kindsMeant_44 ?_
      refine z_cvB hO (t_X7_step (r := r) (by rw [eV]; exact hV) (by rw [eV]; exact hW)) cv_X6_109 rfl rfl rfl rfl (by decide) (Nat.le_of_ble_eq_true rfl) dX6_kindsMeant_47 (fun s47 p47 => ?_) (fun s47 p47 => ?_)
      ·
        rw [eV] at p47
        have hF1 : Fm fWx σ s47 := hFm.trans (p47.2.mono fWk_Wx)
        have hk1 : ∀ j : Nat, j < 5 → s47 87 j = kC (cv σ 1) j r := fun j hj => (p47.2 87 j rfl).trans (hkc j hj)
        obtain ⟨q0, ⟨hq0, hq1⟩, hq2, hq3, hq4, hq5⟩ := p47.1.1 rfl
        obtain ⟨m, rfl⟩ : ∃ m : Nat, q0 = m := ⟨q0.toNat, by omega⟩
        have hrd := rdN_r hV
        have hk2 : ∀ j : Nat, j < 5 → s47 87 j = kC (cv σ 1) j m := fun j hj => (hk1 j hj).trans (mB_skip (row := (fun j => σ (o + 1) (i0 + j))) (n := n) (by omega) hq2).2.symm
        rw [show mP (cv σ 1) (fun j => σ (o + 1) (i0 + j)) n r 0 = mP (cv σ 1) (fun j => σ (o + 1) (i0 + j)) n m 0 from (mP_sk (by omega) hq2).symm]
        have hlw := said_r hV hq3
        have hl10 := hq4.2.1
        have g2 : s47 o 2 = σ o 2 := hF1 o 2 (fWx_o (by omega))
        refine z_if_eq hO 175 dX6_kindsMeant_50 (by decide) (by decide) (fun c50 => absurd c50 (by omega)) (fun c50 => ?_)
        refine z_aload_n hO 1 dX6_kindsMeant_53 rfl ?_
        refine z_iload_n hO 2 dX6_kindsMeant_54 rfl ?_
        refine z_iload_n hO 3 dX6_kindsMeant_55 rfl ?_
        refine z_aload_n hO 0 dX6_kindsMeant_56 rfl ?_
        refine z_getR hO (88) fl_X6_40 rfl rfl dX6_kindsMeant_57 ?_
        refine z_getR hO (96) fl_X6_116 rfl rfl dX6_kindsMeant_60 ?_
        refine z_aload_n hO 0 dX6_kindsMeant_63 rfl ?_
        refine z_getR hO (88) fl_X6_40 rfl rfl dX6_kindsMeant_64 ?_
        refine z_getI hO 10 fl_X6_119 rfl rfl rfl dX6_kindsMeant_67 (fun r67 => ?_)
        refine z_cvQ hO (t_X5_tells ho (by omega) (by omega) (by rw [hl10]; omega) (by rw [g2]; exact hz)) cv_X6_155 ho.1 rfl rfl rfl (by decide) (Nat.le_of_ble_eq_true rfl) dX6_kindsMeant_70 (fun c70 => ?_) (fun c70 => ?_)
        ·
          have hlk : true = true ↔ lkP (cv σ 1) (fun j => σ (o + 1) (i0 + j)) n m := ⟨fun _ => ⟨by rw [← hl10]; exact c70.1, fun j j0 j1 => by show σ (o + 1) (i0 + j) = _; rw [← hF1 (o + 1) (i0 + j) (fWx_o (by omega)), c70.2.2.2 j j0 j1]; exact row_lrow hq4.1 j0 (by rw [← hl10, c70.1]; exact j1)⟩, fun _ => rfl⟩
          refine z_istore hO (L' := [(6, _), (0, _), (1, _), (2, _), (3, _), (4, _), (5, _)]) dX6_kindsMeant_73 (by decide) rfl ?_
          refine z_iconst hO dX6_kindsMeant_75 ?_
          refine z_istore hO (L' := [(7, _), (6, _), (0, _), (1, _), (2, _), (3, _), (4, _), (5, _)]) dX6_kindsMeant_76 (by decide) rfl ?_
          refine z_pick [2, 3, 4, 5, 6, 7, 1, 0] rfl (lp_kinds1 (σ := σ) (υ := s47) (o := o) (i0 := i0) (n := n) (left := left) (m := m) hO ho hV hq3 hlk ?_ 6 0 s47 (by omega) (by omega) hq4 (fun j hj => by rw [if_neg (by omega)]; exact hk2 j hj) hF1 (fun c _ _ => rfl))
          intro υ hu1 hu2 hu3 hu4
          rw [mP_5]
          refine z_iinc hO (L' := [(5, _), (0, _), (1, _), (2, _), (3, _), (4, _)]) 5 dX6_kindsMeant_169 rfl (by decide) rfl ?_
          refine z_goto hO 38 dX6_kindsMeant_172 (by decide) ?_
          exact z_pick [1, 2, 3, 4, 5, 0] rfl (ih _ (m + 1) υ (by omega) (by omega) (by omega) (by omega) (by omega) (WI_congr hq5 hu4) hu2 hu3)
        ·
          have hlk : false = true ↔ lkP (cv σ 1) (fun j => σ (o + 1) (i0 + j)) n m := ⟨fun z => absurd z (by decide), fun z => absurd (show _ from ⟨by rw [hl10]; exact z.1, by rw [hl10]; omega, by rw [g2]; omega, fun j j0 j1 => by rw [hF1 (o + 1) (i0 + j) (fWx_o (by omega)), show σ (o + 1) (i0 + j) = _ from z.2 j j0 j1]; exact (row_lrow hq4.1 j0 (by rw [z.1]; exact j1)).symm⟩) c70⟩
          refine z_istore hO (L' := [(6, _), (0, _), (1, _), (2, _), (3, _), (4, _), (5, _)]) dX6_kindsMeant_73 (by decide) rfl ?_
          refine z_iconst hO dX6_kindsMeant_75 ?_
          refine z_istore hO (L' := [(7, _), (6, _), (0, _), (1, _), (2, _), (3, _), (4, _), (5, _)]) dX6_kindsMeant_76 (by decide) rfl ?_
          refine z_pick [2, 3, 4, 5, 6, 7, 1, 0] rfl (lp_kinds1 (σ := σ) (υ := s47) (o := o) (i0 := i0) (n := n) (left := left) (m := m) hO ho hV hq3 hlk ?_ 6 0 s47 (by omega) (by omega) hq4 (fun j hj => by rw [if_neg (by omega)]; exact hk2 j hj) hF1 (fun c _ _ => rfl))
          intro υ hu1 hu2 hu3 hu4
          rw [mP_5]
          refine z_iinc hO (L' := [(5, _), (0, _), (1, _), (2, _), (3, _), (4, _)]) 5 dX6_kindsMeant_169 rfl (by decide) rfl ?_
          refine z_goto hO 38 dX6_kindsMeant_172 (by decide) ?_
          exact z_pick [1, 2, 3, 4, 5, 0] rfl (ih _ (m + 1) υ (by omega) (by omega) (by omega) (by omega) (by omega) (WI_congr hq5 hu4) hu2 hu3)
      ·
        rw [eV] at p47
        have hF1 : Fm fWx σ s47 := hFm.trans (p47.2.mono fWk_Wx)
        have hk1 : ∀ j : Nat, j < 5 → s47 87 j = kC (cv σ 1) j r := fun j hj => (p47.2 87 j rfl).trans (hkc j hj)
        have hz3 := p47.1.2 rfl
        refine z_if_eq hO 175 dX6_kindsMeant_50 (by decide) (by decide) (fun c50 => ?_) (fun c50 => absurd c50 (by omega))
        refine z_iload hO 4 dX6_kindsMeant_175 rfl ?_
        exact z_retI hO hR dX6_kindsMeant_177 (by first | exact ⟨by rw [hrN], hFm⟩ | exact ⟨by rw [mP_sk (a := r) (b := (rdN (cv σ 1)).toNat) (by omega) (fun y y0 y1 => hz3 y y0 (by have := rd_pq hV; omega))], hF1⟩)

set_option maxHeartbeats 4000000 in
set_option maxRecDepth 100000 in
theorem lp_kinds3 {g : G} {x : Cx} {σ : Sg} {o : Nat} {i0 n : Int} (hO : Ok g x RX6 cX6_kindsMeant 8 4) (hR : Rt g x (some .int) (pI (fun r σ' => r = ((setF (mP (cv σ 1) (fun j => σ (o + 1) (i0 + j)) n (rdN (cv σ 1)).toNat 0) 5 : Nat) : Int) ∧ Fm fWx σ σ'))) (ho : Sd o) (ho2 : 105 ≤ o) (hV : WV (cv σ 1)) (hz : 0 ≤ σ o 2 ∧ σ o 2 ≤ 24) (hi : 0 ≤ i0) (hn : 1 ≤ n ∧ n ≤ 6) (hin : i0 + n ≤ σ o 2) : ∀ (f k : Nat) (τ : Sg), k ≤ 5 → 5 - k < f → (∀ j : Nat, j < k → τ 87 j = 80) → Fm fWx σ τ → Z g x 8 6 [(0, .ref (g.2.2.1 83)), (1, .ref (g.2.2.1 o)), (2, vI i0), (3, vI n), (4, vI 0), (5, vI k)] [] τ := by
  intro f
  induction f with
  | zero => intro k τ h0 hk; exact absurd hk (by omega)
  | succ f ih =>
    intro k τ hk5 hf hkc hFm
    refine z_iload hO 5 dX6_kindsMeant_6 rfl ?_
    refine z_iconst hO dX6_kindsMeant_8 ?_
    refine z_icmp_ge hO 27 dX6_kindsMeant_9 (by decide) (by omega) (by decide) (fun c9 => ?_) (fun c9 => ?_)
    ·
      refine z_aload_n hO 0 dX6_kindsMeant_27 rfl ?_
      refine z_getR hO (88) fl_X6_40 rfl rfl dX6_kindsMeant_28 ?_
      refine z_cvV hO (t_X7_begin) cv_X6_105 rfl rfl rfl rfl (by decide) (Nat.le_of_ble_eq_true rfl) dX6_kindsMeant_31 (fun s31 p31 => ?_)
      subst p31
      refine z_ldc hO k_X6_108 dX6_kindsMeant_34 ?_
      refine z_istore hO (L' := [(5, _), (0, _), (1, _), (2, _), (3, _), (4, _)]) dX6_kindsMeant_36 (by decide) rfl ?_
      have hz0 : (0 : Int) = ((setF (mP (cv σ 1) (fun j => σ (o + 1) (i0 + j)) n 0 0) 5 : Nat) : Int) := by rw [mP_00]; rfl
      rw [hz0]
      exact z_pick [1, 2, 3, 4, 5, 0] rfl (lp_kinds2 hO hR ho ho2 hV hz hi hn hin 65537 65536 0 _ (by omega) (by omega) (by omega) (by omega) (rdN_r hV).1 (WI_beg hV) (fun j hj => by rw [kC_0]; unfold begS; simp (disch := omega) only [up_ne]; exact hkc j (by omega)) (hFm.trans ((Fm_beg Fm.rf).mono fWk_Wx)))
    ·
      refine z_aload_n hO 0 dX6_kindsMeant_12 rfl ?_
      refine z_getR hO (87) fl_X6_28 rfl rfl dX6_kindsMeant_13 ?_
      refine z_iload hO 5 dX6_kindsMeant_16 rfl ?_
      refine z_bipush hO dX6_kindsMeant_18 (by decide) ?_
      refine z_iast hO rfl (by omega) (by decide) (by omega) dX6_kindsMeant_20 ?_
      refine z_iinc hO (L' := [(5, _), (0, _), (1, _), (2, _), (3, _), (4, _)]) 5 dX6_kindsMeant_21 rfl (by decide) rfl ?_
      refine z_goto hO 6 dX6_kindsMeant_24 (by decide) ?_
      refine z_pick [1, 2, 3, 4, 5, 0] rfl (ih (k + 1) _ (by omega) (by omega) (fun j hj => ?_) (hFm.up rfl))
      by_cases q : j = k
      · rw [q, up_eq]
      · rw [up_nk (by omega)]; exact hkc j (by omega)

set_option maxHeartbeats 4000000 in
set_option maxRecDepth 100000 in
theorem t_X6_kindsMeant {g : G} {σ : Sg} {o : Nat} {i0 n : Int} (ho : Sd o) (ho2 : 105 ≤ o) (hV : WV (cv σ 1)) (hz : 0 ≤ σ o 2 ∧ σ o 2 ≤ 24) (hi : 0 ≤ i0) (hn : 1 ≤ n ∧ n ≤ 6) (hin : i0 + n ≤ σ o 2) : MM g mX6_kindsMeant [.ref (g.2.2.1 83), .ref (g.2.2.1 o), vI i0, vI n] σ (pI (fun r σ' => r = ((setF (mP (cv σ 1) (fun j => σ (o + 1) (i0 + j)) n (rdN (cv σ 1)).toNat 0) 5 : Nat) : Int) ∧ Fm fWx σ σ')) := by
  refine mm_of rfl (by decide) rfl rfl (Nat.le_of_ble_eq_true rfl) (fun x hO hR => ?_)
  refine z_iconst hO dX6_kindsMeant_0 ?_
  refine z_istore hO (L' := [(4, _), (0, _), (1, _), (2, _), (3, _)]) dX6_kindsMeant_1 (by decide) rfl ?_
  refine z_iconst hO dX6_kindsMeant_3 ?_
  refine z_istore hO (L' := [(5, _), (4, _), (0, _), (1, _), (2, _), (3, _)]) dX6_kindsMeant_4 (by decide) rfl ?_
  exact z_pick [2, 3, 4, 5, 1, 0] rfl (lp_kinds3 (σ := σ) hO hR ho ho2 hV hz hi hn hin 6 0 σ (by omega) (by omega) (fun j hj => absurd hj (by omega)) Fm.rf)

set_option maxHeartbeats 4000000 in
set_option maxRecDepth 100000 in
theorem t_X8_meant {g : G} {σ : Sg} {s lane i n : Int} (rs : -2147483648 ≤ s ∧ s ≤ 2147483647) (rl : -2147483648 ≤ lane ∧ lane ≤ 2147483647) (ri : -2147483648 ≤ i ∧ i ≤ 2147483647) (rn : -2147483648 ≤ n ∧ n ≤ 2147483647) (hV : WV (cv σ 1)) (hI : SI σ) (hZ : SZ σ) : MM g mX8_meant [.ref (g.2.2.1 0), vI s, vI lane, vI i, vI n] σ (pI (fun r σ' => (¬ ((0 ≤ s ∧ s ≤ 3) ∧ (0 ≤ lane ∧ lane ≤ 3) ∧ 1 ≤ n ∧ n ≤ 6) ∧ r = -1 ∧ σ' = σ) ∨ (((0 ≤ s ∧ s ≤ 3) ∧ (0 ≤ lane ∧ lane ≤ 3) ∧ 1 ≤ n ∧ n ≤ 6) ∧ r ≠ 0 ∧ r = (if σ (105 + 2 * s.toNat) 1 = -1 then (-11 : Int) else if σ (105 + 2 * s.toNat) 1 ≠ lane then -12 else if i < 0 ∨ n < 0 ∨ σ (105 + 2 * s.toNat) 2 - n < i then -13 else 0) ∧ σ' = σ) ∨ (((0 ≤ s ∧ s ≤ 3) ∧ (0 ≤ lane ∧ lane ≤ 3) ∧ 1 ≤ n ∧ n ≤ 6) ∧ (if σ (105 + 2 * s.toNat) 1 = -1 then (-11 : Int) else if σ (105 + 2 * s.toNat) 1 ≠ lane then -12 else if i < 0 ∨ n < 0 ∨ σ (105 + 2 * s.toNat) 2 - n < i then -13 else 0) = 0 ∧ r = ((setF (mP (cv σ 1) (fun j => σ (105 + 2 * s.toNat + 1) (i + j)) n (rdN (cv σ 1)).toNat 0) 5 : Nat) : Int) ∧ SI σ' ∧ Fm fSv σ σ'))) := by
  refine mm_of rfl (by decide) rfl rfl (Nat.le_of_ble_eq_true rfl) (fun x hO hR => ?_)
  refine z_iload_n hO 1 dX8_meant_0 rfl ?_
  refine z_csQ hO (t_X8_isSheet (by omega)) cs_X8_197 rfl rfl (by decide) (Nat.le_of_ble_eq_true rfl) dX8_meant_1 (fun c1 => ?_) (fun c1 => ?_)
  ·
    refine z_if_eq hO 27 dX8_meant_4 (by decide) (by decide) (fun c4 => absurd c4 (by omega)) (fun c4 => ?_)
    refine z_iload_n hO 2 dX8_meant_7 rfl ?_
    refine z_csQ hO (t_X8_isLane (by omega)) cs_X8_200 rfl rfl (by decide) (Nat.le_of_ble_eq_true rfl) dX8_meant_8 (fun c8 => ?_) (fun c8 => ?_)
    ·
      refine z_if_eq hO 27 dX8_meant_11 (by decide) (by decide) (fun c11 => absurd c11 (by omega)) (fun c11 => ?_)
      refine z_iload hO 4 dX8_meant_14 rfl ?_
      refine z_iconst hO dX8_meant_16 ?_
      refine z_icmp_lt hO 27 dX8_meant_17 (by decide) (by omega) (by decide) (fun c17 => ?_) (fun c17 => ?_)
      ·
        refine z_iconst hO dX8_meant_27 ?_
        exact z_retI hO hR dX8_meant_28 (Or.inl ⟨by omega, rfl, rfl⟩)
      ·
        refine z_iload hO 4 dX8_meant_20 rfl ?_
        refine z_bipush hO dX8_meant_22 (by decide) ?_
        refine z_icmp_le hO 29 dX8_meant_24 (by decide) (by omega) (by decide) (fun c24 => ?_) (fun c24 => ?_)
        ·
          refine z_aload_n hO 0 dX8_meant_29 rfl ?_
          refine z_getR hO (104) fl_X8_50 rfl rfl dX8_meant_30 ?_
          refine z_iload_n hO 1 dX8_meant_33 rfl ?_
          have hds := sd_i s.toNat (by omega)
          have hzs := hZ s (by omega) (by omega)
          refine z_aald hO (105 + 2 * s.toNat) rfl (by decide) (by simp only [List.length_cons, List.length_nil]; omega) (by decide) (shs (by omega)) dX8_meant_34 ?_
          refine z_astore hO (L' := [(5, _), (0, _), (1, _), (2, _), (3, _), (4, _)]) dX8_meant_35 (by decide) rfl ?_
          refine z_aload hO 0 dX8_meant_37 rfl ?_
          refine z_iload_n hO 3 dX8_meant_39 rfl ?_
          refine z_iload_n hO 4 dX8_meant_40 rfl ?_
          refine z_iload hO 5 dX8_meant_41 rfl ?_
          refine z_cvE hO (t_X5_refusal hds (by omega) (by omega) (by omega) hzs.1) cv_X8_203 hds.1 rfl rfl rfl (by decide) (Nat.le_of_ble_eq_true rfl) dX8_meant_43 ?_
          refine z_istore hO (L' := [(6, _), (5, _), (0, _), (1, _), (2, _), (3, _), (4, _)]) dX8_meant_46 (by decide) rfl ?_
          refine z_iload hO 0 dX8_meant_48 rfl ?_
          refine z_if_eq hO 58 dX8_meant_50 (by decide) (by (repeat' split) <;> omega) (fun c50 => ?_) (fun c50 => ?_)
          ·
            have hx1 : ¬ (i < 0 ∨ n < 0 ∨ σ (105 + 2 * s.toNat) 2 - n < i) := by
              have hwz := c50
              by_cases y1 : σ (105 + 2 * s.toNat) 1 = -1
              · rw [if_pos y1] at hwz; exact absurd hwz (by decide)
              · rw [if_neg y1] at hwz
                by_cases y2 : σ (105 + 2 * s.toNat) 1 ≠ lane
                · rw [if_pos y2] at hwz; exact absurd hwz (by decide)
                · rw [if_neg y2] at hwz
                  by_cases y3 : (i < 0 ∨ n < 0 ∨ σ (105 + 2 * s.toNat) 2 - n < i)
                  · rw [if_pos y3] at hwz; exact absurd hwz (by decide)
                  · exact y3
            refine z_aload_n hO 2 dX8_meant_58 rfl ?_
            refine z_getR hO (83) fl_X8_44 rfl rfl dX8_meant_59 ?_
            refine z_aload hO 1 dX8_meant_62 rfl ?_
            refine z_iload_n hO 5 dX8_meant_64 rfl ?_
            refine z_iload hO 6 dX8_meant_65 rfl ?_
            refine z_cvI hO (t_X6_kindsMeant hds (by omega) hV hzs.1 (by omega) (by omega) (by omega)) cv_X8_207 rfl rfl rfl rfl (by decide) (Nat.le_of_ble_eq_true rfl) dX8_meant_67 (fun v67 s67 p67 => ?_)
            obtain ⟨a0, a1⟩ := p67
            exact z_retI hO hR dX8_meant_70 (by first | exact Or.inr (Or.inr ⟨⟨by omega, by omega, by omega⟩, c50, a0, SI_Wx hI a1, a1.mono fWx_Sv⟩) | exact Or.inr (Or.inl ⟨⟨by omega, by omega, by omega⟩, c50, rfl, rfl⟩))
          ·
            refine z_iload hO 0 dX8_meant_53 rfl ?_
            refine z_goto hO 70 dX8_meant_55 (by decide) ?_
            exact z_retI hO hR dX8_meant_70 (by first | exact Or.inr (Or.inr ⟨⟨by omega, by omega, by omega⟩, c50, a0, SI_Wx hI a1, a1.mono fWx_Sv⟩) | exact Or.inr (Or.inl ⟨⟨by omega, by omega, by omega⟩, c50, rfl, rfl⟩))
        ·
          refine z_iconst hO dX8_meant_27 ?_
          exact z_retI hO hR dX8_meant_28 (Or.inl ⟨by omega, rfl, rfl⟩)
    ·
      refine z_if_eq hO 27 dX8_meant_11 (by decide) (by decide) (fun c11 => ?_) (fun c11 => absurd c11 (by omega))
      refine z_iconst hO dX8_meant_27 ?_
      exact z_retI hO hR dX8_meant_28 (Or.inl ⟨by omega, rfl, rfl⟩)
  ·
    refine z_if_eq hO 27 dX8_meant_4 (by decide) (by decide) (fun c4 => ?_) (fun c4 => absurd c4 (by omega))
    refine z_iconst hO dX8_meant_27 ?_
    exact z_retI hO hR dX8_meant_28 (Or.inl ⟨by omega, rfl, rfl⟩)
