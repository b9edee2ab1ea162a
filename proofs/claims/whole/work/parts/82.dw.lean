theorem nCt_skip {V : Hv} {K S : Int} {a b : Nat} (hab : a ≤ b) (hn : ∀ y : Int, a ≤ y → y < b → said V y = false) : nCt V K S b = nCt V K S a :=
  fold_skip (P := fun m => said V m = false) (fun m h => nCt_f (ctd_nsnd (snd_nsaid h))) hab (fun m m0 m1 => hn m (by omega) (by omega))
theorem tell_1 (V : Hv) (r : Int) : tell V 1 r = lastN V r := by unfold tell lastN; rw [if_neg (by decide)]
theorem tell_0 (V : Hv) (r : Int) : tell V 0 r = cst V r := by unfold tell; rw [if_pos rfl]

set_option maxHeartbeats 4000000 in
set_option maxRecDepth 100000 in
theorem lp_ctells {g : G} {x : Cx} {σ : Sg} {k bz : Int} {P : Int → Sg → Prop} (hO : Ok g x RX6 cX6_countedTells 5 6) (hR : Rt g x (some .int) (pI P)) (hV : WV (cv σ 1)) (hbr : bR (cv σ 1) (σ 1 4) ≠ -4) (h6 : σ 83 6 = bC (cv σ 1) (σ 1 4)) (hS : 0 ≤ σ 1 5 ∧ σ 1 5 ≤ 20) (hk : 0 ≤ k ∧ k ≤ 2147483647) (hbz : bz = 0 ∨ bz = 1) (hP : ∀ r τ, cdQ (cv σ 1) (σ 1 4) (σ 1 5) k bz r → Fm fWk σ τ → P r τ) : ∀ (f : Nat) (left : Int) (r : Nat) (a : Int) (τ : Sg), left < f → 0 ≤ left → left ≤ 65536 → 65536 ≤ left + r → (r : Int) ≤ rdN (cv σ 1) → a = k - nCt (cv σ 1) (σ 1 4) (σ 1 5) r → 0 ≤ a → WI (cv σ 1) τ r → Fm fWk σ τ → Z g x 5 62 [(0, .ref (g.2.2.1 83)), (1, vI k), (2, vI bz), (3, vI a), (4, vI left)] [] τ := by
  intro f
  induction f with
  | zero => intro left r a τ hl h0; exact absurd hl (by omega)
  | succ f ih =>
    intro left r a τ hl h0 hl2 hlr hr ha ha0 hW hFm
    have hnr0 := nCt_r (cv σ 1) (σ 1 4) (σ 1 5) r
    have e1 : τ 1 = σ 1 := hFm.row 1 (fun _ => rfl)
    have e2 : τ 2 = σ 2 := hFm.row 2 (fun _ => rfl)
    have e3 : τ 3 = σ 3 := hFm.row 3 (fun _ => rfl)
    have e4 : τ 4 = σ 4 := hFm.row 4 (fun _ => rfl)
    have eV : cv τ 1 = cv σ 1 := cv_eq e1 e2 e3 e4
    refine z_iload hO 4 dX6_countedTells_62 rfl ?_
    refine z_if_le hO 129 dX6_countedTells_64 (by decide) (by omega) (fun c64 => ?_) (fun c64 => ?_)
    ·
      have hrN : r = (rdN (cv σ 1)).toNat := by have := rdN_r hV; omega
      refine z_bipush hO dX6_countedTells_129 (by decide) ?_
      exact z_retI hO hR dX6_countedTells_131 (by first | exact hP _ _ (Or.inr ⟨by rw [← hrN]; omega, rfl⟩) hFm | exact hP _ _ (Or.inr ⟨by omega, rfl⟩) hF1)
    ·
      refine z_aload_n hO 0 dX6_countedTells_67 rfl ?_
      refine z_getR hO (88) fl_X6_40 rfl rfl dX6_countedTells_68 ?_
      refine z_cvB hO (t_X7_step (r := r) (by rw [eV]; exact hV) (by rw [eV]; exact hW)) cv_X6_109 rfl rfl rfl rfl (by decide) (Nat.le_of_ble_eq_true rfl) dX6_countedTells_71 (fun s71 p71 => ?_) (fun s71 p71 => ?_)
      ·
        rw [eV] at p71
        have hF1 : Fm fWk σ s71 := hFm.trans p71.2
        obtain ⟨q0, ⟨hq0, hq1⟩, hq2, hq3, hq4, hq5⟩ := p71.1.1 rfl
        obtain ⟨n, rfl⟩ : ∃ n : Nat, q0 = n := ⟨q0.toNat, by omega⟩
        have hrd := rdN_r hV
        have hsk := nCt_skip (K := (σ 1 4)) (S := (σ 1 5)) (a := r) (b := n) (by omega) hq2
        have hnr := nCt_r (cv σ 1) (σ 1 4) (σ 1 5) n
        have hcn := cst_r hV n
        have hlw := said_r hV hq3
        have u83 : s71 83 6 = σ 83 6 := hF1 83 6 rfl
        have u15 : s71 1 5 = σ 1 5 := hF1 1 5 rfl
        have u14 : s71 1 4 = σ 1 4 := hF1 1 4 rfl
        have hl10 := hq4.2.1
        have hc11 := hq4.2.2.1
        have hb5 := best_r hV hbr
        have hb6 := cst_r hV (bR (cv σ 1) (σ 1 4))
        refine z_if_eq hO 129 dX6_countedTells_74 (by decide) (by decide) (fun c74 => absurd c74 (by omega)) (fun c74 => ?_)
        refine z_aload_n hO 0 dX6_countedTells_77 rfl ?_
        refine z_cvQ hO (t_X6_isCounted (Fnd_NR hV hq3 hq4) (by rw [u83, h6]; omega) (by rw [u15]; exact hS)) cv_X6_113 rfl rfl rfl rfl (by decide) (Nat.le_of_ble_eq_true rfl) dX6_countedTells_78 (fun c78 => ?_) (fun c78 => ?_)
        ·
          rw [u83, u15, u14, h6, hc11] at c78
          have hct : ctd (cv σ 1) (σ 1 4) (σ 1 5) n = true := ctd_iff.mpr ⟨(Fnd_snd hV hq3 hq4).mp c78.2, c78.1⟩
          have hc1 := nCt_t hct
          refine z_if_eq hO 123 dX6_countedTells_81 (by decide) (by decide) (fun c81 => absurd c81 (by omega)) (fun c81 => ?_)
          refine z_iload_n hO 3 dX6_countedTells_84 rfl ?_
          refine z_iinc hO (L' := [(3, _), (0, _), (1, _), (2, _), (4, _)]) 3 dX6_countedTells_85 rfl (by decide) rfl ?_
          refine z_if_ne hO 123 dX6_countedTells_88 (by decide) (by omega) (fun c88 => ?_) (fun c88 => ?_)
          ·
            refine z_iinc hO (L' := [(4, _), (3, _), (0, _), (1, _), (2, _)]) 4 dX6_countedTells_123 rfl (by decide) rfl ?_
            refine z_goto hO 62 dX6_countedTells_126 (by decide) ?_
            exact z_pick [2, 3, 4, 1, 0] rfl (ih _ (n + 1) _ s71 (by omega) (by omega) (by omega) (by omega) (by omega) (by omega) (by omega) hq5 hF1)
          ·
            refine z_iload_n hO 3 dX6_countedTells_91 rfl ?_
            refine z_if_eq hO 115 dX6_countedTells_92 (by decide) (by omega) (fun c92 => ?_) (fun c92 => ?_)
            ·
              have hbz : bz = 0 := by omega
              subst hbz
              refine z_aload_n hO 1 dX6_countedTells_115 rfl ?_
              refine z_getR hO (88) fl_X6_40 rfl rfl dX6_countedTells_116 ?_
              refine z_getI hO 11 fl_X6_120 rfl rfl rfl dX6_countedTells_119 (fun r119 => ?_)
              exact z_retI hO hR dX6_countedTells_122 (by first | exact hP _ _ (Or.inl ⟨n, hq1, hct, by omega, by rw [tell_0]; exact hc11⟩) hF1 | exact hP _ _ (Or.inl ⟨n, hq1, hct, by omega, by rw [tell_1, hl10]; exact row_lrow hq4.1 (by omega) (by omega)⟩) hF1)
            ·
              have hbz : bz = 1 := by omega
              subst hbz
              refine z_aload_n hO 1 dX6_countedTells_95 rfl ?_
              refine z_getR hO (88) fl_X6_40 rfl rfl dX6_countedTells_96 ?_
              refine z_getR hO (96) fl_X6_116 rfl rfl dX6_countedTells_99 ?_
              refine z_aload_n hO 1 dX6_countedTells_102 rfl ?_
              refine z_getR hO (88) fl_X6_40 rfl rfl dX6_countedTells_103 ?_
              refine z_getI hO 10 fl_X6_119 rfl rfl rfl dX6_countedTells_106 (fun r106 => ?_)
              refine z_iconst hO dX6_countedTells_109 ?_
              refine z_isub hO dX6_countedTells_110 ?_
              refine z_iald hO rfl (by rw [hl10]; omega) (by decide) dX6_countedTells_111 (fun r111 => ?_)
              refine z_goto hO 122 dX6_countedTells_112 (by decide) ?_
              exact z_retI hO hR dX6_countedTells_122 (by first | exact hP _ _ (Or.inl ⟨n, hq1, hct, by omega, by rw [tell_0]; exact hc11⟩) hF1 | exact hP _ _ (Or.inl ⟨n, hq1, hct, by omega, by rw [tell_1, hl10]; exact row_lrow hq4.1 (by omega) (by omega)⟩) hF1)
        ·
          rw [u83, u15, u14, h6, hc11] at c78
          have hct : ctd (cv σ 1) (σ 1 4) (σ 1 5) n = false := Bool.not_eq_true _ ▸ (fun z => c78 ⟨(ctd_iff.mp z).2, (Fnd_snd hV hq3 hq4).mpr (ctd_iff.mp z).1⟩)
          have hc1 := nCt_f hct
          refine z_if_eq hO 123 dX6_countedTells_81 (by decide) (by decide) (fun c81 => ?_) (fun c81 => absurd c81 (by omega))
          refine z_iinc hO (L' := [(4, _), (0, _), (1, _), (2, _), (3, _)]) 4 dX6_countedTells_123 rfl (by decide) rfl ?_
          refine z_goto hO 62 dX6_countedTells_126 (by decide) ?_
          exact z_pick [1, 2, 3, 4, 0] rfl (ih _ (n + 1) _ s71 (by omega) (by omega) (by omega) (by omega) (by omega) (by omega) (by omega) hq5 hF1)
      ·
        rw [eV] at p71
        have hF1 : Fm fWk σ s71 := hFm.trans p71.2
        have hz := p71.1.2 rfl
        have hsk := nCt_skip (K := (σ 1 4)) (S := (σ 1 5)) (a := r) (b := (rdN (cv σ 1)).toNat) (by omega) (fun y y0 y1 => hz y y0 (by have := rd_pq hV; omega))
        refine z_if_eq hO 129 dX6_countedTells_74 (by decide) (by decide) (fun c74 => ?_) (fun c74 => absurd c74 (by omega))
        refine z_bipush hO dX6_countedTells_129 (by decide) ?_
        exact z_retI hO hR dX6_countedTells_131 (by first | exact hP _ _ (Or.inr ⟨by rw [← hrN]; omega, rfl⟩) hFm | exact hP _ _ (Or.inr ⟨by omega, rfl⟩) hF1)

set_option maxHeartbeats 4000000 in
set_option maxRecDepth 100000 in
theorem t_X6_countedTells {g : G} {σ : Sg} {k bz : Int} (hk : 0 ≤ k ∧ k ≤ 2147483647) (hbz : bz = 0 ∨ bz = 1) (hV : WV (cv σ 1)) (hI : SI σ) (hS : 0 ≤ σ 1 5 ∧ σ 1 5 ≤ 20) : MM g mX6_countedTells [.ref (g.2.2.1 83), vI k, vI bz] σ (pI (fun r σ' => cdQ (cv σ 1) (σ 1 4) (σ 1 5) k bz r ∧ SI σ' ∧ Fm fSv σ σ')) := by
  refine mm_of rfl (by decide) rfl rfl (Nat.le_of_ble_eq_true rfl) (fun x hO hR => ?_)
  refine z_aload_n hO 0 dX6_countedTells_0 rfl ?_
  refine z_cvV hO (t_X6_findCounted hV hI hS) cv_X6_75 rfl rfl rfl rfl (by decide) (Nat.le_of_ble_eq_true rfl) dX6_countedTells_1 (fun s1 p1 => ?_)
  have hSI := SI_FC hI p1
  obtain ⟨⟨a1, a2⟩, a3, a4, a5, a6, a7⟩ := p1
  have eV := Fm_cv a7 fFC_4
  have e1 : s1 1 = σ 1 := a7.row 1 (fun k => fFC_4 1 k (by decide))
  refine z_iload_n hO 1 dX6_countedTells_4 rfl ?_
  refine z_aload_n hO 0 dX6_countedTells_5 rfl ?_
  refine z_getR hO (97) fl_X6_12 rfl rfl dX6_countedTells_6 ?_
  refine z_getI hO 1 fl_X6_78 rfl rfl rfl dX6_countedTells_9 (fun r9 => ?_)
  refine z_icmp_lt hO 18 dX6_countedTells_12 (by decide) (by omega) (by omega) (fun c12 => ?_) (fun c12 => ?_)
  ·
    rw [a1.1] at c12
    obtain ⟨q, q1, q2, q3⟩ := nCt_ex (k := k) (rdN (cv σ 1)).toNat (by omega) c12
    have hrd := rdN_r hV
    have hbr : bR (cv σ 1) (σ 1 4) ≠ -4 := fun z => by have := nCt_none hV (S := (σ 1 5)) z (rdN (cv σ 1)).toNat (by omega); omega
    refine z_iload_n hO 1 dX6_countedTells_18 rfl ?_
    refine z_bipush hO dX6_countedTells_19 (by decide) ?_
    refine z_icmp_ge hO 49 dX6_countedTells_21 (by decide) (by omega) (by decide) (fun c21 => ?_) (fun c21 => ?_)
    ·
      refine z_iload_n hO 1 dX6_countedTells_49 rfl ?_
      refine z_istore_n hO (L' := [(3, _), (0, _), (1, _), (2, _)]) dX6_countedTells_50 (by decide) rfl ?_
      refine z_aload_n hO 1 dX6_countedTells_51 rfl ?_
      refine z_getR hO (88) fl_X6_40 rfl rfl dX6_countedTells_52 ?_
      refine z_cvV hO (t_X7_begin) cv_X6_105 rfl rfl rfl rfl (by decide) (Nat.le_of_ble_eq_true rfl) dX6_countedTells_55 (fun s55 p55 => ?_)
      subst p55
      refine z_ldc hO k_X6_108 dX6_countedTells_58 ?_
      refine z_istore hO (L' := [(4, _), (3, _), (0, _), (1, _), (2, _)]) dX6_countedTells_60 (by decide) rfl ?_
      have hbQ := a3.2.2 hbr
      have hbf : ∀ (c : Nat) (k : Int), (c < 88 ∨ 96 < c) → begS s1 c k = s1 c k := fun c k hc => by unfold begS; simp (disch := omega) only [up_ne]
      have eVb : cv (begS s1) 1 = cv σ 1 := (cv_eq (funext fun k => hbf 1 k (by omega)) (funext fun k => hbf 2 k (by omega)) (funext fun k => hbf 3 k (by omega)) (funext fun k => hbf 4 k (by omega))).trans eV
      have e1b : begS s1 1 = σ 1 := (funext fun k => hbf 1 k (by omega)).trans e1
      refine z_pick [2, 3, 4, 1, 0] rfl (lp_ctells (σ := begS s1) hO hR (by rw [eVb]; exact hV) (by rw [eVb, e1b]; exact hbr) (by rw [eVb, e1b, hbf _ _ (by omega)]; exact hbQ.1) (by rw [e1b]; exact hS) (by omega) hbz (fun r τ hc hF => ?_) 65537 65536 0 k _ (by omega) (by omega) (by omega) (by omega) (by rw [eVb]; exact (rdN_r hV).1) (by show k = k - 0; omega) (by omega) (by rw [eVb]; exact WI_beg hV) Fm.rf)
      rw [eVb, e1b] at hc
      have hFx := (Fm_beg (Fm.rf (p := fWk) (σ := s1))).trans hF
      exact ⟨hc, SI_Wx hSI (hFx.mono fWk_Wx), (a7.mono fFC_Sv).trans (hFx.mono fWk_Sv)⟩
    ·
      have hx := a1.2.2 q q1 q2 (by omega)
      rw [q3] at hx
      have hql := said_r hV (snd_said (ctd_iff.mp q2).1)
      refine z_iload_n hO 2 dX6_countedTells_24 rfl ?_
      refine z_if_eq hO 39 dX6_countedTells_25 (by decide) (by omega) (fun c25 => ?_) (fun c25 => ?_)
      ·
        have hbz0 : bz = 0 := by omega
        subst hbz0
        refine z_aload_n hO 0 dX6_countedTells_39 rfl ?_
        refine z_getR hO (97) fl_X6_12 rfl rfl dX6_countedTells_40 ?_
        refine z_getR hO (99) fl_X6_102 rfl rfl dX6_countedTells_43 ?_
        refine z_iload_n hO 1 dX6_countedTells_46 rfl ?_
        refine z_iald hO rfl (by omega) (by decide) dX6_countedTells_47 (fun r47 => ?_)
        exact z_retI hO hR dX6_countedTells_48 (by first | exact ⟨Or.inl ⟨q, by omega, q2, q3, by rw [tell_0]; exact hx.1⟩, hSI, a7.mono fFC_Sv⟩ | exact ⟨Or.inl ⟨q, by omega, q2, q3, by rw [if_neg (by omega), tell_1, hx.2.1, show k * 4 + ((nm (cv σ 1) q).length : Int) - 1 = k * 4 + (((nm (cv σ 1) q).length : Int) - 1) by omega]; exact hx.2.2 _ (by omega) (by omega)⟩, hSI, a7.mono fFC_Sv⟩)
      ·
        have hbz0 : bz = 1 := by omega
        subst hbz0
        refine z_aload_n hO 0 dX6_countedTells_28 rfl ?_
        refine z_getR hO (97) fl_X6_12 rfl rfl dX6_countedTells_29 ?_
        refine z_iload_n hO 1 dX6_countedTells_32 rfl ?_
        refine z_cvE hO (t_X1_lastNumber (by omega) (fun k k0 k1 => (a6 k k0 k1).2)) cv_X6_98 rfl rfl rfl rfl (by decide) (Nat.le_of_ble_eq_true rfl) dX6_countedTells_33 ?_
        refine z_goto hO 48 dX6_countedTells_36 (by decide) ?_
        exact z_retI hO hR dX6_countedTells_48 (by first | exact ⟨Or.inl ⟨q, by omega, q2, q3, by rw [tell_0]; exact hx.1⟩, hSI, a7.mono fFC_Sv⟩ | exact ⟨Or.inl ⟨q, by omega, q2, q3, by rw [if_neg (by omega), tell_1, hx.2.1, show k * 4 + ((nm (cv σ 1) q).length : Int) - 1 = k * 4 + (((nm (cv σ 1) q).length : Int) - 1) by omega]; exact hx.2.2 _ (by omega) (by omega)⟩, hSI, a7.mono fFC_Sv⟩)
  ·
    rw [a1.1] at c12
    refine z_bipush hO dX6_countedTells_15 (by decide) ?_
    exact z_retI hO hR dX6_countedTells_17 (⟨Or.inr ⟨c12, rfl⟩, hSI, a7.mono fFC_Sv⟩)

set_option maxHeartbeats 4000000 in
set_option maxRecDepth 100000 in
theorem t_X8_counted {g : G} {σ : Sg} {k q : Int} (rk : -2147483648 ≤ k ∧ k ≤ 2147483647) (rq : -2147483648 ≤ q ∧ q ≤ 2147483647) (hV : WV (cv σ 1)) (hI : SI σ) (hS : 0 ≤ σ 1 5 ∧ σ 1 5 ≤ 20) : MM g mX8_counted [.ref (g.2.2.1 0), vI k, vI q] σ (pI (fun r σ' => (¬ (0 ≤ k ∧ 0 ≤ q ∧ q ≤ 1) ∧ r = -1 ∧ σ' = σ) ∨ (0 ≤ k ∧ (0 ≤ q ∧ q ≤ 1) ∧ cdQ (cv σ 1) (σ 1 4) (σ 1 5) k q r ∧ SI σ' ∧ Fm fSv σ σ'))) := by
  refine mm_of rfl (by decide) rfl rfl (Nat.le_of_ble_eq_true rfl) (fun x hO hR => ?_)
  refine z_iload_n hO 1 dX8_counted_0 rfl ?_
  refine z_if_lt hO 13 dX8_counted_1 (by decide) (by omega) (fun c1 => ?_) (fun c1 => ?_)
  ·
    refine z_iconst hO dX8_counted_13 ?_
    refine z_goto hO 35 dX8_counted_14 (by decide) ?_
    exact z_retI hO hR dX8_counted_35 (by first | exact Or.inr ⟨by omega, by omega, p32⟩ | exact Or.inl ⟨by omega, rfl, rfl⟩)
  ·
    refine z_iload_n hO 2 dX8_counted_4 rfl ?_
    refine z_if_lt hO 13 dX8_counted_5 (by decide) (by omega) (fun c5 => ?_) (fun c5 => ?_)
    ·
      refine z_iconst hO dX8_counted_13 ?_
      refine z_goto hO 35 dX8_counted_14 (by decide) ?_
      exact z_retI hO hR dX8_counted_35 (by first | exact Or.inr ⟨by omega, by omega, p32⟩ | exact Or.inl ⟨by omega, rfl, rfl⟩)
    ·
      refine z_iload_n hO 2 dX8_counted_8 rfl ?_
      refine z_iconst hO dX8_counted_9 ?_
      refine z_icmp_le hO 17 dX8_counted_10 (by decide) (by omega) (by decide) (fun c10 => ?_) (fun c10 => ?_)
      ·
        refine z_aload_n hO 0 dX8_counted_17 rfl ?_
        refine z_getR hO (83) fl_X8_44 rfl rfl dX8_counted_18 ?_
        refine z_iload_n hO 1 dX8_counted_21 rfl ?_
        refine z_iload_n hO 2 dX8_counted_22 rfl ?_
        refine z_iconst hO dX8_counted_23 ?_
        refine z_icmp_ne hO 31 dX8_counted_24 (by decide) (by omega) (by decide) (fun c24 => ?_) (fun c24 => ?_)
        ·
          have hq0 : q = 0 := by omega
          subst hq0
          refine z_iconst hO dX8_counted_31 ?_
          refine z_cvI hO (t_X6_countedTells (by omega) (by omega) hV hI hS) cv_X8_179 rfl rfl rfl rfl (by decide) (Nat.le_of_ble_eq_true rfl) dX8_counted_32 (fun v32 s32 p32 => ?_)
          exact z_retI hO hR dX8_counted_35 (by first | exact Or.inr ⟨by omega, by omega, p32⟩ | exact Or.inl ⟨by omega, rfl, rfl⟩)
        ·
          have hq0 : q = 1 := by omega
          subst hq0
          refine z_iconst hO dX8_counted_27 ?_
          refine z_goto hO 32 dX8_counted_28 (by decide) ?_
          refine z_cvI hO (t_X6_countedTells (by omega) (by omega) hV hI hS) cv_X8_179 rfl rfl rfl rfl (by decide) (Nat.le_of_ble_eq_true rfl) dX8_counted_32 (fun v32 s32 p32 => ?_)
          exact z_retI hO hR dX8_counted_35 (by first | exact Or.inr ⟨by omega, by omega, p32⟩ | exact Or.inl ⟨by omega, rfl, rfl⟩)
      ·
        refine z_iconst hO dX8_counted_13 ?_
        refine z_goto hO 35 dX8_counted_14 (by decide) ?_
        exact z_retI hO hR dX8_counted_35 (by first | exact Or.inr ⟨by omega, by omega, p32⟩ | exact Or.inl ⟨by omega, rfl, rfl⟩)
