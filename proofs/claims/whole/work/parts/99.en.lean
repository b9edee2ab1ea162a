/-- how many questions there must be; -4: none -/
noncomputable def qsF (V : Hv) (K S : Int) : Int := if nCt V K S (rdN V).toNat = 0 ∨ 60 < nCt V K S (rdN V).toNat then -4 else mxQ V (cqF V K S) (nCt V K S (rdN V).toNat).toNat (2 ^ (nCt V K S (rdN V).toNat).toNat - 1) (nCt V K S (rdN V).toNat).toNat

set_option maxHeartbeats 4000000 in
set_option maxRecDepth 100000 in
theorem lp_cq3 {g : G} {x : Cx} {σ : Sg} {m : Nat} (hO : Ok g x RX1 cX1_questions 3 4) (hR : Rt g x (some .int) (pI (fun r σ' => r = qsF (cv σ 1) (σ 1 4) (σ 1 5) ∧ Fm f103 σ σ'))) (hV : WV (cv σ 1)) (hA : ccA (cv σ 1) (σ 1 4) (σ 1 5) (rdN (cv σ 1)).toNat σ) (hm : (m : Int) = nCt (cv σ 1) (σ 1 4) (σ 1 5) (rdN (cv σ 1)).toNat) (h60 : m ≤ 60) (hD : DV (cv σ 1)) (hm1 : 1 ≤ m) : ∀ (f t : Nat) (τ : Sg), t ≤ m → m - t < f → Fm f103 σ τ → Z g x 3 23 [(0, .ref (g.2.2.1 97)), (1, vI (mxQ (cv σ 1) (cqF (cv σ 1) (σ 1 4) (σ 1 5)) m (2 ^ m - 1) t)), (2, vI t)] [] τ := by
  intro f
  induction f with
  | zero => intro t τ h0 hk; exact absurd hk (by omega)
  | succ f ih =>
    intro t τ ht hf hFm
    have e1 : τ 1 = σ 1 := hFm.row 1 (fun _ => rfl)
    have eV : cv τ 1 = cv σ 1 := cv_eq e1 (hFm.row 2 (fun _ => rfl)) (hFm.row 3 (fun _ => rfl)) (hFm.row 4 (fun _ => rfl))
    have e97 : τ 97 1 = m := by rw [hFm 97 1 rfl, hA.1]; exact hm.symm
    have hmr := mxQ_r hV (c := (cqF (cv σ 1) (σ 1 4) (σ 1 5))) (m := m) (s := 2 ^ m - 1) t
    refine z_iload_n hO 2 dX1_questions_23 rfl ?_
    refine z_aload_n hO 0 dX1_questions_24 rfl ?_
    refine z_getI hO 1 fl_X1_35 rfl rfl rfl dX1_questions_25 (fun r25 => ?_)
    refine z_icmp_ge hO 47 dX1_questions_28 (by decide) (by omega) (by omega) (fun c28 => ?_) (fun c28 => ?_)
    ·
      have htm : t = m := by omega
      refine z_iload_n hO 1 dX1_questions_47 rfl ?_
      exact z_retI hO hR dX1_questions_48 (⟨by unfold qsF; rw [if_neg (by omega), ← hm, htm, show ((m : Int)).toNat = m by omega], hFm⟩)
    ·
      refine z_iload_n hO 1 dX1_questions_31 rfl ?_
      refine z_aload_n hO 0 dX1_questions_32 rfl ?_
      refine z_iload_n hO 2 dX1_questions_33 rfl ?_
      refine z_cvI hO (t_X1_questionsIfTrue (σ := τ) (m := m) (t := t) (by rw [eV]; exact hV) (by rw [eV, e1]; exact ccA_keep hA (hFm 97 1 rfl) (fun c c0 c1 => hFm.row c (fun k => by unfold f103; simp; omega))) (by rw [eV, e1]; exact hm) h60 (by rw [eV]; exact hD) (by omega)) cv_X1_61 rfl rfl rfl rfl (by decide) (Nat.le_of_ble_eq_true rfl) dX1_questions_34 (fun v34 s34 p34 => ?_)
      rw [eV, e1] at p34
      obtain ⟨rfl, hF2⟩ := p34
      have hpr : 0 ≤ Pq (cv σ 1) (cqF (cv σ 1) (σ 1 4) (σ 1 5)) m (2 ^ m - 1) t ∧ Pq (cv σ 1) (cqF (cv σ 1) (σ 1 4) (σ 1 5)) m (2 ^ m - 1) t ≤ (8 : Nat) := Pq_r hV 8 (2 ^ m - 1) t
      refine z_max hO mx_X1_55 (by decide) (by omega) (by omega) (Nat.le_of_ble_eq_true rfl) dX1_questions_37 ?_
      refine z_istore_n hO (L' := [(1, _), (0, _), (2, _)]) dX1_questions_40 (by decide) rfl ?_
      refine z_iinc hO (L' := [(2, _), (1, _), (0, _)]) 2 dX1_questions_41 rfl (by decide) rfl ?_
      refine z_goto hO 23 dX1_questions_44 (by decide) ?_
      exact z_pick [2, 1, 0] rfl (by have h := ih (t + 1) s34 (by omega) (by omega) (hFm.trans hF2); rw [mxQ_s] at h; exact h)

set_option maxHeartbeats 4000000 in
set_option maxRecDepth 100000 in
theorem t_X1_questions {g : G} {σ : Sg} (hV : WV (cv σ 1)) (hA : ccA (cv σ 1) (σ 1 4) (σ 1 5) (rdN (cv σ 1)).toNat σ) (hD : DV (cv σ 1)) (h97 : 0 ≤ σ 97 1) : MM g mX1_questions [.ref (g.2.2.1 97)] σ (pI (fun r σ' => r = qsF (cv σ 1) (σ 1 4) (σ 1 5) ∧ Fm f103 σ σ')) := by
  refine mm_of rfl (by decide) rfl rfl (Nat.le_of_ble_eq_true rfl) (fun x hO hR => ?_)
  refine z_aload_n hO 0 dX1_questions_0 rfl ?_
  refine z_getI hO 1 fl_X1_35 rfl rfl rfl dX1_questions_1 (fun r1 => ?_)
  refine z_if_eq hO 16 dX1_questions_4 (by decide) (by omega) (fun c4 => ?_) (fun c4 => ?_)
  ·
    refine z_bipush hO dX1_questions_16 (by decide) ?_
    exact z_retI hO hR dX1_questions_18 (⟨by unfold qsF; rw [if_pos (by rw [← hA.1]; omega)], Fm.rf⟩)
  ·
    refine z_aload_n hO 0 dX1_questions_7 rfl ?_
    refine z_getI hO 1 fl_X1_35 rfl rfl rfl dX1_questions_8 (fun r8 => ?_)
    refine z_bipush hO dX1_questions_11 (by decide) ?_
    refine z_icmp_le hO 19 dX1_questions_13 (by decide) (by omega) (by decide) (fun c13 => ?_) (fun c13 => ?_)
    ·
      refine z_iconst hO dX1_questions_19 ?_
      refine z_istore_n hO (L' := [(1, _), (0, _)]) dX1_questions_20 (by decide) rfl ?_
      refine z_iconst hO dX1_questions_21 ?_
      refine z_istore_n hO (L' := [(2, _), (1, _), (0, _)]) dX1_questions_22 (by decide) rfl ?_
      exact z_pick [2, 1, 0] rfl (lp_cq3 (σ := σ) (m := (σ 97 1).toNat) hO hR hV hA (by rw [← hA.1]; omega) (by omega) hD (by omega) 61 0 σ (by omega) (by omega) Fm.rf)
    ·
      refine z_bipush hO dX1_questions_16 (by decide) ?_
      exact z_retI hO hR dX1_questions_18 (⟨by unfold qsF; rw [if_pos (by rw [← hA.1]; omega)], Fm.rf⟩)

set_option maxHeartbeats 4000000 in
set_option maxRecDepth 100000 in
theorem t_X6_questions {g : G} {σ : Sg} (hV : WV (cv σ 1)) (hI : SI σ) (hS : 0 ≤ σ 1 5 ∧ σ 1 5 ≤ 20) (hD : DV (cv σ 1)) : MM g mX6_questions [.ref (g.2.2.1 83)] σ (pI (fun r σ' => r = qsF (cv σ 1) (σ 1 4) (σ 1 5) ∧ SI σ' ∧ Fm fSv σ σ')) := by
  refine mm_of rfl (by decide) rfl rfl (Nat.le_of_ble_eq_true rfl) (fun x hO hR => ?_)
  refine z_aload_n hO 0 dX6_questions_0 rfl ?_
  refine z_cvV hO (t_X6_findCounted hV hI hS) cv_X6_75 rfl rfl rfl rfl (by decide) (Nat.le_of_ble_eq_true rfl) dX6_questions_1 (fun s1 p1 => ?_)
  have hSI := SI_FC hI p1
  obtain ⟨⟨a1, a2⟩, a3, a4, a5, a6, a7⟩ := p1
  have eV := Fm_cv a7 fFC_4
  have e1 : s1 1 = σ 1 := a7.row 1 (fun k => fFC_4 1 k (by decide))
  refine z_aload_n hO 0 dX6_questions_4 rfl ?_
  refine z_getR hO (97) fl_X6_12 rfl rfl dX6_questions_5 ?_
  refine z_cvI hO (t_X1_questions (by rw [eV]; exact hV) (by rw [eV, e1]; exact a1) (by rw [eV]; exact hD) (by rw [a1.1]; exact (nCt_r _ _ _ _).1)) cv_X6_88 rfl rfl rfl rfl (by decide) (Nat.le_of_ble_eq_true rfl) dX6_questions_8 (fun v8 s8 p8 => ?_)
  rw [eV, e1] at p8
  exact z_retI hO hR dX6_questions_11 (⟨p8.1, SI_Wx hSI (p8.2.mono f103_Wx), (a7.mono fFC_Sv).trans ((p8.2.mono f103_Wx).mono fWx_Sv)⟩)

set_option maxHeartbeats 4000000 in
set_option maxRecDepth 100000 in
theorem t_X8_count {g : G} {σ : Sg} {q : Int} (rq : -2147483648 ≤ q ∧ q ≤ 2147483647) (hV : WV (cv σ 1)) (hI : SI σ) (hS : 0 ≤ σ 1 5 ∧ σ 1 5 ≤ 20) (hD : DV (cv σ 1)) : MM g mX8_count [.ref (g.2.2.1 0), vI q] σ (pI (fun r σ' => r = (if q = 0 then σ 1 3 else if q = 1 then σ 1 4 else if q = 2 then σ 1 5 else if q = 3 then nSaid (cv σ 1) (rdN (cv σ 1)).toNat else if q = 4 then nSnd (cv σ 1) (σ 1 4) (rdN (cv σ 1)).toNat else if q = 5 then nCt (cv σ 1) (σ 1 4) (σ 1 5) (rdN (cv σ 1)).toNat else if q = 6 then lkF (cv σ 1) (σ 1 4) (σ 1 5) else if q = 7 then qsF (cv σ 1) (σ 1 4) (σ 1 5) else if q = 8 then (if nxt (cv σ 1) (σ 1 4) (rdN (cv σ 1)).toNat = 9999 then -4 else nxt (cv σ 1) (σ 1 4) (rdN (cv σ 1)).toNat) else if q = 9 then (if bR (cv σ 1) (σ 1 4) = -4 then -4 else spA (cv σ 1) (σ 1 4) (cv σ 1).1.toNat) else if q = 10 then σ 13 2 else -1) ∧ SI σ' ∧ Fm fSv σ σ')) := by
  refine mm_of rfl (by decide) rfl rfl (Nat.le_of_ble_eq_true rfl) (fun x hO hR => ?_)
  refine z_iload_n hO 1 dX8_count_0 rfl ?_
  rcases (show q = 0 ∨ q = 1 ∨ q = 2 ∨ q = 3 ∨ q = 4 ∨ q = 5 ∨ q = 6 ∨ q = 7 ∨ q = 8 ∨ q = 9 ∨ q = 10 ∨ (q < 0 ∨ 10 < q) by omega) with h1 | h1 | h1 | h1 | h1 | h1 | h1 | h1 | h1 | h1 | h1 | h1
  ·
    refine z_tswIn hO 60 dX8_count_1 (by omega) (by omega) (by omega) (by rw [h1]; rfl) (by decide) ?_
    refine z_aload_n hO 0 dX8_count_60 rfl ?_
    refine z_getR hO (1) fl_X8_12 rfl rfl dX8_count_61 ?_
    refine z_getI hO 3 fl_X8_89 rfl rfl rfl dX8_count_64 (fun r64 => ?_)
    exact z_retI hO hR dX8_count_67 (⟨by rw [if_pos (by omega)], hI, Fm.rf⟩)
  ·
    refine z_tswIn hO 68 dX8_count_1 (by omega) (by omega) (by omega) (by rw [h1]; rfl) (by decide) ?_
    refine z_aload_n hO 0 dX8_count_68 rfl ?_
    refine z_getR hO (1) fl_X8_12 rfl rfl dX8_count_69 ?_
    refine z_getI hO 4 fl_X8_92 rfl rfl rfl dX8_count_72 (fun r72 => ?_)
    exact z_retI hO hR dX8_count_75 (⟨by rw [if_neg (by omega), if_pos (by omega)], hI, Fm.rf⟩)
  ·
    refine z_tswIn hO 76 dX8_count_1 (by omega) (by omega) (by omega) (by rw [h1]; rfl) (by decide) ?_
    refine z_aload_n hO 0 dX8_count_76 rfl ?_
    refine z_getR hO (1) fl_X8_12 rfl rfl dX8_count_77 ?_
    refine z_getI hO 5 fl_X8_95 rfl rfl rfl dX8_count_80 (fun r80 => ?_)
    exact z_retI hO hR dX8_count_83 (⟨by rw [if_neg (by omega), if_neg (by omega), if_pos (by omega)], hI, Fm.rf⟩)
  ·
    refine z_tswIn hO 84 dX8_count_1 (by omega) (by omega) (by omega) (by rw [h1]; rfl) (by decide) ?_
    refine z_aload_n hO 0 dX8_count_84 rfl ?_
    refine z_getR hO (83) fl_X8_44 rfl rfl dX8_count_85 ?_
    refine z_cvI hO (t_X6_saidOnes hV hI) cv_X8_98 rfl rfl rfl rfl (by decide) (Nat.le_of_ble_eq_true rfl) dX8_count_88 (fun v88 s88 p88 => ?_)
    exact z_retI hO hR dX8_count_91 (⟨by rw [if_neg (by omega), if_neg (by omega), if_neg (by omega), if_pos (by omega)]; exact p88.1, p88.2⟩)
  ·
    refine z_tswIn hO 92 dX8_count_1 (by omega) (by omega) (by omega) (by rw [h1]; rfl) (by decide) ?_
    refine z_aload_n hO 0 dX8_count_92 rfl ?_
    refine z_getR hO (83) fl_X8_44 rfl rfl dX8_count_93 ?_
    refine z_cvI hO (t_X6_soundOnes hV hI) cv_X8_101 rfl rfl rfl rfl (by decide) (Nat.le_of_ble_eq_true rfl) dX8_count_96 (fun v96 s96 p96 => ?_)
    exact z_retI hO hR dX8_count_99 (⟨by rw [if_neg (by omega), if_neg (by omega), if_neg (by omega), if_neg (by omega), if_pos (by omega)]; exact p96.1, p96.2⟩)
  ·
    refine z_tswIn hO 100 dX8_count_1 (by omega) (by omega) (by omega) (by rw [h1]; rfl) (by decide) ?_
    refine z_aload_n hO 0 dX8_count_100 rfl ?_
    refine z_getR hO (83) fl_X8_44 rfl rfl dX8_count_101 ?_
    refine z_cvI hO (t_X6_countedOnes hV hI hS) cv_X8_104 rfl rfl rfl rfl (by decide) (Nat.le_of_ble_eq_true rfl) dX8_count_104 (fun v104 s104 p104 => ?_)
    exact z_retI hO hR dX8_count_107 (⟨by rw [if_neg (by omega), if_neg (by omega), if_neg (by omega), if_neg (by omega), if_neg (by omega), if_pos (by omega)]; exact p104.1, p104.2⟩)
  ·
    refine z_tswIn hO 108 dX8_count_1 (by omega) (by omega) (by omega) (by rw [h1]; rfl) (by decide) ?_
    refine z_aload_n hO 0 dX8_count_108 rfl ?_
    refine z_getR hO (83) fl_X8_44 rfl rfl dX8_count_109 ?_
    refine z_cvI hO (t_X6_lookAt hV hI hS hD) cv_X8_107 rfl rfl rfl rfl (by decide) (Nat.le_of_ble_eq_true rfl) dX8_count_112 (fun v112 s112 p112 => ?_)
    exact z_retI hO hR dX8_count_115 (⟨by rw [if_neg (by omega), if_neg (by omega), if_neg (by omega), if_neg (by omega), if_neg (by omega), if_neg (by omega), if_pos (by omega)]; exact p112.1, p112.2⟩)
  ·
    refine z_tswIn hO 116 dX8_count_1 (by omega) (by omega) (by omega) (by rw [h1]; rfl) (by decide) ?_
    refine z_aload_n hO 0 dX8_count_116 rfl ?_
    refine z_getR hO (83) fl_X8_44 rfl rfl dX8_count_117 ?_
    refine z_cvI hO (t_X6_questions hV hI hS hD) cv_X8_110 rfl rfl rfl rfl (by decide) (Nat.le_of_ble_eq_true rfl) dX8_count_120 (fun v120 s120 p120 => ?_)
    exact z_retI hO hR dX8_count_123 (⟨by rw [if_neg (by omega), if_neg (by omega), if_neg (by omega), if_neg (by omega), if_neg (by omega), if_neg (by omega), if_neg (by omega), if_pos (by omega)]; exact p120.1, p120.2⟩)
  ·
    refine z_tswIn hO 124 dX8_count_1 (by omega) (by omega) (by omega) (by rw [h1]; rfl) (by decide) ?_
    refine z_aload_n hO 0 dX8_count_124 rfl ?_
    refine z_getR hO (83) fl_X8_44 rfl rfl dX8_count_125 ?_
    refine z_cvI hO (t_X6_nextCost hV hI hS) cv_X8_113 rfl rfl rfl rfl (by decide) (Nat.le_of_ble_eq_true rfl) dX8_count_128 (fun v128 s128 p128 => ?_)
    exact z_retI hO hR dX8_count_131 (⟨by rw [if_neg (by omega), if_neg (by omega), if_neg (by omega), if_neg (by omega), if_neg (by omega), if_neg (by omega), if_neg (by omega), if_neg (by omega), if_pos (by omega)]; exact p128.1, p128.2⟩)
  ·
    refine z_tswIn hO 132 dX8_count_1 (by omega) (by omega) (by omega) (by rw [h1]; rfl) (by decide) ?_
    refine z_aload_n hO 0 dX8_count_132 rfl ?_
    refine z_getR hO (83) fl_X8_44 rfl rfl dX8_count_133 ?_
    refine z_cvI hO (t_X6_spoilt hV hI) cv_X8_116 rfl rfl rfl rfl (by decide) (Nat.le_of_ble_eq_true rfl) dX8_count_136 (fun v136 s136 p136 => ?_)
    exact z_retI hO hR dX8_count_139 (⟨by rw [if_neg (by omega), if_neg (by omega), if_neg (by omega), if_neg (by omega), if_neg (by omega), if_neg (by omega), if_neg (by omega), if_neg (by omega), if_neg (by omega), if_pos (by omega)]; exact p136.1, p136.2⟩)
  ·
    refine z_tswIn hO 140 dX8_count_1 (by omega) (by omega) (by omega) (by rw [h1]; rfl) (by decide) ?_
    refine z_aload_n hO 0 dX8_count_140 rfl ?_
    refine z_getR hO (13) fl_X8_22 rfl rfl dX8_count_141 ?_
    refine z_getI hO 2 fl_X8_119 rfl rfl rfl dX8_count_144 (fun r144 => ?_)
    exact z_retI hO hR dX8_count_147 (⟨by rw [if_neg (by omega), if_neg (by omega), if_neg (by omega), if_neg (by omega), if_neg (by omega), if_neg (by omega), if_neg (by omega), if_neg (by omega), if_neg (by omega), if_neg (by omega), if_pos (by omega)], hI, Fm.rf⟩)
  ·
    refine z_tswOut hO 148 dX8_count_1 (by omega) h1 (by decide) ?_
    refine z_iconst hO dX8_count_148 ?_
    exact z_retI hO hR dX8_count_149 (⟨by rw [if_neg (by omega), if_neg (by omega), if_neg (by omega), if_neg (by omega), if_neg (by omega), if_neg (by omega), if_neg (by omega), if_neg (by omega), if_neg (by omega), if_neg (by omega), if_neg (by omega)], hI, Fm.rf⟩)
