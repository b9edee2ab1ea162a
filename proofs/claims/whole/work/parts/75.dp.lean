theorem SI_gen {σ σ' : Sg} (h : SI σ) (p : ∀ (c : Nat) (k : Int), (c ≤ 4 ∨ (83 ≤ c ∧ c ≤ 85) ∨ (97 ≤ c ∧ c ≤ 102)) → σ' c k = σ c k) : SI σ' := by
  obtain ⟨h1, h2, h3, h4⟩ := h
  have row : ∀ c : Nat, (c ≤ 4 ∨ (83 ≤ c ∧ c ≤ 85) ∨ (97 ≤ c ∧ c ≤ 102)) → σ' c = σ c := fun c hc => funext fun k => p c k hc
  have eV : cv σ' 1 = cv σ 1 := cv_eq (row 1 (by omega)) (row 2 (by omega)) (row 3 (by omega)) (row 4 (by omega))
  have e1 := row 1 (by omega)
  have e83 := row 83 (by omega)
  have e97 := row 97 (by omega)
  refine ⟨fun z => ?_, fun z => ?_, fun z => ?_, fun k k0 k1 => by rw [row 100 (by omega)]; exact h4 k k0 k1⟩
  · rw [e83] at z
    rw [eV, e1]
    exact bkQ_keep (h1 z) (fun k k0 k1 => by rw [e83]) (row 84 (by omega)) (row 85 (by omega))
  · rw [e97] at z
    rw [eV, e1]
    exact ⟨ccA_keep (h2 z).1 (by rw [e97]) (fun c c0 c1 => row c (by omega)), by unfold nxA; rw [e83]; exact (h2 z).2⟩
  · rw [e83] at z
    rw [eV, e1, e83]; exact h3 z
theorem fSv_o {c : Nat} {k : Int} (h : c < 83 ∨ 103 < c) : fSv c k = false := by unfold fSv; simp; omega
theorem SZ_Sv {σ τ : Sg} (h : SZ σ) (p : ∀ (c : Nat) (k : Int), 104 ≤ c → c ≤ 112 → c % 2 = 1 → τ c k = σ c k) : SZ τ := by
  intro s s0 s1
  rw [p _ _ (by omega) (by omega) (by omega), p _ _ (by omega) (by omega) (by omega)]; exact h s s0 s1
theorem bestF_2 {V : Hv} {K : Int} (h : bR V K ≠ -4) : bestF V K (-2) = (nm V (bR V K)).length := by
  unfold bestF; rw [if_neg (by decide), if_neg h, if_neg (by decide), if_pos rfl]
theorem bestF_2n {V : Hv} {K : Int} (h : bR V K = -4) : bestF V K (-2) = -4 := by
  unfold bestF; rw [if_neg (by decide), if_pos h]
theorem bestF_k {V : Hv} {K k : Int} (h : bR V K ≠ -4) (h0 : 0 ≤ k) (h1 : k < (nm V (bR V K)).length) : bestF V K k = lrow (nm V (bR V K)) k := by
  unfold bestF; rw [if_neg (by omega), if_neg h, if_neg (by omega), if_neg (by omega), if_pos h1]
theorem lrow_r {l : List Int} (h : ∀ v ∈ l, 0 < v ∧ v ≤ 999999) (k : Int) : 0 ≤ lrow l k ∧ lrow l k ≤ 999999 := by
  unfold lrow
  rw [List.getD_eq_getElem?_getD]
  cases e : l[k.toNat]? with
  | none => exact ⟨Int.le_refl 0, by decide⟩
  | some v => have := h v (List.mem_of_getElem? e); simp only [Option.getD_some]; omega

noncomputable def flmQ (σ : Sg) (s lane i0 : Int) (m : Int) (τ : Sg) : Prop := SI τ ∧ (∀ j : Int, τ (105 + 2 * s.toNat + 1) j = if i0 ≤ j ∧ j < i0 + m then cutF (lrow (nm (cv σ 1) (bR (cv σ 1) (σ 1 4))) (j - i0)) lane else σ (105 + 2 * s.toNat + 1) j) ∧ ∀ (c : Nat) (j : Int), (c < 83 ∨ 103 < c) → c ≠ 105 + 2 * s.toNat + 1 → τ c j = σ c j

set_option maxHeartbeats 4000000 in
set_option maxRecDepth 100000 in
theorem lp_cfilm {g : G} {x : Cx} {σ : Sg} {s lane i0 : Int} (hO : Ok g x RX8 cX8_film 8 6) (hR : Rt g x (some .int) (pI (fun r σ' => (¬ ((0 ≤ s ∧ s ≤ 3) ∧ 0 ≤ lane ∧ lane ≤ 3) ∧ r = -1 ∧ σ' = σ) ∨ (((0 ≤ s ∧ s ≤ 3) ∧ 0 ≤ lane ∧ lane ≤ 3) ∧ (bR (cv σ 1) (σ 1 4)) = -4 ∧ r = -4 ∧ SI σ' ∧ Fm fSv σ σ') ∨ (((0 ≤ s ∧ s ≤ 3) ∧ 0 ≤ lane ∧ lane ≤ 3) ∧ (bR (cv σ 1) (σ 1 4)) ≠ -4 ∧ r ≠ 0 ∧ r = (if σ (105 + 2 * s.toNat) 1 = -1 then (-11 : Int) else if σ (105 + 2 * s.toNat) 1 ≠ lane then -12 else if i0 < 0 ∨ ((nm (cv σ 1) (bR (cv σ 1) (σ 1 4))).length : Int) < 0 ∨ σ (105 + 2 * s.toNat) 2 - ((nm (cv σ 1) (bR (cv σ 1) (σ 1 4))).length : Int) < i0 then -13 else 0) ∧ SI σ' ∧ Fm fSv σ σ') ∨ (((0 ≤ s ∧ s ≤ 3) ∧ 0 ≤ lane ∧ lane ≤ 3) ∧ (bR (cv σ 1) (σ 1 4)) ≠ -4 ∧ (if σ (105 + 2 * s.toNat) 1 = -1 then (-11 : Int) else if σ (105 + 2 * s.toNat) 1 ≠ lane then -12 else if i0 < 0 ∨ ((nm (cv σ 1) (bR (cv σ 1) (σ 1 4))).length : Int) < 0 ∨ σ (105 + 2 * s.toNat) 2 - ((nm (cv σ 1) (bR (cv σ 1) (σ 1 4))).length : Int) < i0 then -13 else 0) = 0 ∧ r = ((nm (cv σ 1) (bR (cv σ 1) (σ 1 4))).length : Int) ∧ flmQ σ s lane i0 ((nm (cv σ 1) (bR (cv σ 1) (σ 1 4))).length : Int) σ')))) (hV : WV (cv σ 1)) (hZ : SZ σ) (hs : 0 ≤ s ∧ s ≤ 3) (hl : 0 ≤ lane ∧ lane ≤ 3) (hbr : (bR (cv σ 1) (σ 1 4)) ≠ -4) (hw : (if σ (105 + 2 * s.toNat) 1 = -1 then (-11 : Int) else if σ (105 + 2 * s.toNat) 1 ≠ lane then -12 else if i0 < 0 ∨ ((nm (cv σ 1) (bR (cv σ 1) (σ 1 4))).length : Int) < 0 ∨ σ (105 + 2 * s.toNat) 2 - ((nm (cv σ 1) (bR (cv σ 1) (σ 1 4))).length : Int) < i0 then -13 else 0) = 0) (hlane : σ (105 + 2 * s.toNat) 1 = lane) (hin : 0 ≤ i0 ∧ i0 + ((nm (cv σ 1) (bR (cv σ 1) (σ 1 4))).length : Int) ≤ σ (105 + 2 * s.toNat) 2) : ∀ (f k : Nat) (τ : Sg), (k : Int) ≤ ((nm (cv σ 1) (bR (cv σ 1) (σ 1 4))).length : Int) → ((nm (cv σ 1) (bR (cv σ 1) (σ 1 4))).length : Int) - k < f → flmQ σ s lane i0 k τ → Z g x 8 65 [(0, .ref (g.2.2.1 0)), (3, vI i0), (4, vI ((nm (cv σ 1) (bR (cv σ 1) (σ 1 4))).length : Int)), (5, .ref (g.2.2.1 (105 + 2 * s.toNat))), (7, vI k)] [] τ := by
  have hds := sd_i s.toNat (by omega)
  have hbl := said_r hV (snd_said (best_r hV hbr).2.2.2)
  have hz9 := (hZ s hs.1 hs.2).1
  intro f
  induction f with
  | zero => intro k τ h0 hk; exact absurd hk (by omega)
  | succ f ih =>
    intro k τ h0 hk hQ
    have eV : cv τ 1 = (cv σ 1) := cv_eq (funext fun k => hQ.2.2 1 k (by omega) (by omega)) (funext fun k => hQ.2.2 2 k (by omega) (by omega)) (funext fun k => hQ.2.2 3 k (by omega) (by omega)) (funext fun k => hQ.2.2 4 k (by omega) (by omega))
    have eK : τ 1 4 = σ 1 4 := hQ.2.2 1 4 (by omega) (by omega)
    refine z_iload hO 4 dX8_film_65 rfl ?_
    refine z_iload hO 2 dX8_film_67 rfl ?_
    refine z_icmp_ge hO 97 dX8_film_69 (by decide) (by omega) (by omega) (fun c69 => ?_) (fun c69 => ?_)
    ·
      have hkm : (k : Int) = ((nm (cv σ 1) (bR (cv σ 1) (σ 1 4))).length : Int) := by omega
      refine z_iload hO 2 dX8_film_97 rfl ?_
      exact z_retI hO hR dX8_film_99 (Or.inr (Or.inr (Or.inr ⟨⟨hs, hl⟩, hbr, hw, rfl, by rw [← hkm]; exact hQ⟩)))
    ·
      refine z_aload hO 3 dX8_film_72 rfl ?_
      refine z_iload_n hO 1 dX8_film_74 rfl ?_
      refine z_iload hO 4 dX8_film_75 rfl ?_
      refine z_iadd hO dX8_film_77 ?_
      refine z_aload_n hO 0 dX8_film_78 rfl ?_
      refine z_getR hO (83) fl_X8_44 rfl rfl dX8_film_79 ?_
      refine z_iload hO 4 dX8_film_82 rfl ?_
      refine z_cvI hO (t_X6_bestTells (by omega) (by rw [eV]; exact hV) hQ.1) cv_X8_166 rfl rfl rfl rfl (by decide) (Nat.le_of_ble_eq_true rfl) dX8_film_84 (fun v84 s84 p84 => ?_)
      obtain ⟨a0, a1, a2⟩ := p84
      rw [eV, eK, bestF_k hbr (by omega) (by omega)] at a0
      subst a0
      have hlr := lrow_r hbl.2.2 (k : Int)
      have hz2 : 0 ≤ s84 (105 + 2 * s.toNat) 2 ∧ s84 (105 + 2 * s.toNat) 2 ≤ 24 := by rw [a2 _ _ (fSv_o (by omega)), hQ.2.2 _ _ (by omega) (by omega)]; exact (hZ s hs.1 hs.2).1
      have hzz : s84 (105 + 2 * s.toNat) 2 = σ (105 + 2 * s.toNat) 2 := by rw [a2 _ _ (fSv_o (by omega)), hQ.2.2 _ _ (by omega) (by omega)]
      have hzl : s84 (105 + 2 * s.toNat) 1 = lane := by rw [a2 _ _ (fSv_o (by omega)), hQ.2.2 _ _ (by omega) (by omega)]; exact hlane
      refine z_i2l hO dX8_film_87 (by omega) ?_
      refine z_cvV hO (t_X5_put hds (by omega) (by omega) hz2) cv_X8_211 hds.1 rfl rfl rfl (by decide) (Nat.le_of_ble_eq_true rfl) dX8_film_88 (fun s88 p88 => ?_)
      rw [if_pos (by omega), hzl] at p88
      subst p88
      refine z_iinc hO (L' := [(7, _), (0, _), (3, _), (4, _), (5, _)]) 4 dX8_film_91 rfl (by decide) rfl ?_
      refine z_goto hO 65 dX8_film_94 (by decide) ?_
      refine z_pick [1, 2, 3, 4, 0] rfl (ih (k + 1) _ (by omega) (by omega) ⟨SI_gen a1 (fun c z hc => up_ne (by omega)), fun j => ?_, fun c j hc hn => ?_⟩)
      · by_cases q : j = i0 + k
        · rw [q, up_eq, if_pos (by omega)]; congr 2; omega
        · rw [up_nk q, a2 _ _ (fSv_o (by omega)), hQ.2.1 j]; by_cases z : i0 ≤ j ∧ j < i0 + k
          · rw [if_pos z, if_pos (by omega)]
          · rw [if_neg z, if_neg (by omega)]
      · rw [up_ne hn, a2 _ _ (fSv_o hc)]; exact hQ.2.2 c j hc hn

set_option maxHeartbeats 4000000 in
set_option maxRecDepth 100000 in
theorem t_X8_film {g : G} {σ : Sg} {s lane i0 : Int} (rs : -2147483648 ≤ s ∧ s ≤ 2147483647) (rl : -2147483648 ≤ lane ∧ lane ≤ 2147483647) (ri : -2147483648 ≤ i0 ∧ i0 ≤ 2147483647) (hV : WV (cv σ 1)) (hI : SI σ) (hZ : SZ σ) : MM g mX8_film [.ref (g.2.2.1 0), vI s, vI lane, vI i0] σ (pI (fun r σ' => (¬ ((0 ≤ s ∧ s ≤ 3) ∧ 0 ≤ lane ∧ lane ≤ 3) ∧ r = -1 ∧ σ' = σ) ∨ (((0 ≤ s ∧ s ≤ 3) ∧ 0 ≤ lane ∧ lane ≤ 3) ∧ (bR (cv σ 1) (σ 1 4)) = -4 ∧ r = -4 ∧ SI σ' ∧ Fm fSv σ σ') ∨ (((0 ≤ s ∧ s ≤ 3) ∧ 0 ≤ lane ∧ lane ≤ 3) ∧ (bR (cv σ 1) (σ 1 4)) ≠ -4 ∧ r ≠ 0 ∧ r = (if σ (105 + 2 * s.toNat) 1 = -1 then (-11 : Int) else if σ (105 + 2 * s.toNat) 1 ≠ lane then -12 else if i0 < 0 ∨ ((nm (cv σ 1) (bR (cv σ 1) (σ 1 4))).length : Int) < 0 ∨ σ (105 + 2 * s.toNat) 2 - ((nm (cv σ 1) (bR (cv σ 1) (σ 1 4))).length : Int) < i0 then -13 else 0) ∧ SI σ' ∧ Fm fSv σ σ') ∨ (((0 ≤ s ∧ s ≤ 3) ∧ 0 ≤ lane ∧ lane ≤ 3) ∧ (bR (cv σ 1) (σ 1 4)) ≠ -4 ∧ (if σ (105 + 2 * s.toNat) 1 = -1 then (-11 : Int) else if σ (105 + 2 * s.toNat) 1 ≠ lane then -12 else if i0 < 0 ∨ ((nm (cv σ 1) (bR (cv σ 1) (σ 1 4))).length : Int) < 0 ∨ σ (105 + 2 * s.toNat) 2 - ((nm (cv σ 1) (bR (cv σ 1) (σ 1 4))).length : Int) < i0 then -13 else 0) = 0 ∧ r = ((nm (cv σ 1) (bR (cv σ 1) (σ 1 4))).length : Int) ∧ flmQ σ s lane i0 ((nm (cv σ 1) (bR (cv σ 1) (σ 1 4))).length : Int) σ'))) := by
  refine mm_of rfl (by decide) rfl rfl (Nat.le_of_ble_eq_true rfl) (fun x hO hR => ?_)
  refine z_iload_n hO 1 dX8_film_0 rfl ?_
  refine z_csQ hO (t_X8_isSheet (by omega)) cs_X8_197 rfl rfl (by decide) (Nat.le_of_ble_eq_true rfl) dX8_film_1 (fun c1 => ?_) (fun c1 => ?_)
  ·
    refine z_if_eq hO 14 dX8_film_4 (by decide) (by decide) (fun c4 => absurd c4 (by omega)) (fun c4 => ?_)
    refine z_iload_n hO 2 dX8_film_7 rfl ?_
    refine z_csQ hO (t_X8_isLane (by omega)) cs_X8_200 rfl rfl (by decide) (Nat.le_of_ble_eq_true rfl) dX8_film_8 (fun c8 => ?_) (fun c8 => ?_)
    ·
      refine z_if_ne hO 16 dX8_film_11 (by decide) (by decide) (fun c11 => ?_) (fun c11 => absurd c11 (by omega))
      refine z_aload_n hO 0 dX8_film_16 rfl ?_
      refine z_getR hO (83) fl_X8_44 rfl rfl dX8_film_17 ?_
      refine z_bipush hO dX8_film_20 (by decide) ?_
      refine z_cvI hO (t_X6_bestTells (by omega) hV hI) cv_X8_166 rfl rfl rfl rfl (by decide) (Nat.le_of_ble_eq_true rfl) dX8_film_22 (fun v22 s22 p22 => ?_)
      obtain ⟨a0, a1, a2⟩ := p22
      refine z_istore hO (L' := [(4, _), (0, _), (1, _), (2, _), (3, _)]) dX8_film_25 (by decide) rfl ?_
      refine z_iload hO 0 dX8_film_27 rfl ?_
      refine z_if_ge hO 35 dX8_film_29 (by decide) (by rw [a0]; by_cases z : (bR (cv σ 1) (σ 1 4)) = -4; (rw [bestF_2n z]; omega); (rw [bestF_2 z]; have := said_r hV (snd_said (best_r hV z).2.2.2); omega)) (fun c29 => ?_) (fun c29 => ?_)
      ·
        have hbr : (bR (cv σ 1) (σ 1 4)) ≠ -4 := fun z => by rw [a0, bestF_2n z] at c29; omega
        have hbl := said_r hV (snd_said (best_r hV hbr).2.2.2)
        rw [bestF_2 hbr] at a0
        subst a0
        have hds := sd_i s.toNat (by omega)
        have hZ2 : SZ s22 := SZ_Sv hZ (fun c k c0 c1 c2 => a2 c k (fSv_o (by omega)))
        have hz9 := hZ2 s (by omega) (by omega)
        have q1 : s22 (105 + 2 * s.toNat) 1 = σ (105 + 2 * s.toNat) 1 := a2 _ _ (fSv_o (by omega))
        have q2 : s22 (105 + 2 * s.toNat) 2 = σ (105 + 2 * s.toNat) 2 := a2 _ _ (fSv_o (by omega))
        refine z_aload_n hO 1 dX8_film_35 rfl ?_
        refine z_getR hO (104) fl_X8_50 rfl rfl dX8_film_36 ?_
        refine z_iload_n hO 2 dX8_film_39 rfl ?_
        refine z_aald hO (105 + 2 * s.toNat) rfl (by decide) (by simp only [List.length_cons, List.length_nil]; omega) (by decide) (shs (by omega)) dX8_film_40 ?_
        refine z_astore hO (L' := [(5, _), (4, _), (0, _), (1, _), (2, _), (3, _)]) dX8_film_41 (by decide) rfl ?_
        refine z_aload hO 0 dX8_film_43 rfl ?_
        refine z_iload_n hO 4 dX8_film_45 rfl ?_
        refine z_iload_n hO 5 dX8_film_46 rfl ?_
        refine z_iload hO 1 dX8_film_47 rfl ?_
        refine z_cvE hO (t_X5_refusal hds (by omega) (by omega) (by omega) hz9.1) cv_X8_203 hds.1 rfl rfl rfl (by decide) (Nat.le_of_ble_eq_true rfl) dX8_film_49 ?_
        refine z_istore hO (L' := [(6, _), (5, _), (4, _), (0, _), (1, _), (2, _), (3, _)]) dX8_film_52 (by decide) rfl ?_
        refine z_iload hO 0 dX8_film_54 rfl ?_
        rw [q1, q2]
        refine z_if_eq hO 62 dX8_film_56 (by decide) (by (repeat' split) <;> omega) (fun c56 => ?_) (fun c56 => ?_)
        ·
          refine z_iconst hO dX8_film_62 ?_
          refine z_istore hO (L' := [(7, _), (6, _), (5, _), (4, _), (0, _), (1, _), (2, _), (3, _)]) dX8_film_63 (by decide) rfl ?_
          have hwz := c56
          have hx1 : σ (105 + 2 * s.toNat) 1 = lane ∧ ¬ (i0 < 0 ∨ ((nm (cv σ 1) (bR (cv σ 1) (σ 1 4))).length : Int) < 0 ∨ σ (105 + 2 * s.toNat) 2 - ((nm (cv σ 1) (bR (cv σ 1) (σ 1 4))).length : Int) < i0) := by
                              by_cases y1 : σ (105 + 2 * s.toNat) 1 = -1
                              · rw [if_pos y1] at hwz; exact absurd hwz (by decide)
                              · rw [if_neg y1] at hwz
                                by_cases y2 : σ (105 + 2 * s.toNat) 1 ≠ lane
                                · rw [if_pos y2] at hwz; exact absurd hwz (by decide)
                                · rw [if_neg y2] at hwz
                                  by_cases y3 : (i0 < 0 ∨ ((nm (cv σ 1) (bR (cv σ 1) (σ 1 4))).length : Int) < 0 ∨ σ (105 + 2 * s.toNat) 2 - ((nm (cv σ 1) (bR (cv σ 1) (σ 1 4))).length : Int) < i0)
                                  · rw [if_pos y3] at hwz; exact absurd hwz (by decide)
                                  · exact ⟨by omega, y3⟩
          exact z_pick [4, 7, 3, 2, 0] rfl (lp_cfilm (σ := σ) hO hR hV hZ (by omega) (by omega) hbr c56 hx1.1 (by omega) 6 0 _ (by omega) (by omega) ⟨a1, fun j => by rw [if_neg (by omega)]; exact a2 _ _ (fSv_o (by omega)), fun c j hc hn => a2 _ _ (fSv_o hc)⟩)
        ·
          refine z_iload hO 0 dX8_film_59 rfl ?_
          exact z_retI hO hR dX8_film_61 (Or.inr (Or.inr (Or.inl ⟨⟨by omega, by omega⟩, hbr, c56, rfl, a1, a2⟩)))
      ·
        have hbr : (bR (cv σ 1) (σ 1 4)) = -4 := by apply Classical.byContradiction; intro z; rw [a0, bestF_2 z] at c29; omega
        refine z_bipush hO dX8_film_32 (by decide) ?_
        exact z_retI hO hR dX8_film_34 (Or.inr (Or.inl ⟨⟨by omega, by omega⟩, hbr, rfl, a1, a2⟩))
    ·
      refine z_if_ne hO 16 dX8_film_11 (by decide) (by decide) (fun c11 => absurd c11 (by omega)) (fun c11 => ?_)
      refine z_iconst hO dX8_film_14 ?_
      exact z_retI hO hR dX8_film_15 (Or.inl ⟨by omega, rfl, rfl⟩)
  ·
    refine z_if_eq hO 14 dX8_film_4 (by decide) (by decide) (fun c4 => ?_) (fun c4 => absurd c4 (by omega))
    refine z_iconst hO dX8_film_14 ?_
    exact z_retI hO hR dX8_film_15 (Or.inl ⟨by omega, rfl, rfl⟩)
