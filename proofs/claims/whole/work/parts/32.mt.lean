/-! ===== one slot taken otherwise ===== -/
def alt (p : Int → Int) (k c : Int) : Int → Int := fun j => if j = k then c else p j
noncomputable def spC (V : Hv) (K k c : Int) : Bool := (sdP V (alt (pk V (bR V K)) k c)).2 && !(dec (hld K (lrow (sdP V (alt (pk V (bR V K)) k c)).1) (sdP V (alt (pk V (bR V K)) k c)).1.length))
noncomputable def spS (V : Hv) (K k : Int) : Nat → Int
  | 0 => 0
  | m + 1 => spS V K k m + b2i (spC V K k m)
noncomputable def spA (V : Hv) (K : Int) : Nat → Int
  | 0 => 0
  | m + 1 => spA V K m + spS V K m (V.2.1 m).toNat
theorem spS_s (V : Hv) (K k : Int) (m : Nat) : spS V K k (m + 1) = spS V K k m + b2i (spC V K k m) := rfl
theorem spA_s (V : Hv) (K : Int) (m : Nat) : spA V K (m + 1) = spA V K m + spS V K m (V.2.1 m).toNat := rfl
theorem spS_r (V : Hv) (K k : Int) (m : Nat) : 0 ≤ spS V K k m ∧ spS V K k m ≤ m := by
  induction m with
  | zero => exact ⟨Int.le_refl 0, Int.le_refl 0⟩
  | succ m ih => have := b2i_r (spC V K k m); rw [spS_s]; omega
theorem spA_r {V : Hv} (hV : WV V) (K : Int) (m : Nat) (hm : (m : Int) ≤ V.1) : 0 ≤ spA V K m ∧ spA V K m ≤ 4 * m := by
  induction m with
  | zero => exact ⟨Int.le_refl 0, Int.le_refl 0⟩
  | succ m ih =>
    have := ih (by omega); have := hV.2.2 m (by omega) (by omega); have := spS_r V K m (V.2.1 m).toNat
    rw [spA_s]; omega
theorem alt_WP {V : Hv} {p : Int → Int} (hp : WP V p) {k c : Int} (hc : 0 ≤ c ∧ c < V.2.1 k) : WP V (alt p k c) := by
  intro j h0 h1; unfold alt; split
  · rename_i e; rw [e]; exact hc
  · exact hp j h0 h1
theorem alt_self (p : Int → Int) (k : Int) : alt p k (p k) = p := by
  funext j; unfold alt; split
  · rename_i e; rw [e]
  · rfl
theorem spC_best {V : Hv} {K : Int} (h : snd V K (bR V K) = true) (k : Int) : spC V K k (pk V (bR V K) k) = false := by
  unfold spC; rw [alt_self]
  unfold snd at h
  have := (Bool.and_eq_true_iff.mp h).2
  show ((sdP V (pk V (bR V K))).2 && !(dec (hld K (lrow (nm V (bR V K))) (nm V (bR V K)).length))) = false
  rw [this]; simp
theorem sdP_congr {V : Hv} {p p' : Int → Int} (h : ∀ j : Int, 0 ≤ j → j < V.1 → p j = p' j) : sdP V p = sdP V p' := by
  unfold sdP; rw [lstW_congr V.1.toNat (fun j h0 h1 => h j h0 (by omega))]

set_option maxHeartbeats 4000000 in
set_option maxRecDepth 100000 in
theorem lp_spoilt1 {g : G} {x : Cx} {σ : Sg} {i : Nat} {n0 : Int} (hO : Ok g x RX9 cX9_spoilt 6 11) (hV : WV (mv (σ 114))) (hi : (i : Int) < σ 114 0) (hbs : snd (mv (σ 114)) (σ 114 1) (bR (mv (σ 114)) (σ 114 1)) = true) (hb : 0 ≤ (bR (mv (σ 114)) (σ 114 1)) ∧ (bR (mv (σ 114)) (σ 114 1)) ≤ 65536) (hn0 : 0 ≤ n0 ∧ n0 ≤ 32) (hE : ∀ τ, Fm fFd σ τ → τ 113 10 = (bR (mv (σ 114)) (σ 114 1)) → Z g x 6 118 [(0, .ref (g.2.2.1 113)), (1, vI (n0 + spS (mv (σ 114)) (σ 114 1) i (σ 114 (4 + 9 * (i : Int))).toNat)), (2, vI i)] [] τ) : ∀ (k c : Nat) (n : Int) (τ : Sg), (c : Int) ≤ σ 114 (4 + 9 * (i : Int)) → σ 114 (4 + 9 * (i : Int)) - c < k → n = n0 + spS (mv (σ 114)) (σ 114 1) i c → Fm fFd σ τ → τ 113 10 = (bR (mv (σ 114)) (σ 114 1)) → Z g x 6 32 [(0, .ref (g.2.2.1 113)), (1, vI n), (2, vI i), (3, vI c)] [] τ := by
  have hW := hV.2.2 i (by omega) hi
  rw [mv_c] at hW
  have hn8 := hV.2.1
  rw [mv_n] at hn8
  intro k
  induction k with
  | zero => intro c n τ h0 hk; exact absurd hk (by omega)
  | succ k ih =>
    intro c n τ h0 hk hn hFm e10
    have e114 : τ 114 = σ 114 := hFm.row 114 (fun _ => rfl)
    subst hn
    refine z_iload_n hO 3 dX9_spoilt_32 rfl ?_
    refine z_aload_n hO 0 dX9_spoilt_33 rfl ?_
    refine z_getR hO (114) fl_X9_7 rfl rfl dX9_spoilt_34 ?_
    refine z_aload_n hO 0 dX9_spoilt_37 rfl ?_
    refine z_iload_n hO 2 dX9_spoilt_38 rfl ?_
    refine z_cvE hO (t_X9_at) cv_X9_79 rfl rfl rfl rfl (by decide) (Nat.le_of_ble_eq_true rfl) dX9_spoilt_39 ?_
    try simp only [fl_row_ne, fl_ne, up_row_ne, up_ne, up_eq, up_nk, up_up, up_self, ne_eq, Nat.reduceEqDiff, Int.reduceEq, reduceCtorEq, not_false_eq_true, not_true_eq_false, e114, e10]
    refine z_iald hO rfl (by omega) (by decide) dX9_spoilt_42 (fun r42 => ?_)
    try simp only [fl_row_ne, fl_ne, up_row_ne, up_ne, up_eq, up_nk, up_up, up_self, ne_eq, Nat.reduceEqDiff, Int.reduceEq, reduceCtorEq, not_false_eq_true, not_true_eq_false, e114, e10] at r42 ⊢
    refine z_icmp_ge hO 118 dX9_spoilt_43 (by decide) (by omega) (by omega) (fun c43 => ?_) (fun c43 => ?_)
    ·
      have hc3 : c = (σ 114 (4 + 9 * (i : Int))).toNat := by omega
      subst hc3
      exact z_pick [0, 1, 2] rfl (hE τ hFm e10)
    ·
      have hcs := spS_r (mv (σ 114)) (σ 114 1) i c
      have hpc := pk_WP hV (bR (mv (σ 114)) (σ 114 1)) i (by omega) (show (i : Int) < σ 114 0 by omega)
      rw [mv_c] at hpc
      refine z_aload_n hO 0 dX9_spoilt_46 rfl ?_
      refine z_aload_n hO 0 dX9_spoilt_47 rfl ?_
      refine z_getI hO 10 fl_X9_135 rfl rfl rfl dX9_spoilt_48 (fun r48 => ?_)
      try simp only [fl_row_ne, fl_ne, up_row_ne, up_ne, up_eq, up_nk, up_up, up_self, ne_eq, Nat.reduceEqDiff, Int.reduceEq, reduceCtorEq, not_false_eq_true, not_true_eq_false, e114, e10] at r48 ⊢
      refine z_cvB hO (t_X9_takes (r := (bR (mv (σ 114)) (σ 114 1))) (by rw [e114]; exact hV) (by omega)) cv_X9_144 rfl rfl rfl rfl (by decide) (Nat.le_of_ble_eq_true rfl) dX9_spoilt_51 (fun s51 p51 => ?_) (fun s51 p51 => ?_)
      ·
        rw [e114] at p51
        have q114 : s51 114 = σ 114 := (p51.2.2.row 114 (fun _ => rfl)).trans e114
        have q10 : s51 113 10 = _ := (p51.2.2 113 10 rfl).trans e10
        have q115 := p51.2.1 i (by omega) (by omega)
        have hF2 : Fm fFd σ s51 := hFm.trans (p51.2.2.mono fTk_Fd)
        refine z_istore hO (L' := [(4, _), (0, _), (1, _), (2, _), (3, _)]) dX9_spoilt_54 (by decide) rfl ?_
        refine z_aload_n hO 1 dX9_spoilt_56 rfl ?_
        refine z_getR hO (115) fl_X9_13 rfl rfl dX9_spoilt_57 ?_
        refine z_iload_n hO 3 dX9_spoilt_60 rfl ?_
        refine z_iald hO rfl (by omega) (by decide) dX9_spoilt_61 (fun r61 => ?_)
        try simp only [fl_row_ne, fl_ne, up_row_ne, up_ne, up_eq, up_nk, up_up, up_self, ne_eq, Nat.reduceEqDiff, Int.reduceEq, reduceCtorEq, not_false_eq_true, not_true_eq_false, e114, e10, q114, q115] at r61 ⊢
        refine z_iload_n hO 4 dX9_spoilt_62 rfl ?_
        refine z_icmp_eq hO 70 dX9_spoilt_63 (by decide) (by omega) (by omega) (fun c63 => ?_) (fun c63 => ?_)
        ·
          have hsp : spC (mv (σ 114)) (σ 114 1) i c = false := by rw [← c63]; exact spC_best hbs i
          refine z_iconst hO dX9_spoilt_70 ?_
          refine z_istore hO (L' := [(5, _), (4, _), (0, _), (1, _), (2, _), (3, _)]) dX9_spoilt_71 (by decide) rfl ?_
          refine z_aload_n hO 2 dX9_spoilt_73 rfl ?_
          refine z_getR hO (115) fl_X9_13 rfl rfl dX9_spoilt_74 ?_
          refine z_iload_n hO 4 dX9_spoilt_77 rfl ?_
          refine z_iload_n hO 5 dX9_spoilt_78 rfl ?_
          refine z_iast hO rfl (by omega) (by decide) (by omega) dX9_spoilt_79 ?_
          refine z_iload_n hO 3 dX9_spoilt_80 rfl ?_
          refine z_iload hO 1 dX9_spoilt_81 rfl ?_
          refine z_if_eq hO 109 dX9_spoilt_83 (by decide) (by decide) (fun c83 => absurd c83 (by omega)) (fun c83 => ?_)
          refine z_iload hO 0 dX9_spoilt_86 rfl ?_
          refine z_if_eq hO 109 dX9_spoilt_88 (by decide) (by decide) (fun c88 => ?_) (fun c88 => absurd c88 (by omega))
          refine z_iconst hO dX9_spoilt_109 ?_
          refine z_iadd hO dX9_spoilt_110 ?_
          refine z_istore_n hO (L' := [(1, _), (5, _), (4, _), (0, _), (2, _), (3, _)]) dX9_spoilt_111 (by decide) rfl ?_
          refine z_iinc hO (L' := [(3, _), (1, _), (5, _), (4, _), (0, _), (2, _)]) 5 dX9_spoilt_112 rfl (by decide) rfl ?_
          refine z_goto hO 32 dX9_spoilt_115 (by decide) ?_
          have hss : spS (mv (σ 114)) (σ 114 1) i (c + 1) = spS (mv (σ 114)) (σ 114 1) i c + b2i (spC (mv (σ 114)) (σ 114 1) i c) := spS_s _ _ _ _
          rw [hsp] at hss
          simp only [b2i_t, b2i_f] at hss
          first | exact z_pick [4, 1, 5, 0] rfl (ih (c + 1) _ _ (by omega) (by omega) (by omega) hF3 q10b) | exact z_pick [4, 1, 5, 0] rfl (ih (c + 1) _ _ (by omega) (by omega) (by omega) (hF2.up rfl) (by simp only [fl_row_ne, fl_ne, up_row_ne, up_ne, up_eq, up_nk, up_up, up_self, ne_eq, Nat.reduceEqDiff, Int.reduceEq, reduceCtorEq, not_false_eq_true, not_true_eq_false]; exact q10))
        ·
          refine z_iconst hO dX9_spoilt_66 ?_
          refine z_goto hO 71 dX9_spoilt_67 (by decide) ?_
          refine z_istore hO (L' := [(5, _), (4, _), (0, _), (1, _), (2, _), (3, _)]) dX9_spoilt_71 (by decide) rfl ?_
          refine z_aload_n hO 2 dX9_spoilt_73 rfl ?_
          refine z_getR hO (115) fl_X9_13 rfl rfl dX9_spoilt_74 ?_
          refine z_iload_n hO 4 dX9_spoilt_77 rfl ?_
          refine z_iload_n hO 5 dX9_spoilt_78 rfl ?_
          refine z_iast hO rfl (by omega) (by decide) (by omega) dX9_spoilt_79 ?_
          refine z_iload_n hO 3 dX9_spoilt_80 rfl ?_
          refine z_iload hO 1 dX9_spoilt_81 rfl ?_
          refine z_if_eq hO 109 dX9_spoilt_83 (by decide) (by decide) (fun c83 => absurd c83 (by omega)) (fun c83 => ?_)
          refine z_iload hO 0 dX9_spoilt_86 rfl ?_
          refine z_if_eq hO 109 dX9_spoilt_88 (by decide) (by decide) (fun c88 => absurd c88 (by omega)) (fun c88 => ?_)
          have hal : ∀ j : Int, 0 ≤ j → j < (mv (σ 114)).1 → up s51 115 i c 115 j = (alt (pk (mv (σ 114)) (bR (mv (σ 114)) (σ 114 1))) i c) j := by
            intro j h0 h1; unfold alt; by_cases e : j = i
            · subst e; rw [up_eq, if_pos rfl]
            · rw [up_nk e, if_neg e]; exact p51.2.1 j h0 h1
          have hwp3 : WP (mv (σ 114)) (alt (pk (mv (σ 114)) (bR (mv (σ 114)) (σ 114 1))) i c) := alt_WP (pk_WP hV _) (by rw [mv_c]; omega)
          have hwp2 : WP (mv (σ 114)) (up s51 115 i c 115) := fun j h0 h1 => by rw [hal j h0 h1]; exact hwp3 j h0 h1
          refine z_aload_n hO 2 dX9_spoilt_91 rfl ?_
          refine z_cvB hO (t_X9_takesPicked (by simp only [fl_row_ne, fl_ne, up_row_ne, up_ne, up_eq, up_nk, up_up, up_self, ne_eq, Nat.reduceEqDiff, Int.reduceEq, reduceCtorEq, not_false_eq_true, not_true_eq_false, q114]; exact hV) (by simp only [fl_row_ne, fl_ne, up_row_ne, up_ne, up_eq, up_nk, up_up, up_self, ne_eq, Nat.reduceEqDiff, Int.reduceEq, reduceCtorEq, not_false_eq_true, not_true_eq_false, q114]; exact hwp2)) cv_X9_119 rfl rfl rfl rfl (by decide) (Nat.le_of_ble_eq_true rfl) dX9_spoilt_92 (fun s92 p92 => ?_) (fun s92 p92 => ?_)
          ·
            simp only [fl_row_ne, fl_ne, up_row_ne, up_ne, up_eq, up_nk, up_up, up_self, ne_eq, Nat.reduceEqDiff, Int.reduceEq, reduceCtorEq, not_false_eq_true, not_true_eq_false, q114] at p92
            have t1 := tpQ_congr (p' := (alt (pk (mv (σ 114)) (bR (mv (σ 114)) (σ 114 1))) i c)) hal p92.1
            have q114b : s92 114 = σ 114 := (p92.2.row 114 (fun _ => rfl)).trans (by simp only [fl_row_ne, fl_ne, up_row_ne, up_ne, up_eq, up_nk, up_up, up_self, ne_eq, Nat.reduceEqDiff, Int.reduceEq, reduceCtorEq, not_false_eq_true, not_true_eq_false]; exact q114)
            have q10b : s92 113 10 = _ := (p92.2 113 10 rfl).trans (by simp only [fl_row_ne, fl_ne, up_row_ne, up_ne, up_eq, up_nk, up_up, up_self, ne_eq, Nat.reduceEqDiff, Int.reduceEq, reduceCtorEq, not_false_eq_true, not_true_eq_false]; exact q10)
            have hF3 : Fm fFd σ s92 := (hF2.up (c := 115) (k := i) rfl).trans (p92.2.mono (fun c k z => fTP_Tk c k (fTk_Fd c k z)))
            have hsr := (sdP_r hV hwp3).2 t1.1.symm
            refine z_if_eq hO 109 dX9_spoilt_95 (by decide) (by decide) (fun c95 => absurd c95 (by omega)) (fun c95 => ?_)
            refine z_aload_n hO 2 dX9_spoilt_98 rfl ?_
            refine z_cvQ hO (t_X9_holds (by rw [t1.2.1]; exact row_NR t1.2.2.1 hsr)) cv_X9_148 rfl rfl rfl rfl (by decide) (Nat.le_of_ble_eq_true rfl) dX9_spoilt_99 (fun c99 => ?_) (fun c99 => ?_)
            ·
              try simp only [fl_row_ne, fl_ne, up_row_ne, up_ne, up_eq, up_nk, up_up, up_self, ne_eq, Nat.reduceEqDiff, Int.reduceEq, reduceCtorEq, not_false_eq_true, not_true_eq_false, e114, e10, q114, q115, q114b] at c99 ⊢
              have hh : hld (σ 114 1) (lrow (sdP (mv (σ 114)) (alt (pk (mv (σ 114)) (bR (mv (σ 114)) (σ 114 1))) i c)).1) (sdP (mv (σ 114)) (alt (pk (mv (σ 114)) (bR (mv (σ 114)) (σ 114 1))) i c)).1.length := (hld_row t1.2.2.1 hsr.1).mp (by rw [t1.2.1] at c99; exact c99)
              have hsp : spC (mv (σ 114)) (σ 114 1) i c = false := by unfold spC; rw [dec_iff.mpr hh]; simp
              refine z_if_ne hO 109 dX9_spoilt_102 (by decide) (by decide) (fun c102 => ?_) (fun c102 => absurd c102 (by omega))
              refine z_iconst hO dX9_spoilt_109 ?_
              refine z_iadd hO dX9_spoilt_110 ?_
              refine z_istore_n hO (L' := [(1, _), (5, _), (4, _), (0, _), (2, _), (3, _)]) dX9_spoilt_111 (by decide) rfl ?_
              refine z_iinc hO (L' := [(3, _), (1, _), (5, _), (4, _), (0, _), (2, _)]) 5 dX9_spoilt_112 rfl (by decide) rfl ?_
              refine z_goto hO 32 dX9_spoilt_115 (by decide) ?_
              have hss : spS (mv (σ 114)) (σ 114 1) i (c + 1) = spS (mv (σ 114)) (σ 114 1) i c + b2i (spC (mv (σ 114)) (σ 114 1) i c) := spS_s _ _ _ _
              rw [hsp] at hss
              simp only [b2i_t, b2i_f] at hss
              first | exact z_pick [4, 1, 5, 0] rfl (ih (c + 1) _ _ (by omega) (by omega) (by omega) hF3 q10b) | exact z_pick [4, 1, 5, 0] rfl (ih (c + 1) _ _ (by omega) (by omega) (by omega) (hF2.up rfl) (by simp only [fl_row_ne, fl_ne, up_row_ne, up_ne, up_eq, up_nk, up_up, up_self, ne_eq, Nat.reduceEqDiff, Int.reduceEq, reduceCtorEq, not_false_eq_true, not_true_eq_false]; exact q10))
            ·
              try simp only [fl_row_ne, fl_ne, up_row_ne, up_ne, up_eq, up_nk, up_up, up_self, ne_eq, Nat.reduceEqDiff, Int.reduceEq, reduceCtorEq, not_false_eq_true, not_true_eq_false, e114, e10, q114, q115, q114b] at c99 ⊢
              have hh : ¬ hld (σ 114 1) (lrow (sdP (mv (σ 114)) (alt (pk (mv (σ 114)) (bR (mv (σ 114)) (σ 114 1))) i c)).1) (sdP (mv (σ 114)) (alt (pk (mv (σ 114)) (bR (mv (σ 114)) (σ 114 1))) i c)).1.length := fun z => c99 (by rw [t1.2.1]; exact (hld_row t1.2.2.1 hsr.1).mpr z)
              have hsp : spC (mv (σ 114)) (σ 114 1) i c = true := by unfold spC; rw [dec_not.mpr hh, ← t1.1]; rfl
              refine z_if_ne hO 109 dX9_spoilt_102 (by decide) (by decide) (fun c102 => absurd c102 (by omega)) (fun c102 => ?_)
              refine z_iconst hO dX9_spoilt_105 ?_
              refine z_goto hO 110 dX9_spoilt_106 (by decide) ?_
              refine z_iadd hO dX9_spoilt_110 ?_
              refine z_istore_n hO (L' := [(1, _), (5, _), (4, _), (0, _), (2, _), (3, _)]) dX9_spoilt_111 (by decide) rfl ?_
              refine z_iinc hO (L' := [(3, _), (1, _), (5, _), (4, _), (0, _), (2, _)]) 5 dX9_spoilt_112 rfl (by decide) rfl ?_
              refine z_goto hO 32 dX9_spoilt_115 (by decide) ?_
              have hss : spS (mv (σ 114)) (σ 114 1) i (c + 1) = spS (mv (σ 114)) (σ 114 1) i c + b2i (spC (mv (σ 114)) (σ 114 1) i c) := spS_s _ _ _ _
              rw [hsp] at hss
              simp only [b2i_t, b2i_f] at hss
              first | exact z_pick [4, 1, 5, 0] rfl (ih (c + 1) _ _ (by omega) (by omega) (by omega) hF3 q10b) | exact z_pick [4, 1, 5, 0] rfl (ih (c + 1) _ _ (by omega) (by omega) (by omega) (hF2.up rfl) (by simp only [fl_row_ne, fl_ne, up_row_ne, up_ne, up_eq, up_nk, up_up, up_self, ne_eq, Nat.reduceEqDiff, Int.reduceEq, reduceCtorEq, not_false_eq_true, not_true_eq_false]; exact q10))
          ·
            simp only [fl_row_ne, fl_ne, up_row_ne, up_ne, up_eq, up_nk, up_up, up_self, ne_eq, Nat.reduceEqDiff, Int.reduceEq, reduceCtorEq, not_false_eq_true, not_true_eq_false, q114] at p92
            have t1 := tpQ_congr (p' := (alt (pk (mv (σ 114)) (bR (mv (σ 114)) (σ 114 1))) i c)) hal p92.1
            have q114b : s92 114 = σ 114 := (p92.2.row 114 (fun _ => rfl)).trans (by simp only [fl_row_ne, fl_ne, up_row_ne, up_ne, up_eq, up_nk, up_up, up_self, ne_eq, Nat.reduceEqDiff, Int.reduceEq, reduceCtorEq, not_false_eq_true, not_true_eq_false]; exact q114)
            have q10b : s92 113 10 = _ := (p92.2 113 10 rfl).trans (by simp only [fl_row_ne, fl_ne, up_row_ne, up_ne, up_eq, up_nk, up_up, up_self, ne_eq, Nat.reduceEqDiff, Int.reduceEq, reduceCtorEq, not_false_eq_true, not_true_eq_false]; exact q10)
            have hF3 : Fm fFd σ s92 := (hF2.up (c := 115) (k := i) rfl).trans (p92.2.mono (fun c k z => fTP_Tk c k (fTk_Fd c k z)))
            have hsp : spC (mv (σ 114)) (σ 114 1) i c = false := by unfold spC; rw [← t1.1]; rfl
            refine z_if_eq hO 109 dX9_spoilt_95 (by decide) (by decide) (fun c95 => ?_) (fun c95 => absurd c95 (by omega))
            refine z_iconst hO dX9_spoilt_109 ?_
            refine z_iadd hO dX9_spoilt_110 ?_
            refine z_istore_n hO (L' := [(1, _), (5, _), (4, _), (0, _), (2, _), (3, _)]) dX9_spoilt_111 (by decide) rfl ?_
            refine z_iinc hO (L' := [(3, _), (1, _), (5, _), (4, _), (0, _), (2, _)]) 5 dX9_spoilt_112 rfl (by decide) rfl ?_
            refine z_goto hO 32 dX9_spoilt_115 (by decide) ?_
            have hss : spS (mv (σ 114)) (σ 114 1) i (c + 1) = spS (mv (σ 114)) (σ 114 1) i c + b2i (spC (mv (σ 114)) (σ 114 1) i c) := spS_s _ _ _ _
            rw [hsp] at hss
            simp only [b2i_t, b2i_f] at hss
            first | exact z_pick [4, 1, 5, 0] rfl (ih (c + 1) _ _ (by omega) (by omega) (by omega) hF3 q10b) | exact z_pick [4, 1, 5, 0] rfl (ih (c + 1) _ _ (by omega) (by omega) (by omega) (hF2.up rfl) (by simp only [fl_row_ne, fl_ne, up_row_ne, up_ne, up_eq, up_nk, up_up, up_self, ne_eq, Nat.reduceEqDiff, Int.reduceEq, reduceCtorEq, not_false_eq_true, not_true_eq_false]; exact q10))
      ·
        rw [e114] at p51
        have q114 : s51 114 = σ 114 := (p51.2.2.row 114 (fun _ => rfl)).trans e114
        have q10 : s51 113 10 = _ := (p51.2.2 113 10 rfl).trans e10
        have q115 := p51.2.1 i (by omega) (by omega)
        have hF2 : Fm fFd σ s51 := hFm.trans (p51.2.2.mono fTk_Fd)
        exfalso; have h1 := snd_said hbs; have h2 : said (mv (σ 114)) (bR (mv (σ 114)) (σ 114 1)) = false := p51.1.1.symm; rw [h1] at h2; cases h2

set_option maxHeartbeats 4000000 in
set_option maxRecDepth 100000 in
theorem lp_spoilt2 {g : G} {x : Cx} {σ : Sg} {P : Int → Sg → Prop} (hO : Ok g x RX9 cX9_spoilt 6 11) (hR : Rt g x (some .int) (pI P)) (hV : WV (mv (σ 114))) (hbs : snd (mv (σ 114)) (σ 114 1) (bR (mv (σ 114)) (σ 114 1)) = true) (hb : 0 ≤ (bR (mv (σ 114)) (σ 114 1)) ∧ (bR (mv (σ 114)) (σ 114 1)) ≤ 65536) (hP : ∀ r τ, r = spA (mv (σ 114)) (σ 114 1) (σ 114 0).toNat → Fm fFd σ τ → P r τ) : ∀ (k i : Nat) (n : Int) (τ : Sg), (i : Int) ≤ σ 114 0 → σ 114 0 - i < k → n = spA (mv (σ 114)) (σ 114 1) i → Fm fFd σ τ → τ 113 10 = (bR (mv (σ 114)) (σ 114 1)) → Z g x 6 20 [(0, .ref (g.2.2.1 113)), (1, vI n), (2, vI i)] [] τ := by
  have hn8 := hV.2.1
  have hn00 := hV.1
  rw [mv_n] at hn8 hn00
  intro k
  induction k with
  | zero => intro i n τ h0 hk; exact absurd hk (by omega)
  | succ k ih =>
    intro i n τ h0 hk hn hFm e10
    have e114 : τ 114 = σ 114 := hFm.row 114 (fun _ => rfl)
    subst hn
    refine z_iload_n hO 2 dX9_spoilt_20 rfl ?_
    refine z_aload_n hO 0 dX9_spoilt_21 rfl ?_
    refine z_getR hO (114) fl_X9_7 rfl rfl dX9_spoilt_22 ?_
    refine z_iconst hO dX9_spoilt_25 ?_
    refine z_iald hO rfl (by omega) (by decide) dX9_spoilt_26 (fun r26 => ?_)
    try simp only [fl_row_ne, fl_ne, up_row_ne, up_ne, up_eq, up_nk, up_up, up_self, ne_eq, Nat.reduceEqDiff, Int.reduceEq, reduceCtorEq, not_false_eq_true, not_true_eq_false, e114] at r26 ⊢
    refine z_icmp_ge hO 124 dX9_spoilt_27 (by decide) (by omega) (by omega) (fun c27 => ?_) (fun c27 => ?_)
    ·
      have hi3 : i = (σ 114 0).toNat := by omega
      subst hi3
      refine z_iload_n hO 1 dX9_spoilt_124 rfl ?_
      exact z_retI hO hR dX9_spoilt_125 (hP _ _ rfl hFm)
    ·
      have hW := hV.2.2 i (by omega) (show (i : Int) < σ 114 0 by omega)
      rw [mv_c] at hW
      have hsa := spA_r hV (σ 114 1) i (show (i : Int) ≤ σ 114 0 by omega)
      refine z_iconst hO dX9_spoilt_30 ?_
      refine z_istore_n hO (L' := [(3, _), (0, _), (1, _), (2, _)]) dX9_spoilt_31 (by decide) rfl ?_
      refine z_pick [1, 2, 3, 0] rfl (lp_spoilt1 (σ := σ) (i := i) (n0 := spA (mv (σ 114)) (σ 114 1) i) hO hV (by omega) hbs hb (by omega) ?_ 5 0 _ τ (by omega) (by omega) (by show _ = _ + 0; omega) hFm e10)
      intro ω g1 g2
      refine z_iinc hO (L' := [(2, _), (0, _), (1, _)]) 2 dX9_spoilt_118 rfl (by decide) rfl ?_
      refine z_goto hO 20 dX9_spoilt_121 (by decide) ?_
      exact z_pick [1, 2, 0] rfl (ih (i + 1) _ ω (by omega) (by omega) (by rw [spA_s, mv_c]) g1 g2)

set_option maxHeartbeats 4000000 in
set_option maxRecDepth 100000 in
theorem t_X9_spoilt {g : G} {σ : Sg} (hV : WV (mv (σ 114))) : MM g mX9_spoilt [.ref (g.2.2.1 113)] σ (pI (fun r σ' => ((bR (mv (σ 114)) (σ 114 1)) = -4 ∧ r = -4 ∧ Fm fFd σ σ') ∨ ((bR (mv (σ 114)) (σ 114 1)) ≠ -4 ∧ r = spA (mv (σ 114)) (σ 114 1) (σ 114 0).toNat ∧ Fm fFd σ σ'))) := by
  refine mm_of rfl (by decide) rfl rfl (Nat.le_of_ble_eq_true rfl) (fun x hO hR => ?_)
  refine z_aload_n hO 0 dX9_spoilt_0 rfl ?_
  refine z_cvV hO (t_X9_finds hV) cv_X9_154 rfl rfl rfl rfl (by decide) (Nat.le_of_ble_eq_true rfl) dX9_spoilt_1 (fun s1 p1 => ?_)
  obtain ⟨⟨f8, f9, f10, f11, f13, f14⟩, hFm⟩ := p1
  have f114 : s1 114 = σ 114 := hFm.row 114 (fun _ => rfl)
  have hbr := bR_r hV (σ 114 1)
  have f10 : s1 113 10 = bR (mv (σ 114)) (σ 114 1) := f10
  have f11 : s1 113 11 = bC (mv (σ 114)) (σ 114 1) := f11
  have f13 : bR (mv (σ 114)) (σ 114 1) = -4 → s1 113 13 = 0 := f13
  have f14 : bR (mv (σ 114)) (σ 114 1) ≠ -4 → s1 113 13 = (nm (mv (σ 114)) (bR (mv (σ 114)) (σ 114 1))).length ∧ rowIs (s1 118) (nm (mv (σ 114)) (bR (mv (σ 114)) (σ 114 1))) := f14
  have hrd := rdN_r hV
  have hcs := cst_r hV (bR (mv (σ 114)) (σ 114 1))
  have hlen : bR (mv (σ 114)) (σ 114 1) ≠ -4 → 1 ≤ (nm (mv (σ 114)) (bR (mv (σ 114)) (σ 114 1))).length ∧ (nm (mv (σ 114)) (bR (mv (σ 114)) (σ 114 1))).length ≤ 4 ∧ ∀ v ∈ nm (mv (σ 114)) (bR (mv (σ 114)) (σ 114 1)), 0 < v ∧ v ≤ 999999 := fun q => said_r hV (snd_said (by rcases hbr with z | z; exact absurd z.1 q; exact z.2.2.2))
  refine z_aload_n hO 0 dX9_spoilt_4 rfl ?_
  refine z_getI hO 10 fl_X9_135 rfl rfl rfl dX9_spoilt_5 (fun r5 => ?_)
  try simp only [fl_row_ne, fl_ne, up_row_ne, up_ne, up_eq, up_nk, up_up, up_self, ne_eq, Nat.reduceEqDiff, Int.reduceEq, reduceCtorEq, not_false_eq_true, not_true_eq_false, f114, f10, f11, f8, f9] at r5 ⊢
  refine z_bipush hO dX9_spoilt_8 (by decide) ?_
  refine z_icmp_ne hO 16 dX9_spoilt_10 (by decide) (by omega) (by decide) (fun c10 => ?_) (fun c10 => ?_)
  ·
    have hbs : snd (mv (σ 114)) (σ 114 1) (bR (mv (σ 114)) (σ 114 1)) = true := by rcases hbr with z | z; exact absurd z.1 c10; exact z.2.2.2
    refine z_iconst hO dX9_spoilt_16 ?_
    refine z_istore_n hO (L' := [(1, _), (0, _)]) dX9_spoilt_17 (by decide) rfl ?_
    refine z_iconst hO dX9_spoilt_18 ?_
    refine z_istore_n hO (L' := [(2, _), (1, _), (0, _)]) dX9_spoilt_19 (by decide) rfl ?_
    exact z_pick [2, 1, 0] rfl (lp_spoilt2 (σ := σ) hO hR hV hbs (by omega) (fun r τ q1 q2 => Or.inr ⟨c10, q1, q2⟩) 9 0 0 _ hV.1 (by have := hV.2.1; rw [mv_n] at this; omega) rfl hFm f10)
  ·
    refine z_bipush hO dX9_spoilt_13 (by decide) ?_
    exact z_retI hO hR dX9_spoilt_15 (Or.inl ⟨by omega, rfl, hFm⟩)
