theorem q_undo {σ σ1 σ2 : Sg} {r1 r2 : Int} (h : Rel σ) (p : (r1, σ1) = if σ 13 2 = 0 then (-4, σ) else (σ 13 2 - 1, fgtS (backS σ))) (q : (r2, σ2) = if σ1 113 29 = 0 then (-4, σ1) else (σ1 113 29 - 1, fl (up σ1 113 29 (σ1 113 29 - 1)) 114 0 76 (fun k => σ1 127 (76 * (σ1 113 29 - 1) + k)))) : r1 = r2 ∧ Rel σ2 := by
  obtain ⟨g1, ⟨f0, m0, mU, hj⟩, g3, g4, g5, g6⟩ := h
  by_cases d : σ 13 2 = 0
  · rw [if_pos d] at p; cases p
    rw [if_pos (by omega)] at q; cases q; exact ⟨rfl, g1, ⟨f0, m0, mU, hj⟩, g3, g4, g5, g6⟩
  · rw [if_neg d] at p; cases p
    have bk : backS σ = tkS (up σ 13 2 (σ 13 2 - 1)) 1 (15 + 4 * ((σ 13 1 + (σ 13 2 - 1)) % 8).toNat) := by unfold backS; rw [if_pos (by omega)]
    have b1 : ∀ (c : Nat) (k : Int), (c = 0 ∨ 5 ≤ c) → c ≠ 13 → backS σ c k = σ c k := fun c k hc a => by rw [bk, tkS_ne (by omega), up_ne a]
    have b2 : ∀ (c : Nat) (k : Int), (c = 0 ∨ 5 ≤ c) → c ≠ 13 → c ≠ 83 → c ≠ 97 → fgtS (backS σ) c k = σ c k := fun c k hc a e f => by unfold fgtS; rw [up_ne e, up_ne f, up_ne e, b1 c k hc a]
    rw [b2 113 29 (by decide) (by decide) (by decide) (by decide), if_neg (by omega)] at q
    rw [show fgtS (backS σ) 127 = σ 127 from funext fun k => b2 127 k (by omega) (by decide) (by decide) (by decide), ← mU] at q
    cases q
    have fr : ∀ (c : Nat) (k : Int), (c = 0 ∨ 5 ≤ c) → c ≠ 13 → c ≠ 83 → c ≠ 97 → c ≠ 114 → (c ≠ 113 ∨ k ≠ 29) → fl (up (fgtS (backS σ)) 113 29 (σ 13 2 - 1)) 114 0 76 (fun k => σ 127 (76 * (σ 13 2 - 1) + k)) c k = σ c k := by
      intro c k a1 a2 a3 a4 a5 a6
      rw [fl_ne a5]
      rcases a6 with a6 | a6
      · rw [up_ne a6, b2 c k a1 a2 a3 a4]
      · rw [up_nk a6, b2 c k a1 a2 a3 a4]
    have lw : ∀ (c : Nat) (k : Int), c < 83 → fl (up (fgtS (backS σ)) 113 29 (σ 13 2 - 1)) 114 0 76 (fun k => σ 127 (76 * (σ 13 2 - 1) + k)) c k = backS σ c k := by
      intro c k hc
      rw [fl_ne (by omega), up_ne (by omega)]; unfold fgtS; rw [up_ne (by omega), up_ne (by omega), up_ne (by omega)]
    have x := hj (σ 13 2 - 1) (by omega) (by omega)
    have hE : HR (backS σ) 1 (fun k => σ 127 (76 * (σ 13 2 - 1) + k)) := by
      rw [bk]
      exact HR_tk (by omega) (HR_keep x.1 (fun c k c0 c1 => up_ne (by omega))) x.2
    refine ⟨rfl, ?_, ?_, R3_keep g3 (fun c k hc => fr c k (by omega) (by omega) (by omega) (by omega) (by omega) (by omega)) (fr _ _ (by decide) (by decide) (by decide) (by decide) (by decide) (by decide)) (fr _ _ (by decide) (by decide) (by decide) (by decide) (by decide) (by decide)), R4_keep g4 (fun c k hc => fr c k (by omega) (by omega) (by omega) (by omega) (by omega) (by omega)) (fr _ _ (by decide) (by decide) (by decide) (by decide) (by decide) (by decide)) (fr _ _ (by decide) (by decide) (by decide) (by decide) (by decide) (by decide)), R5_keep g5 (fun c k hc => fr c k (by omega) (by omega) (by omega) (by omega) (by omega) (by omega)), SI_fgt (fun k k0 k1 => by rw [fr 100 k (by decide) (by decide) (by decide) (by decide) (by decide) (by omega)]; exact g6.2.2.2 k k0 k1) ?_ ?_ ?_⟩
    · exact HR_row (HR_keep hE (fun c k c0 c1 => lw c k (by omega))) x.2 (fun k k0 k1 => fl_in (by omega))
    · have s1 : backS σ 13 1 = σ 13 1 := by rw [bk, tkS_ne (by omega), up_nk (by decide)]
      have s2 : backS σ 13 2 = σ 13 2 - 1 := by rw [bk, tkS_ne (by omega), up_eq]
      unfold R2
      rw [show (fl (up (fgtS (backS σ)) 113 29 (σ 13 2 - 1)) 114 0 76 (fun k => σ 127 (76 * (σ 13 2 - 1) + k))) 127 = σ 127 from funext fun k => fr 127 k (by omega) (by decide) (by decide) (by decide) (by decide) (by omega)]
      rw [show (fl (up (fgtS (backS σ)) 113 29 (σ 13 2 - 1)) 114 0 76 (fun k => σ 127 (76 * (σ 13 2 - 1) + k))) 113 29 = σ 13 2 - 1 from by rw [fl_ne (by decide), up_eq]]
      refine ⟨by rw [lw _ _ (by decide), s1]; exact f0, by rw [lw _ _ (by decide), s2]; omega, by rw [lw _ _ (by decide), s2], fun j j0 j1 => ?_⟩
      rw [lw 13 1 (by decide), s1]
      have y := hj j j0 (by omega)
      exact ⟨HR_keep y.1 (fun c k c0 c1 => fr c k (by omega) (by omega) (by omega) (by omega) (by omega) (by omega)), y.2⟩
    · rw [fl_ne (by decide), up_ne (by decide)]; unfold fgtS; rw [up_nk (by decide), up_ne (by decide), up_eq]
    · rw [fl_ne (by decide), up_ne (by decide)]; unfold fgtS; rw [up_ne (by decide), up_eq]
    · rw [fl_ne (by decide), up_ne (by decide)]; unfold fgtS; rw [up_eq]
