theorem q_words {σ σ1 σ2 : Sg} {r1 r2 : Int} (h : Rel σ) (p : ((txF (σ 82) (σ 81 1)).1 ≠ -1 ∧ r1 = -20 - (txF (σ 82) (σ 81 1)).1 ∧ σ1 81 1 = 0 ∧ ∀ (c : Nat) (k : Int), (c < 5 ∨ 8 < c) → c ≠ 81 → σ1 c k = σ c k) ∨ ((txF (σ 82) (σ 81 1)).1 = -1 ∧ r1 = ((txF (σ 82) (σ 81 1)).2.length : Int) ∧ ∃ τ, Fm fRe σ τ ∧ EqV (cv τ 5) (slV (txF (σ 82) (σ 81 1)).2) ∧ σ1 = fgtS (up (tkSl (up τ 81 1 0) 1 5) 13 2 0))) (q : wordsQ σ1 σ2 r2) : r1 = r2 ∧ Rel σ2 := by
  obtain ⟨t1, t2, t4⟩ := h.2.2.2.1
  have eT : txF (σ 82) (σ 81 1) = txF (σ 124) (σ 113 23) := by rw [t1]; exact tc_tx t4
  rw [eT] at p
  have fx : ∀ (c : Nat) (k : Int), c ≠ 125 → (c ≠ 113 ∨ (k ≠ 23 ∧ k ≠ 24)) → fTx c k = false := fun c k a b => by unfold fTx; simp; omega
  have fw : ∀ (c : Nat) (k : Int), c ≠ 114 → c ≠ 125 → (c ≠ 113 ∨ (k ≠ 23 ∧ k ≠ 24 ∧ k ≠ 29)) → fWd c k = false := fun c k a b d => by unfold fWd; simp; omega
  rcases p with ⟨b, e, f1, f⟩ | ⟨b, e, τ, fm, ev, f⟩
  · have e124 : σ1 124 = σ 124 := funext fun k => f 124 k (by omega) (by decide)
    have e23 : σ1 113 23 = σ 113 23 := f _ _ (by omega) (by decide)
    unfold wordsQ at q
    rw [e124, e23] at q
    rcases q with ⟨_, e2, g1, g⟩ | ⟨b2, _⟩
    · have fr : ∀ (c : Nat) (k : Int), (c < 5 ∨ 8 < c) → c ≠ 81 → c ≠ 125 → (c ≠ 113 ∨ (k ≠ 23 ∧ k ≠ 24)) → σ2 c k = σ c k := fun c k a1 a2 a3 a4 => by
        rw [g c k (fx c k a3 a4), f c k a1 a2]
      obtain ⟨g1', g2, g3, g4, g5, g6⟩ := h
      refine ⟨by omega, R1_keep g1' (fun c k hc => fr c k (by omega) (by omega) (by omega) (by omega)), R2_keep g2 (fun c k hc => fr c k (by omega) (by omega) (by omega) (by omega)) (fr _ _ (by omega) (by omega) (by omega) (by omega)), R3_keep g3 (fun c k hc => fr c k (by omega) (by omega) (by omega) (by omega)) (fr _ _ (by omega) (by omega) (by omega) (by omega)) (fr _ _ (by omega) (by omega) (by omega) (by omega)), ⟨?_, ⟨by rw [g1]; decide, fun i i0 i1 => by rw [g1] at i1; omega⟩, fun i i1 => ?_⟩, R5_keep g5 (fun c k hc => fr c k (by omega) (by omega) (by omega) (by omega)), SI_gen g6 (fun c k hc => fr c k (by omega) (by omega) (by omega) (by omega))⟩
      · rw [g1, g 81 1 (fx _ _ (by decide) (by decide)), f1]
      · rw [g1] at i1
        have n0 := t2.1
        rw [fr 82 i (by omega) (by decide) (by decide) (by omega), fr 124 i (by omega) (by decide) (by decide) (by omega)]
        exact t4 i (by omega)
    · exact absurd b2 b
  · have x0 : ∀ (c : Nat) (k : Int), (c = 0 ∨ 9 ≤ c) → c ≠ 81 → c ≠ 83 → c ≠ 97 → (c ≠ 13 ∨ k ≠ 2) → σ1 c k = σ c k := fun c k hc h81 h83 h97 h13 => by
      rw [f]; unfold fgtS; rw [up_ne h83, up_ne h97, up_ne h83]
      have u : tkSl (up τ 81 1 0) 1 5 c k = σ c k := by rw [tkSl_q (by omega), up_ne h81]; exact fm c k (fRe_o (by omega))
      rcases h13 with h13 | h13
      · rw [up_ne h13, u]
      · rw [up_nk h13, u]
    have x1 : ∀ (c : Nat) (k : Int), 1 ≤ c → c ≤ 4 → σ1 c k = tkSl (up τ 81 1 0) 1 5 c k := fun c k c0 c1 => by
      rw [f]; unfold fgtS; rw [up_ne (by omega), up_ne (by omega), up_ne (by omega), up_ne (by omega)]
    have x13 : σ1 13 2 = 0 := by rw [f]; unfold fgtS; rw [up_ne (by decide), up_ne (by decide), up_ne (by decide), up_eq]
    have x81 : σ1 81 1 = 0 := by rw [f]; unfold fgtS; rw [up_ne (by decide), up_ne (by decide), up_ne (by decide), up_ne (by decide), tkSl_q (by omega), up_eq]
    have e124 : σ1 124 = σ 124 := funext fun k => x0 124 k (by omega) (by decide) (by decide) (by decide) (by omega)
    have e23 : σ1 113 23 = σ 113 23 := x0 _ _ (by omega) (by decide) (by decide) (by decide) (by omega)
    unfold wordsQ at q
    rw [e124, e23] at q
    rcases q with ⟨b2, _⟩ | ⟨_, hl, l8, e2, ev2, km, k29, k23, g⟩
    · exact absurd b b2
    · have hs := slQ_tx t2
      generalize (txF (σ 124) (σ 113 23)).2 = l at *
      have lw : ∀ (c : Nat) (k : Int), 1 ≤ c → c ≤ 4 → σ2 c k = tkSl (up τ 81 1 0) 1 5 c k := fun c k c0 c1 => by
        rw [g c k (fw c k (by omega) (by omega) (by omega)), x1 c k c0 c1]
      have fr : ∀ (c : Nat) (k : Int), (c = 0 ∨ 9 ≤ c) → c ≠ 81 → c ≠ 83 → c ≠ 97 → (c ≠ 13 ∨ k ≠ 2) → c ≠ 114 → c ≠ 125 → (c ≠ 113 ∨ (k ≠ 23 ∧ k ≠ 24 ∧ k ≠ 29)) → σ2 c k = σ c k := fun c k a1 a2 a3 a4 a5 a6 a7 a8 => by
        rw [g c k (fw c k a6 a7 a8), x0 c k a1 a2 a3 a4 a5]
      have w13 : σ2 1 3 = l.length := by
        rw [lw _ _ (by decide) (by decide)]; unfold tkSl; rw [up_eq, up_ne (by decide)]; exact ev.1
      have w114 : σ2 114 0 = l.length := ev2.1
      refine ⟨by omega, Rel_anew h (R1_of h.1 (by rw [w114, w13]) (by rw [w13]; omega) (fun i i0 i1 => ?_) (fun k k0 k1 => ?_) (fun k k0 k1 => ?_)) (fr _ _ (by decide) (by decide) (by decide) (by decide) (by decide) (by decide) (by decide) (by decide)) ?_ k29 ⟨?_, ⟨by rw [k23]; decide, fun i i0 i1 => by rw [k23] at i1; omega⟩, fun i i1 => ?_⟩ ?_ ?_ ?_ (fun c k hc => fr c k (by omega) (by omega) (by omega) (by omega) (by omega) (by omega) (by omega) (by omega))⟩
      · rw [w13] at i1
        obtain ⟨m, hm⟩ : ∃ m : Nat, i = m := ⟨i.toNat, by omega⟩
        rw [hm] at i0 i1 ⊢
        have mb : m < l.length := by omega
        have c4 := hl _ (List.getElem_mem mb)
        have sc := slV_c l m mb
        have A := ev2.2 (m : Int) i0 (by show (m : Int) < σ2 114 0; omega)
        have B := ev.2 (m : Int) i0 (by show (m : Int) < τ 5 3; have := ev.1; have z : τ 5 3 = l.length := this; omega)
        have B1 : τ 6 (m : Int) = (slV l).2.1 m := B.1
        refine sOK_txt hl hs mb ⟨A.1, fun k k0 k1 => A.2 k k0 (by rw [A.1]; exact k1)⟩ ⟨?_, fun k k0 k1 => ?_⟩
        · rw [lw _ _ (by decide) (by decide), tkSl_1 (by omega), up_ne (by decide)]; exact B1
        · have B2 := B.2 k k0 (by rw [B.1]; exact k1)
          have B3 : τ 7 ((m : Int) * 4 + k) = (slV l).2.2.1 m k := B2.1
          have B4 : τ 8 ((m : Int) * 4 + k) = (slV l).2.2.2 m k := B2.2
          rw [sc] at k1
          rw [lw _ _ (by decide) (by decide), lw _ _ (by decide) (by decide), tkSl_2 (by omega), tkSl_3 (by omega), up_ne (by decide), up_ne (by decide)]
          exact ⟨B3, B4⟩
      · rw [lw _ _ (by decide) (by decide), tkSl_o (by omega), up_ne (by decide)]; exact fm 1 k (fRe_o (by omega))
      · rw [km k (by omega) (by omega), x0 _ _ (by omega) (by decide) (by decide) (by decide) (by omega)]
      · rw [g _ _ (fw _ _ (by decide) (by decide) (by decide)), x13]
      · rw [k23, g _ _ (fw _ _ (by decide) (by decide) (by decide)), x81]
      · rw [k23] at i1
        have n0 := t2.1
        rw [fr 82 i (by omega) (by decide) (by decide) (by decide) (by omega) (by decide) (by decide) (by omega), fr 124 i (by omega) (by decide) (by decide) (by decide) (by omega) (by decide) (by decide) (by omega)]
        exact t4 i (by omega)
      · rw [g _ _ (fw _ _ (by decide) (by decide) (by decide)), f]; unfold fgtS; rw [up_nk (by decide), up_ne (by decide), up_eq]
      · rw [g _ _ (fw _ _ (by decide) (by decide) (by decide)), f]; unfold fgtS; rw [up_ne (by decide), up_eq]
      · rw [g _ _ (fw _ _ (by decide) (by decide) (by decide)), f]; unfold fgtS; rw [up_eq]
