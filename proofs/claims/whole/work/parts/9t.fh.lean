theorem q_lose {σ σ1 σ2 : Sg} {s r1 r2 : Int} (h : Rel σ) (p : (r1, σ1) = if ¬ (0 ≤ s ∧ s < σ 1 3) then (-1, σ) else (σ 1 3 - 1, cutS (undS σ) 1 s)) (p2 : (r2, σ2) = if ¬ (0 ≤ s ∧ s < σ1 114 0) then (-1, σ1) else (σ1 114 0 - 1, loseS σ1 s)) : r1 = r2 ∧ Rel σ2 := by
  obtain ⟨⟨n0, n1, n2⟩, hs⟩ := R1_sOK h.1
  by_cases b : ¬ (0 ≤ s ∧ s < σ 1 3)
  · rw [if_pos b] at p; cases p
    rw [n0, if_pos b] at p2; cases p2; exact ⟨rfl, h⟩
  · rw [if_neg b] at p
    have b' := Classical.not_not.mp b
    obtain ⟨e, f⟩ := Prod.mk.inj p
    have gE : cutS (undS σ) 1 s = up (cp (cp (cp (undS σ) 2 (s + 1) 2 s (σ 1 3 - 1 - s)) 3 (s * 4 + 4) 3 (s * 4) ((σ 1 3 - 1 - s) * 4)) 4 (s * 4 + 4) 4 (s * 4) ((σ 1 3 - 1 - s) * 4)) 1 3 (σ 1 3 - 1) := by
      unfold cutS; rw [undS_1 (by decide)]
    rw [gE] at f
    have x0 : ∀ (c : Nat) (k : Int), (c = 0 ∨ 5 ≤ c) → σ1 c k = undS σ c k := fun c k hc => by
      rw [f, up_ne (by omega), cp_ne (by omega), cp_ne (by omega), cp_ne (by omega)]
    have x1 : ∀ k : Int, k ≠ 3 → σ1 1 k = σ 1 k := fun k hk => by
      rw [f, up_nk hk, cp_ne (by decide), cp_ne (by decide), cp_ne (by decide), undS_1 (by decide)]
    have x13 : σ1 1 3 = σ 1 3 - 1 := by rw [f, up_eq]
    have x114 : σ1 114 = σ 114 := funext fun k => by rw [x0 _ _ (by omega), undS_r (by decide)]
    have c2 : ∀ k : Int, k < s → σ1 2 k = σ 2 k := fun k hk => by rw [f, up_ne (by decide), cp_ne (by decide), cp_ne (by decide), cp_out (by omega), undS_1 (by decide)]
    have c2s : ∀ k : Int, s ≤ k → k < σ 1 3 - 1 → σ1 2 k = σ 2 (k + 1) := fun k k0 k1 => by
      rw [f, up_ne (by decide), cp_ne (by decide), cp_ne (by decide), cp_in (by omega), undS_1 (by decide)]; congr 1; omega
    have c3 : ∀ k : Int, k < s * 4 → σ1 3 k = σ 3 k := fun k hk => by rw [f, up_ne (by decide), cp_ne (by decide), cp_out (by omega), cp_ne (by decide), undS_1 (by decide)]
    have c3s : ∀ k : Int, s * 4 ≤ k → k < (σ 1 3 - 1) * 4 → σ1 3 k = σ 3 (k + 4) := fun k k0 k1 => by
      rw [f, up_ne (by decide), cp_ne (by decide), cp_in (by omega), cp_ne (by decide), undS_1 (by decide)]; congr 1; omega
    have c4 : ∀ k : Int, k < s * 4 → σ1 4 k = σ 4 k := fun k hk => by rw [f, up_ne (by decide), cp_out (by omega), cp_ne (by decide), cp_ne (by decide), undS_1 (by decide)]
    have c4s : ∀ k : Int, s * 4 ≤ k → k < (σ 1 3 - 1) * 4 → σ1 4 k = σ 4 (k + 4) := fun k k0 k1 => by
      rw [f, up_ne (by decide), cp_in (by omega), cp_ne (by decide), cp_ne (by decide), undS_1 (by decide)]; congr 1; omega
    rw [x114, n0, if_neg b] at p2
    obtain ⟨e2, f2⟩ := Prod.mk.inj p2
    unfold loseS at f2
    rw [x114, n0] at f2
    have y0 : ∀ (c : Nat) (k : Int), c ≠ 114 → σ2 c k = noteS σ1 c k := fun c k hc => by rw [f2, fl_ne hc, fl_ne hc, up_ne hc]
    have y1 : ∀ (c : Nat) (k : Int), c < 113 → σ2 c k = σ1 c k := fun c k hc => by rw [y0 c k (by omega), noteS_ne (by omega)]
    have z0 : σ2 114 0 = σ 1 3 - 1 := by rw [f2, fl_out (by omega), fl_out (by omega), up_eq]
    have z : ∀ j : Int, 1 ≤ j → j < 4 + 9 * s → σ2 114 j = σ 114 j := fun j b1 b2 => by
      rw [f2, fl_out (by omega), fl_out (by omega), up_nk (by omega), noteS_ne (by omega), x114]
    have zs : ∀ j : Int, 4 + 9 * s ≤ j → j < 4 + 9 * (σ 1 3 - 1) → σ2 114 j = σ 114 (j + 9) := fun j b1 b2 => by
      rw [f2, fl_out (by omega), fl_in (by omega), up_nk (by omega), noteS_ne (by omega), x114]
    have w13 : σ2 1 3 = σ 1 3 - 1 := by rw [y1 _ _ (by decide), x13]
    refine ⟨by omega, Rel_und h (σ1 := σ1) (fun c k hc => x0 c k (by omega)) (fun c k hc => y0 c k (by omega)) (R1_of h.1 ?_ ?_ (fun i i0 i1 => ?_) (fun k k0 k1 => ?_) (fun k k0 k1 => z k (by omega) (by omega)))⟩
    · rw [z0, w13]
    · rw [w13]; omega
    · rw [w13] at i1
      by_cases g : i < s
      · refine sOK_keep (hs i i0 (by omega)) (fun k k0 k1 => z _ (by omega) (by omega)) (by rw [y1 _ _ (by decide), c2 _ g]) (fun k k0 k1 => ?_)
        rw [y1 _ _ (by decide), y1 _ _ (by decide), c3 _ (by omega), c4 _ (by omega)]; exact ⟨rfl, rfl⟩
      · refine sOK_keep (hs (i + 1) (by omega) (by omega)) (fun k k0 k1 => ?_) (by rw [y1 _ _ (by decide), c2s _ (by omega) (by omega)]) (fun k k0 k1 => ?_)
        · rw [zs _ (by omega) (by omega)]; congr 1; omega
        · rw [y1 _ _ (by decide), y1 _ _ (by decide), c3s _ (by omega) (by omega), c4s _ (by omega) (by omega)]
          exact ⟨by congr 1; omega, by congr 1; omega⟩
    · rw [y1 _ _ (by decide), x1 k (by omega)]
