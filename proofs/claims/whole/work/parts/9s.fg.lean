theorem q_also {σ σ1 σ2 : Sg} {s w q r1 r2 : Int} (h : Rel σ) (p : (¬ ((0 ≤ s ∧ s < σ 1 3) ∧ (0 ≤ w ∧ w ≤ 31) ∧ (0 ≤ q ∧ q ≤ 9)) ∧ r1 = -1 ∧ σ1 = σ) ∨ (((0 ≤ s ∧ s < σ 1 3) ∧ (0 ≤ w ∧ w ≤ 31) ∧ (0 ≤ q ∧ q ≤ 9)) ∧ (∃ k, 0 ≤ k ∧ k < σ 2 s ∧ σ 3 (s * 4 + k) = w) ∧ r1 = -2 ∧ σ1 = σ) ∨ (((0 ≤ s ∧ s < σ 1 3) ∧ (0 ≤ w ∧ w ≤ 31) ∧ (0 ≤ q ∧ q ≤ 9)) ∧ (∀ k, 0 ≤ k → k < σ 2 s → σ 3 (s * 4 + k) ≠ w) ∧ σ 2 s = 4 ∧ r1 = -3 ∧ σ1 = σ) ∨ (((0 ≤ s ∧ s < σ 1 3) ∧ (0 ≤ w ∧ w ≤ 31) ∧ (0 ≤ q ∧ q ≤ 9)) ∧ (∀ k, 0 ≤ k → k < σ 2 s → σ 3 (s * 4 + k) ≠ w) ∧ σ 2 s < 4 ∧ r1 = σ 2 s + 1 ∧ σ1 = widS (undS σ) 1 s w q)) (p2 : (r2, σ2) = (if ¬ (0 ≤ s ∧ s < σ1 114 0) ∨ ¬ (0 ≤ w ∧ w ≤ 31) ∨ ¬ (0 ≤ q ∧ q ≤ 9) then (-1, σ1) else @ite _ (∃ k, 0 ≤ k ∧ k < σ1 114 (4 + 9 * s) ∧ (mv (σ1 114)).2.2.1 s k = w) (Classical.propDecidable _) (-2, σ1) (if σ1 114 (4 + 9 * s) = 4 then (-3, σ1) else (σ1 114 (4 + 9 * s) + 1, up (up (up (noteS σ1) 114 (4 + 9 * s + 1 + σ1 114 (4 + 9 * s)) w) 114 (4 + 9 * s + 5 + σ1 114 (4 + 9 * s)) q) 114 (4 + 9 * s) (σ1 114 (4 + 9 * s) + 1))))) : r1 = r2 ∧ Rel σ2 := by
  obtain ⟨⟨n0, n1, n2⟩, hs⟩ := R1_sOK h.1
  rcases p with ⟨b, e, f⟩ | ⟨b, ⟨k, k0, k1, k2⟩, e, f⟩ | ⟨b, k2, d, e, f⟩ | ⟨b, k2, d, e, f⟩
  · rw [f, if_pos (by omega)] at p2; cases p2; exact ⟨e, h⟩
  · obtain ⟨a1, a2, a3, a4⟩ := hs s b.1.1 b.1.2
    rw [f, if_neg (by omega), if_pos ⟨k, k0, by omega, (a3 k k0 k1).1.trans k2⟩] at p2; cases p2; exact ⟨e, h⟩
  · obtain ⟨a1, a2, a3, a4⟩ := hs s b.1.1 b.1.2
    have ne : ¬ ∃ k, 0 ≤ k ∧ k < σ 114 (4 + 9 * s) ∧ (mv (σ 114)).2.2.1 s k = w := by
      rintro ⟨k, k0, k1, k3⟩
      exact k2 k k0 (by omega) ((a3 k k0 (by omega)).1.symm.trans k3)
    rw [f, if_neg (by omega), if_neg ne, if_pos (by omega)] at p2; cases p2; exact ⟨e, h⟩
  · obtain ⟨a1, a2, a3, a4⟩ := hs s b.1.1 b.1.2
    have ne : ¬ ∃ k, 0 ≤ k ∧ k < σ 114 (4 + 9 * s) ∧ (mv (σ 114)).2.2.1 s k = w := by
      rintro ⟨k, k0, k1, k3⟩
      exact k2 k k0 (by omega) ((a3 k k0 (by omega)).1.symm.trans k3)
    have gE : widS (undS σ) 1 s w q = up (up (up (undS σ) 3 (s * 4 + σ 2 s) w) 4 (s * 4 + σ 2 s) q) 2 s (σ 2 s + 1) := by
      unfold widS; rw [undS_1 (by decide)]
    rw [gE] at f
    have x0 : ∀ (c : Nat) (k : Int), (c = 0 ∨ c = 1 ∨ 5 ≤ c) → σ1 c k = undS σ c k := fun c k hc => by
      rw [f, up_ne (by omega), up_ne (by omega), up_ne (by omega)]
    have x114 : σ1 114 = σ 114 := funext fun k => by rw [x0 _ _ (by omega), undS_r (by decide)]
    have c2 : ∀ k : Int, k ≠ s → σ1 2 k = σ 2 k := fun k hk => by rw [f, up_nk hk, up_ne (by decide), up_ne (by decide), undS_1 (by decide)]
    have c2s : σ1 2 s = σ 2 s + 1 := by rw [f, up_eq]
    have c3 : ∀ k : Int, k ≠ s * 4 + σ 2 s → σ1 3 k = σ 3 k := fun k hk => by rw [f, up_ne (by decide), up_ne (by decide), up_nk hk, undS_1 (by decide)]
    have c3s : σ1 3 (s * 4 + σ 2 s) = w := by rw [f, up_ne (by decide), up_ne (by decide), up_eq]
    have c4 : ∀ k : Int, k ≠ s * 4 + σ 2 s → σ1 4 k = σ 4 k := fun k hk => by rw [f, up_ne (by decide), up_nk hk, up_ne (by decide), undS_1 (by decide)]
    have c4s : σ1 4 (s * 4 + σ 2 s) = q := by rw [f, up_ne (by decide), up_eq]
    rw [x114, if_neg (by omega), if_neg ne, if_neg (by omega), a1] at p2
    obtain ⟨e2, f2⟩ := Prod.mk.inj p2
    have y0 : ∀ (c : Nat) (k : Int), c ≠ 114 → σ2 c k = noteS σ1 c k := fun c k hc => by rw [f2, up_ne hc, up_ne hc, up_ne hc]
    have y1 : ∀ (c : Nat) (k : Int), c < 113 → σ2 c k = σ1 c k := fun c k hc => by rw [y0 c k (by omega), noteS_ne (by omega)]
    have z : ∀ k : Int, k ≠ 4 + 9 * s → k ≠ 4 + 9 * s + 1 + σ 2 s → k ≠ 4 + 9 * s + 5 + σ 2 s → σ2 114 k = σ 114 k := fun k b1 b2 b3 => by
      rw [f2, up_nk b1, up_nk b3, up_nk b2, noteS_ne (by omega), x114]
    have z0 : σ2 114 (4 + 9 * s) = σ 2 s + 1 := by rw [f2, up_eq]
    have z1 : σ2 114 (4 + 9 * s + 1 + σ 2 s) = w := by rw [f2, up_nk (by omega), up_nk (by omega), up_eq]
    have z5 : σ2 114 (4 + 9 * s + 5 + σ 2 s) = q := by rw [f2, up_nk (by omega), up_eq]
    have w13 : σ2 1 3 = σ 1 3 := by rw [y1 _ _ (by decide), x0 _ _ (by omega), undS_1 (by decide)]
    refine ⟨by omega, Rel_und h (σ1 := σ1) (fun c k hc => x0 c k (by omega)) (fun c k hc => y0 c k (by omega)) (R1_of h.1 ?_ ?_ (fun i i0 i1 => ?_) (fun k k0 k1 => ?_) (fun k k0 k1 => z k (by omega) (by omega) (by omega)))⟩
    · rw [z 0 (by omega) (by omega) (by omega), w13, n0]
    · rw [w13]; omega
    · rw [w13] at i1
      by_cases g : i = s
      · rw [g]
        have w2 : σ2 2 s = σ 2 s + 1 := by rw [y1 _ _ (by decide), c2s]
        refine ⟨by rw [z0, w2], by rw [w2]; omega, fun k k0 k1 => ?_, fun k l k0 k1 l0 l1 g2 => ?_⟩
        · rw [w2] at k1
          rw [y1 3 _ (by decide), y1 4 _ (by decide)]
          by_cases g2 : k = σ 2 s
          · rw [g2, z1, z5, c3s, c4s]; exact ⟨rfl, rfl, b.2.1, b.2.2⟩
          · rw [z _ (by omega) (by omega) (by omega), z _ (by omega) (by omega) (by omega), c3 _ (by omega), c4 _ (by omega)]
            exact a3 k k0 (by omega)
        · rw [w2] at k1 l1
          rw [y1 _ _ (by decide), y1 _ _ (by decide)] at g2
          by_cases g3 : k = σ 2 s
          · by_cases g4 : l = σ 2 s
            · omega
            · rw [g3, c3s, c3 _ (by omega)] at g2
              exact absurd g2.symm (k2 l l0 (by omega))
          · by_cases g4 : l = σ 2 s
            · rw [g4, c3s, c3 _ (by omega)] at g2
              exact absurd g2 (k2 k k0 (by omega))
            · rw [c3 _ (by omega), c3 _ (by omega)] at g2
              exact a4 k l k0 (by omega) l0 (by omega) g2
      · refine sOK_keep (hs i i0 i1) (fun k k0 k1 => z _ (by omega) (by omega) (by omega)) (by rw [y1 _ _ (by decide), c2 _ g]) (fun k k0 k1 => ?_)
        rw [y1 _ _ (by decide), y1 _ _ (by decide), c3 _ (by omega), c4 _ (by omega)]; exact ⟨rfl, rfl⟩
    · rw [y1 _ _ (by decide), x0 _ _ (by omega), undS_1 (by decide)]
theorem q_settle {σ σ1 σ2 : Sg} {s w r1 r2 : Int} (h : Rel σ) (p : (¬ ((0 ≤ s ∧ s < σ 1 3) ∧ (0 ≤ w ∧ w ≤ 31)) ∧ r1 = -1 ∧ σ1 = σ) ∨ (((0 ≤ s ∧ s < σ 1 3) ∧ (0 ≤ w ∧ w ≤ 31)) ∧ ((∀ k, 0 ≤ k → k < σ 2 s → σ 3 (s * 4 + k) ≠ w) ∨ σ 2 s = 1) ∧ r1 = -2 ∧ σ1 = σ) ∨ (((0 ≤ s ∧ s < σ 1 3) ∧ (0 ≤ w ∧ w ≤ 31)) ∧ ∃ k, (0 ≤ k ∧ k < σ 2 s ∧ σ 3 (s * 4 + k) = w ∧ ∀ j, 0 ≤ j → j < k → σ 3 (s * 4 + j) ≠ w) ∧ σ 2 s ≠ 1 ∧ r1 = σ 2 s - 1 ∧ σ1 = narS (undS σ) 1 s k)) (p2 : (¬ (0 ≤ s ∧ s < σ1 114 0 ∧ 0 ≤ w ∧ w ≤ 31) ∧ r2 = -1 ∧ σ2 = σ1) ∨ ((0 ≤ s ∧ s < σ1 114 0) ∧ (0 ≤ w ∧ w ≤ 31) ∧ ((¬ ∃ k, 0 ≤ k ∧ k < σ1 114 (4 + 9 * s) ∧ (mv (σ1 114)).2.2.1 s k = w) ∨ σ1 114 (4 + 9 * s) = 1) ∧ r2 = -2 ∧ σ2 = σ1) ∨ ((0 ≤ s ∧ s < σ1 114 0) ∧ (0 ≤ w ∧ w ≤ 31) ∧ ∃ k, 0 ≤ k ∧ k < σ1 114 (4 + 9 * s) ∧ (mv (σ1 114)).2.2.1 s k = w ∧ σ1 114 (4 + 9 * s) ≠ 1 ∧ r2 = σ1 114 (4 + 9 * s) - 1 ∧ σ2 = setS σ1 s w ((mv (σ1 114)).2.2.2 s k))) : r1 = r2 ∧ Rel σ2 := by
  obtain ⟨⟨n0, n1, n2⟩, hs⟩ := R1_sOK h.1
  rcases p with ⟨b, e, f⟩ | ⟨b, d, e, f⟩ | ⟨b, k, ⟨k0, k1, k2, _⟩, d, e, f⟩
  · rcases p2 with ⟨_, e2, f2⟩ | ⟨b2, b3, _⟩ | ⟨b2, b3, _⟩
    · rw [f2, f]; exact ⟨by omega, h⟩
    · rw [f, n0] at b2; exact absurd ⟨b2, b3⟩ b
    · rw [f, n0] at b2; exact absurd ⟨b2, b3⟩ b
  · obtain ⟨a1, a2, a3, a4⟩ := hs s b.1.1 b.1.2
    rcases p2 with ⟨b2, _⟩ | ⟨_, _, _, e2, f2⟩ | ⟨_, _, k, k0, k1, k2, k3, _⟩
    · rw [f, n0] at b2; exact absurd ⟨b.1.1, b.1.2, b.2.1, b.2.2⟩ b2
    · rw [f2, f]; exact ⟨by omega, h⟩
    · rw [f, a1] at k1 k3
      rw [f] at k2
      rcases d with d | d
      · exact absurd ((a3 k k0 k1).1.symm.trans k2) (d k k0 k1)
      · exact absurd d k3
  · obtain ⟨a1, a2, a3, a4⟩ := hs s b.1.1 b.1.2
    have gE : narS (undS σ) 1 s k = up (up (up (undS σ) 3 (s * 4) (σ 3 (s * 4 + k))) 4 (s * 4) (σ 4 (s * 4 + k))) 2 s 1 := by
      unfold narS; rw [undS_1 (by decide), undS_1 (by decide)]
    rw [gE] at f
    have x0 : ∀ (c : Nat) (k : Int), (c = 0 ∨ c = 1 ∨ 5 ≤ c) → σ1 c k = undS σ c k := fun c k hc => by
      rw [f, up_ne (by omega), up_ne (by omega), up_ne (by omega)]
    have x114 : σ1 114 = σ 114 := funext fun k => by rw [x0 _ _ (by omega), undS_r (by decide)]
    have c2 : ∀ k : Int, k ≠ s → σ1 2 k = σ 2 k := fun k hk => by rw [f, up_nk hk, up_ne (by decide), up_ne (by decide), undS_1 (by decide)]
    have c2s : σ1 2 s = 1 := by rw [f, up_eq]
    have c3 : ∀ j : Int, j ≠ s * 4 → σ1 3 j = σ 3 j := fun j hk => by rw [f, up_ne (by decide), up_ne (by decide), up_nk hk, undS_1 (by decide)]
    have c3s : σ1 3 (s * 4) = w := by rw [f, up_ne (by decide), up_ne (by decide), up_eq, k2]
    have c4 : ∀ j : Int, j ≠ s * 4 → σ1 4 j = σ 4 j := fun j hk => by rw [f, up_ne (by decide), up_nk hk, up_ne (by decide), undS_1 (by decide)]
    have c4s : σ1 4 (s * 4) = σ 4 (s * 4 + k) := by rw [f, up_ne (by decide), up_eq]
    rw [x114, a1, n0] at p2
    rcases p2 with ⟨b2, _⟩ | ⟨_, _, d2, _⟩ | ⟨_, _, l, l0, l1, l2, l3, e2, f2⟩
    · exact absurd ⟨b.1.1, b.1.2, b.2.1, b.2.2⟩ b2
    · rcases d2 with d2 | d2
      · exact absurd ⟨k, k0, k1, (a3 k k0 k1).1.trans k2⟩ d2
      · exact absurd d2 d
    · have lk : l = k := a4 l k l0 l1 k0 k1 (((a3 l l0 l1).1.symm.trans l2).trans k2.symm)
      rw [lk] at f2
      have q4 : (mv (σ 114)).2.2.2 s k = σ 4 (s * 4 + k) := (a3 k k0 k1).2.1
      rw [q4] at f2
      unfold setS at f2
      rw [Int.add_zero, Int.add_zero] at f2
      have y0 : ∀ (c : Nat) (k : Int), c ≠ 114 → σ2 c k = noteS σ1 c k := fun c k hc => by rw [f2, up_ne hc, up_ne hc, up_ne hc, fl_ne hc]
      have y1 : ∀ (c : Nat) (k : Int), c < 113 → σ2 c k = σ1 c k := fun c k hc => by rw [y0 c k (by omega), noteS_ne (by omega)]
      have z : ∀ j : Int, (j < 4 + 9 * s ∨ 4 + 9 * s + 9 ≤ j) → σ2 114 j = σ 114 j := fun j b1 => by
        rw [f2, up_nk (by omega), up_nk (by omega), up_nk (by omega), fl_out (by omega), noteS_ne (by omega), x114]
      have z0 : σ2 114 (4 + 9 * s) = 1 := by rw [f2, up_eq]; rfl
      have z1 : σ2 114 (4 + 9 * s + 1) = w := by rw [f2, up_nk (by omega), up_nk (by omega), up_eq]
      have z5 : σ2 114 (4 + 9 * s + 5) = σ 4 (s * 4 + k) := by rw [f2, up_nk (by omega), up_eq]
      have w13 : σ2 1 3 = σ 1 3 := by rw [y1 _ _ (by decide), x0 _ _ (by omega), undS_1 (by decide)]
      refine ⟨by omega, Rel_und h (σ1 := σ1) (fun c k hc => x0 c k (by omega)) (fun c k hc => y0 c k (by omega)) (R1_of h.1 ?_ ?_ (fun i i0 i1 => ?_) (fun k k0 k1 => ?_) (fun k k0 k1 => z k (by omega)))⟩
      · rw [z 0 (by omega), w13, n0]
      · rw [w13]; omega
      · rw [w13] at i1
        by_cases g : i = s
        · rw [g]
          have w2 : σ2 2 s = 1 := by rw [y1 _ _ (by decide), c2s]
          refine ⟨by rw [z0, w2], by rw [w2]; omega, fun j j0 j1 => ?_, fun j l k0 k1 l0 l1 g2 => ?_⟩
          · rw [w2] at j1
            have : j = 0 := by omega
            rw [this, Int.add_zero, Int.add_zero, Int.add_zero, y1 3 _ (by decide), y1 4 _ (by decide), z1, z5, c3s, c4s]
            exact ⟨rfl, rfl, b.2, (a3 k k0 k1).2.2.2⟩
          · rw [w2] at k1 l1; omega
        · refine sOK_keep (hs i i0 i1) (fun k k0 k1 => z _ (by omega)) (by rw [y1 _ _ (by decide), c2 _ g]) (fun k k0 k1 => ?_)
          rw [y1 _ _ (by decide), y1 _ _ (by decide), c3 _ (by omega), c4 _ (by omega)]; exact ⟨rfl, rfl⟩
      · rw [y1 _ _ (by decide), x0 _ _ (by omega), undS_1 (by decide)]
