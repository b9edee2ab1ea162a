theorem q_copy {σ σ1 σ2 : Sg} {a i b j n r1 r2 : Int} (h : Rel σ) (p : (r1, σ1) = if ¬ (0 ≤ a ∧ a ≤ 3) ∨ ¬ (0 ≤ b ∧ b ≤ 3) then (-1, σ) else if σ (105 + 2 * a.toNat) 1 < 0 ∨ σ (105 + 2 * b.toNat) 1 < 0 then (-11, σ) else if σ (105 + 2 * a.toNat) 1 ≠ σ (105 + 2 * b.toNat) 1 then (-12, σ) else if n < 0 ∨ i < 0 ∨ j < 0 ∨ σ (105 + 2 * a.toNat) 2 - n < i ∨ σ (105 + 2 * b.toNat) 2 - n < j then (-13, σ) else (n, cp σ (105 + 2 * a.toNat + 1) i (105 + 2 * b.toNat + 1) j n))
    (q : (r2, σ2) = if ¬ (0 ≤ a ∧ a ≤ 3) ∨ ¬ (0 ≤ b ∧ b ≤ 3) then (-1, σ1) else if σ1 130 a < 0 ∨ σ1 130 b < 0 then (-11, σ1) else if σ1 130 a ≠ σ1 130 b then (-12, σ1) else if n < 0 ∨ i < 0 ∨ j < 0 ∨ σ1 131 a < i + n ∨ σ1 131 b < j + n then (-13, σ1) else (n, cpyS σ1 a i b j n)) : r1 = r2 ∧ Rel σ2 := by
  by_cases ok : ¬ (0 ≤ a ∧ a ≤ 3) ∨ ¬ (0 ≤ b ∧ b ≤ 3)
  · rw [if_pos ok] at p q; cases p; cases q; exact ⟨rfl, h⟩
  · rw [if_neg ok] at p q
    have ok1 : (0 ≤ a ∧ a ≤ 3) ∧ 0 ≤ b ∧ b ≤ 3 := by omega
    obtain ⟨c1, c2, c3, c4, c5⟩ := h.2.2.2.2.1 a ok1.1.1 ok1.1.2
    obtain ⟨d1, d2, d3, d4, d5⟩ := h.2.2.2.2.1 b ok1.2.1 ok1.2.2
    rw [c4, d4] at p
    by_cases x1 : σ 130 a < 0 ∨ σ 130 b < 0
    · rw [if_pos x1] at p; cases p
      rw [if_pos x1] at q; cases q; exact ⟨rfl, h⟩
    · rw [if_neg x1] at p
      have c6 := c5 (by omega)
      have d6 := d5 (by omega)
      by_cases x2 : σ 130 a ≠ σ 130 b
      · rw [if_pos x2] at p; cases p
        rw [if_neg x1, if_pos x2] at q; cases q; exact ⟨rfl, h⟩
      · rw [if_neg x2] at p
        by_cases x3 : n < 0 ∨ i < 0 ∨ j < 0 ∨ σ 131 a < i + n ∨ σ 131 b < j + n
        · have x4 : n < 0 ∨ i < 0 ∨ j < 0 ∨ σ (105 + 2 * a.toNat) 2 - n < i ∨ σ (105 + 2 * b.toNat) 2 - n < j := by omega
          rw [if_pos x4] at p; cases p
          rw [if_neg x1, if_neg x2, if_pos x3] at q; cases q; exact ⟨rfl, h⟩
        · have x4 : ¬ (n < 0 ∨ i < 0 ∨ j < 0 ∨ σ (105 + 2 * a.toNat) 2 - n < i ∨ σ (105 + 2 * b.toNat) 2 - n < j) := by omega
          rw [if_neg x4] at p; cases p
          have ec : ∀ (c : Nat) (k : Int), 113 ≤ c → cp σ (105 + 2 * a.toNat + 1) i (105 + 2 * b.toNat + 1) j n c k = σ c k := fun c k hc => cp_ne (by omega)
          rw [ec 130 a (by decide), ec 130 b (by decide), ec 131 a (by decide), ec 131 b (by decide), if_neg x1, if_neg x2, if_neg x3] at q
          cases q
          generalize hυ : cp σ (105 + 2 * a.toNat + 1) i (105 + 2 * b.toNat + 1) j n = υ at *
          have y132 : ∀ k : Int, cpyS υ a i b j n 132 k = if 24 * b + j ≤ k ∧ k < 24 * b + j + n then σ 132 (24 * a + i + (k - (24 * b + j))) else σ 132 k := fun k => by
            unfold cpyS
            by_cases z : 24 * b + j ≤ k ∧ k < 24 * b + j + n
            · rw [fl_in (by omega), fl_in (by omega), if_pos z, ec _ _ (by decide)]
            · rw [fl_out (by omega), fl_ne (by decide), if_neg z, ec _ _ (by decide)]
          have yo : ∀ (c : Nat) (k : Int), c ≠ 132 → c ≠ 133 → cpyS υ a i b j n c k = υ c k := fun c k e1 e2 => by unfold cpyS; rw [fl_ne e1, fl_ne e2]
          refine ⟨rfl, Rel_sheet h (fun c k hc => ?_) (fun t t0 t1 => ?_)⟩
          · rw [yo c k (by omega) (by omega), ← hυ]; exact cp_ne (by omega)
          · obtain ⟨a1, a2, a3, a4, a5⟩ := h.2.2.2.2.1 t t0 t1
            have yl : ∀ k : Int, υ (105 + 2 * t.toNat) k = σ (105 + 2 * t.toNat) k := fun k => by rw [← hυ]; exact cp_ne (by omega)
            rw [yo _ _ (by decide) (by decide), yo _ _ (by decide) (by decide), yo _ _ (by omega) (by omega), yo _ _ (by omega) (by omega), ec _ _ (by decide), ec _ _ (by decide), yl, yl]
            refine ⟨a1, a2, a3, a4, fun w => ⟨(a5 w).1, fun l l0 l1 => ?_⟩⟩
            rw [yo _ _ (by omega) (by omega), y132]
            by_cases z : t = b ∧ j ≤ l ∧ l < j + n
            · obtain ⟨rfl, z1, z2⟩ := z
              rw [if_pos (by omega), ← hυ, cp_in (by omega), c6.2 _ (by omega) (by omega)]
              congr 1; omega
            · have z5 : ¬ (24 * b + j ≤ 24 * t + l ∧ 24 * t + l < 24 * b + j + n) := by omega
              rw [if_neg z5]
              have e : υ (105 + 2 * t.toNat + 1) l = σ (105 + 2 * t.toNat + 1) l := by
                rw [← hυ]
                by_cases y : t = b
                · exact cp_out (by omega)
                · exact cp_ne (by omega)
              rw [e]; exact (a5 w).2 l l0 l1
theorem q_film {σ σ1 σ2 : Sg} {s lane i0 r1 r2 : Int} (h : Rel σ) (p : (¬ ((0 ≤ s ∧ s ≤ 3) ∧ 0 ≤ lane ∧ lane ≤ 3) ∧ r1 = -1 ∧ σ1 = σ) ∨ (((0 ≤ s ∧ s ≤ 3) ∧ 0 ≤ lane ∧ lane ≤ 3) ∧ (bR (cv σ 1) (σ 1 4)) = -4 ∧ r1 = -4 ∧ SI σ1 ∧ Fm fSv σ σ1) ∨ (((0 ≤ s ∧ s ≤ 3) ∧ 0 ≤ lane ∧ lane ≤ 3) ∧ (bR (cv σ 1) (σ 1 4)) ≠ -4 ∧ r1 ≠ 0 ∧ r1 = (if σ (105 + 2 * s.toNat) 1 = -1 then (-11 : Int) else if σ (105 + 2 * s.toNat) 1 ≠ lane then -12 else if i0 < 0 ∨ ((nm (cv σ 1) (bR (cv σ 1) (σ 1 4))).length : Int) < 0 ∨ σ (105 + 2 * s.toNat) 2 - ((nm (cv σ 1) (bR (cv σ 1) (σ 1 4))).length : Int) < i0 then -13 else 0) ∧ SI σ1 ∧ Fm fSv σ σ1) ∨ (((0 ≤ s ∧ s ≤ 3) ∧ 0 ≤ lane ∧ lane ≤ 3) ∧ (bR (cv σ 1) (σ 1 4)) ≠ -4 ∧ (if σ (105 + 2 * s.toNat) 1 = -1 then (-11 : Int) else if σ (105 + 2 * s.toNat) 1 ≠ lane then -12 else if i0 < 0 ∨ ((nm (cv σ 1) (bR (cv σ 1) (σ 1 4))).length : Int) < 0 ∨ σ (105 + 2 * s.toNat) 2 - ((nm (cv σ 1) (bR (cv σ 1) (σ 1 4))).length : Int) < i0 then -13 else 0) = 0 ∧ r1 = ((nm (cv σ 1) (bR (cv σ 1) (σ 1 4))).length : Int) ∧ flmQ σ s lane i0 ((nm (cv σ 1) (bR (cv σ 1) (σ 1 4))).length : Int) σ1))
    (q : (¬ (0 ≤ s ∧ s ≤ 3 ∧ 0 ≤ lane ∧ lane ≤ 3) ∧ r2 = -1 ∧ σ2 = σ1) ∨ ((0 ≤ s ∧ s ≤ 3 ∧ 0 ≤ lane ∧ lane ≤ 3) ∧ bR (mv (σ1 114)) (σ1 114 1) = -4 ∧ r2 = -4 ∧ Fm fFd σ1 σ2) ∨ ((0 ≤ s ∧ s ≤ 3 ∧ 0 ≤ lane ∧ lane ≤ 3) ∧ bR (mv (σ1 114)) (σ1 114 1) ≠ -4 ∧ r2 < 0 ∧ r2 = (if σ1 130 s < 0 then (-11 : Int) else if σ1 130 s ≠ lane then -12 else if i0 < 0 ∨ σ1 131 s - i0 < ((nm (mv (σ1 114)) (bR (mv (σ1 114)) (σ1 114 1))).length : Int) then -13 else 0) ∧ Fm fFd σ1 σ2) ∨ ((0 ≤ s ∧ s ≤ 3 ∧ 0 ≤ lane ∧ lane ≤ 3) ∧ bR (mv (σ1 114)) (σ1 114 1) ≠ -4 ∧ (if σ1 130 s < 0 then (-11 : Int) else if σ1 130 s ≠ lane then -12 else if i0 < 0 ∨ σ1 131 s - i0 < ((nm (mv (σ1 114)) (bR (mv (σ1 114)) (σ1 114 1))).length : Int) then -13 else 0) = 0 ∧ r2 = ((nm (mv (σ1 114)) (bR (mv (σ1 114)) (σ1 114 1))).length : Int) ∧ ∃ τ, Fm fFd σ1 τ ∧ τ 113 13 = ((nm (mv (σ1 114)) (bR (mv (σ1 114)) (σ1 114 1))).length : Int) ∧ rowIs (τ 118) (nm (mv (σ1 114)) (bR (mv (σ1 114)) (σ1 114 1))) ∧ σ2 = fl τ 132 (24 * s + i0) (24 * s + i0 + (τ 113 13 - 0)) (fun k => cutF (τ 118 (k - (24 * s + i0))) lane))) : r1 = r2 ∧ Rel σ2 := by
  have v := Rel_V h
  by_cases b : (0 ≤ s ∧ s ≤ 3) ∧ 0 ≤ lane ∧ lane ≤ 3
  · obtain ⟨c1, c2, c3, c4, c5⟩ := h.2.2.2.2.1 s b.1.1 b.1.2
    have e114 : σ1 114 = σ 114 := by
      rcases p with p | p | p | p
      · rw [p.2.2]
      · exact q_mid p.2.2.2.2
      · exact q_mid p.2.2.2.2.2
      · exact funext fun k => p.2.2.2.2.2.2 114 k (by omega) (by omega)
    have eB : bR (mv (σ1 114)) (σ1 114 1) = bR (cv σ 1) (σ 1 4) := by rw [e114, eq_bR v.1 v.2.1, v.2.2.2.2.1]
    have eN : nm (mv (σ1 114)) = nm (cv σ 1) := by rw [e114, eq_nm v.1 v.2.1]
    have e13x : ∀ (c : Nat) (k : Int), 130 ≤ c → c ≤ 132 → σ1 c k = σ c k := fun c k c0 c1 => by
      rcases p with p | p | p | p
      · rw [p.2.2]
      · exact p.2.2.2.2 c k (fSv_o (by omega))
      · exact p.2.2.2.2.2 c k (fSv_o (by omega))
      · exact p.2.2.2.2.2.2 c k (by omega) (by omega)
    rw [eB, eN, e13x 130 s (by decide) (by decide), e13x 131 s (by decide) (by decide)] at q
    generalize hl : ((nm (cv σ 1) (bR (cv σ 1) (σ 1 4))).length : Int) = l at *
    have hl0 : 0 ≤ l := by omega
    have ew : (if σ (105 + 2 * s.toNat) 1 = -1 then (-11 : Int) else if σ (105 + 2 * s.toNat) 1 ≠ lane then -12 else if i0 < 0 ∨ l < 0 ∨ σ (105 + 2 * s.toNat) 2 - l < i0 then -13 else 0) = (if σ 130 s < 0 then (-11 : Int) else if σ 130 s ≠ lane then -12 else if i0 < 0 ∨ σ 131 s - i0 < l then -13 else 0) := by
      by_cases x1 : σ 130 s < 0
      · rw [if_pos x1, if_pos (by omega)]
      · have c6 := c5 (by omega)
        have x1' : ¬ σ (105 + 2 * s.toNat) 1 = -1 := by omega
        rw [if_neg x1, if_neg x1', c4]
        by_cases x2 : σ 130 s ≠ lane
        · rw [if_pos x2, if_pos x2]
        · rw [if_neg x2, if_neg x2]
          by_cases x3 : i0 < 0 ∨ σ 131 s - i0 < l
          · have x4 : i0 < 0 ∨ l < 0 ∨ σ (105 + 2 * s.toNat) 2 - l < i0 := by omega
            rw [if_pos x3, if_pos x4]
          · have x4 : ¬ (i0 < 0 ∨ l < 0 ∨ σ (105 + 2 * s.toNat) 2 - l < i0) := by omega
            rw [if_neg x3, if_neg x4]
    rw [ew] at p
    have b' : 0 ≤ s ∧ s ≤ 3 ∧ 0 ≤ lane ∧ lane ≤ 3 := by omega
    rcases p with p | p | p | p
    · exact absurd b p.1
    · rcases q with q | q | q | q
      · exact absurd b' q.1
      · exact ⟨by rw [p.2.2.1, q.2.2.1], Rel_two h p.2.2.2.1 p.2.2.2.2 q.2.2.2 fFd_p⟩
      · exact absurd p.2.1 q.2.1
      · exact absurd p.2.1 q.2.1
    · rcases q with q | q | q | q
      · exact absurd b' q.1
      · exact absurd q.2.1 p.2.1
      · exact ⟨by rw [p.2.2.2.1, q.2.2.2.1], Rel_two h p.2.2.2.2.1 p.2.2.2.2.2 q.2.2.2.2 fFd_p⟩
      · exfalso; have := p.2.2.2.1; rw [q.2.2.1] at this; exact p.2.2.1 this
    · rcases q with q | q | q | q
      · exact absurd b' q.1
      · exact absurd q.2.1 p.2.1
      · exfalso; have := q.2.2.2.1; rw [p.2.2.1] at this; have := q.2.2.1; omega
      · obtain ⟨_, _, p1, p2, p3, p4, p5⟩ := p
        obtain ⟨_, _, _, q2, τ, t1, t2, t3, t4⟩ := q
        refine ⟨by rw [p2, q2], ?_⟩
        have xx : ¬ σ 130 s < 0 ∧ ¬ (i0 < 0 ∨ σ 131 s - i0 < l) ∧ σ 130 s = lane := by
          by_cases x1 : σ 130 s < 0
          · rw [if_pos x1] at p1; exact absurd p1 (by decide)
          · rw [if_neg x1] at p1
            by_cases x2 : σ 130 s ≠ lane
            · rw [if_pos x2] at p1; exact absurd p1 (by decide)
            · rw [if_neg x2] at p1
              by_cases x3 : i0 < 0 ∨ σ 131 s - i0 < l
              · rw [if_pos x3] at p1; exact absurd p1 (by decide)
              · exact ⟨x1, x3, by omega⟩
        have c6 := c5 (by omega)
        have tk : ∀ (c : Nat) (k : Int), (c < 113 ∨ c = 114 ∨ c = 124 ∨ (127 ≤ c ∧ c ≤ 132) ∨ (c = 113 ∧ (k = 23 ∨ k = 29 ∨ k = 32))) → τ c k = σ1 c k := fun c k hc => t1 c k (fFd_p c k hc)
        have tt : ∀ (c : Nat) (k : Int), (c < 83 ∨ (103 < c ∧ c < 113) ∨ c = 114 ∨ c = 124 ∨ (127 ≤ c ∧ c ≤ 131) ∨ (c = 113 ∧ (k = 23 ∨ k = 29 ∨ k = 32))) → c ≠ 105 + 2 * s.toNat + 1 → σ2 c k = σ c k := fun c k hc hn => by
          rw [t4, fl_ne (by omega), tk c k (by omega)]; exact p5 c k (by omega) hn
        have hS2 : SI σ2 := SI_gen p3 (fun c k hc => by rw [t4, fl_ne (by omega)]; exact tk c k (by omega))
        obtain ⟨h1, h2, h3, h4, h5, _⟩ := h
        refine ⟨R1_keep h1 (fun c k hc => tt c k (by omega) (by omega)), R2_keep h2 (fun c k hc => tt c k (by omega) (by omega)) (tt _ _ (by omega) (by omega)), R3_keep h3 (fun c k hc => tt c k (by omega) (by omega)) (tt _ _ (by omega) (by omega)) (tt _ _ (by omega) (by omega)), R4_keep h4 (fun c k hc => tt c k (by omega) (by omega)) (tt _ _ (by omega) (by omega)) (tt _ _ (by omega) (by omega)), fun t t0 t1' => ?_, hS2⟩
        obtain ⟨a1, a2, a3, a4, a5⟩ := h5 t t0 t1'
        rw [tt 130 t (by omega) (by omega), tt 131 t (by omega) (by omega), tt (105 + 2 * t.toNat) 2 (by omega) (by omega), tt (105 + 2 * t.toNat) 1 (by omega) (by omega)]
        refine ⟨a1, a2, a3, a4, fun w => ⟨(a5 w).1, fun m m0 m1 => ?_⟩⟩
        have y132 : σ2 132 (24 * t + m) = if t = s ∧ i0 ≤ m ∧ m < i0 + l then cutF (lrow (nm (cv σ 1) (bR (cv σ 1) (σ 1 4))) (m - i0)) lane else σ 132 (24 * t + m) := by
          rw [t4, t2]
          by_cases z : t = s ∧ i0 ≤ m ∧ m < i0 + l
          · rw [if_pos z, fl_in (by omega), show 24 * t + m - (24 * s + i0) = m - i0 by omega, row_lrow t3 (by omega) (by omega)]
          · rw [if_neg z, fl_out (by omega), tk _ _ (by omega)]; exact p5 _ _ (by omega) (by omega)
        have yc : σ2 (105 + 2 * t.toNat + 1) m = σ1 (105 + 2 * t.toNat + 1) m := by rw [t4, fl_ne (by omega)]; exact tk _ _ (by omega)
        rw [y132, yc]
        by_cases y : t = s
        · subst y
          rw [p4 m]
          by_cases z : i0 ≤ m ∧ m < i0 + l
          · rw [if_pos z, if_pos ⟨rfl, z⟩]
          · rw [if_neg z, if_neg (fun x => z x.2)]; exact (a5 w).2 m m0 m1
        · rw [if_neg (fun x => y x.1), p5 _ _ (by omega) (by omega)]; exact (a5 w).2 m m0 m1
  · rcases p with p | p | p | p
    · rcases q with q | q | q | q
      · rw [q.2.2, p.2.2]; exact ⟨by rw [p.2.1, q.2.1], h⟩
      · exact absurd ⟨⟨q.1.1, q.1.2.1⟩, q.1.2.2⟩ b
      · exact absurd ⟨⟨q.1.1, q.1.2.1⟩, q.1.2.2⟩ b
      · exact absurd ⟨⟨q.1.1, q.1.2.1⟩, q.1.2.2⟩ b
    · exact absurd p.1 b
    · exact absurd p.1 b
    · exact absurd p.1 b
