theorem q_meant {σ σ1 σ2 : Sg} {s lane i n r1 r2 : Int} (h : Rel σ) (p : (¬ ((0 ≤ s ∧ s ≤ 3) ∧ (0 ≤ lane ∧ lane ≤ 3) ∧ 1 ≤ n ∧ n ≤ 6) ∧ r1 = -1 ∧ σ1 = σ) ∨ (((0 ≤ s ∧ s ≤ 3) ∧ (0 ≤ lane ∧ lane ≤ 3) ∧ 1 ≤ n ∧ n ≤ 6) ∧ r1 ≠ 0 ∧ r1 = (if σ (105 + 2 * s.toNat) 1 = -1 then (-11 : Int) else if σ (105 + 2 * s.toNat) 1 ≠ lane then -12 else if i < 0 ∨ n < 0 ∨ σ (105 + 2 * s.toNat) 2 - n < i then -13 else 0) ∧ σ1 = σ) ∨ (((0 ≤ s ∧ s ≤ 3) ∧ (0 ≤ lane ∧ lane ≤ 3) ∧ 1 ≤ n ∧ n ≤ 6) ∧ (if σ (105 + 2 * s.toNat) 1 = -1 then (-11 : Int) else if σ (105 + 2 * s.toNat) 1 ≠ lane then -12 else if i < 0 ∨ n < 0 ∨ σ (105 + 2 * s.toNat) 2 - n < i then -13 else 0) = 0 ∧ r1 = ((setF (mP (cv σ 1) (fun j => σ (105 + 2 * s.toNat + 1) (i + j)) n (rdN (cv σ 1)).toNat 0) 5 : Nat) : Int) ∧ SI σ1 ∧ Fm fSv σ σ1))
    (q : (¬ (0 ≤ s ∧ s ≤ 3 ∧ (0 ≤ lane ∧ lane ≤ 3) ∧ 1 ≤ n ∧ n ≤ 6) ∧ r2 = -1 ∧ σ2 = σ1) ∨ ((0 ≤ s ∧ s ≤ 3 ∧ (0 ≤ lane ∧ lane ≤ 3) ∧ 1 ≤ n ∧ n ≤ 6) ∧ r2 < 0 ∧ r2 = (if σ1 130 s < 0 then (-11 : Int) else if σ1 130 s ≠ lane then -12 else if i < 0 ∨ σ1 131 s - i < n then -13 else 0) ∧ σ2 = σ1) ∨ ((0 ≤ s ∧ s ≤ 3 ∧ (0 ≤ lane ∧ lane ≤ 3) ∧ 1 ≤ n ∧ n ≤ 6) ∧ (if σ1 130 s < 0 then (-11 : Int) else if σ1 130 s ≠ lane then -12 else if i < 0 ∨ σ1 131 s - i < n then -13 else 0) = 0 ∧ r2 = ((setF (mP (mv (σ1 114)) (fun j => σ1 132 (24 * s + i + j)) n (rdN (mv (σ1 114))).toNat 0) 5 : Nat) : Int) ∧ Fm fFd σ1 σ2)) : r1 = r2 ∧ Rel σ2 := by
  have v := Rel_V h
  by_cases b : (0 ≤ s ∧ s ≤ 3) ∧ (0 ≤ lane ∧ lane ≤ 3) ∧ 1 ≤ n ∧ n ≤ 6
  · obtain ⟨c1, c2, c3, c4, c5⟩ := h.2.2.2.2.1 s b.1.1 b.1.2
    have ew : (if σ (105 + 2 * s.toNat) 1 = -1 then (-11 : Int) else if σ (105 + 2 * s.toNat) 1 ≠ lane then -12 else if i < 0 ∨ n < 0 ∨ σ (105 + 2 * s.toNat) 2 - n < i then -13 else 0) = (if σ 130 s < 0 then (-11 : Int) else if σ 130 s ≠ lane then -12 else if i < 0 ∨ σ 131 s - i < n then -13 else 0) := by
      by_cases x1 : σ 130 s < 0
      · rw [if_pos x1, if_pos (by omega)]
      · have c6 := c5 (by omega)
        have x1' : ¬ σ (105 + 2 * s.toNat) 1 = -1 := by omega
        rw [if_neg x1, if_neg x1', c4]
        by_cases x2 : σ 130 s ≠ lane
        · rw [if_pos x2, if_pos x2]
        · rw [if_neg x2, if_neg x2]
          by_cases x3 : i < 0 ∨ σ 131 s - i < n
          · have x4 : i < 0 ∨ n < 0 ∨ σ (105 + 2 * s.toNat) 2 - n < i := by omega
            rw [if_pos x3, if_pos x4]
          · have x4 : ¬ (i < 0 ∨ n < 0 ∨ σ (105 + 2 * s.toNat) 2 - n < i) := by omega
            rw [if_neg x3, if_neg x4]
    rw [ew] at p
    rcases p with p | p | p
    · exact absurd b p.1
    · obtain ⟨_, p1, p2, p3⟩ := p
      subst p3
      rcases q with q | q | q
      · exact absurd ⟨b.1.1, b.1.2, b.2⟩ q.1
      · rw [q.2.2.2]; exact ⟨by rw [p2, q.2.2.1], h⟩
      · exfalso; rw [q.2.1] at p2; exact p1 p2
    · obtain ⟨_, p1, p2, p3, p4⟩ := p
      have e130 : σ1 130 = σ 130 := p4.row 130 (fun k => fSv_o (by omega))
      have e131 : σ1 131 = σ 131 := p4.row 131 (fun k => fSv_o (by omega))
      have e132 : σ1 132 = σ 132 := p4.row 132 (fun k => fSv_o (by omega))
      rw [e130, e131, e132, q_mid p4] at q
      rcases q with q | q | q
      · exact absurd ⟨b.1.1, b.1.2, b.2⟩ q.1
      · exfalso; have := q.2.2.1; rw [p1] at this; have := q.2.1; omega
      · refine ⟨?_, Rel_two h p3 p4 q.2.2.2 fFd_p⟩
        have xx : ¬ σ 130 s < 0 ∧ ¬ (i < 0 ∨ σ 131 s - i < n) := by
          by_cases x1 : σ 130 s < 0
          · rw [if_pos x1] at p1; exact absurd p1 (by decide)
          · rw [if_neg x1] at p1
            by_cases x2 : σ 130 s ≠ lane
            · rw [if_pos x2] at p1; exact absurd p1 (by decide)
            · rw [if_neg x2] at p1
              by_cases x3 : i < 0 ∨ σ 131 s - i < n
              · rw [if_pos x3] at p1; exact absurd p1 (by decide)
              · exact ⟨x1, x3⟩
        have c6 := c5 (by omega)
        rw [p2, q.2.2.1, eq_mP v.1 v.2.1, eq_rdN v.1 v.2.1.1]
        congr 1
        refine setF_congr 5 (fun j _ => ?_)
        unfold mP mB
        have el : ∀ r : Int, lkP (cv σ 1) (fun j => σ (105 + 2 * s.toNat + 1) (i + j)) n r ↔ lkP (cv σ 1) (fun j => σ 132 (24 * s + i + j)) n r := fun r => by
          unfold lkP
          refine and_congr_right (fun _ => forall_congr' fun j => forall_congr' fun j0 => forall_congr' fun j1 => ?_)
          show σ (105 + 2 * s.toNat + 1) (i + j) = _ ↔ σ 132 (24 * s + i + j) = _
          rw [c6.2 (i + j) (by omega) (by omega), Int.add_assoc]
        rw [el]
  · rcases p with p | p | p
    · rcases q with q | q | q
      · rw [q.2.2, p.2.2]; exact ⟨by rw [p.2.1, q.2.1], h⟩
      · exact absurd ⟨⟨q.1.1, q.1.2.1⟩, q.1.2.2⟩ b
      · exact absurd ⟨⟨q.1.1, q.1.2.1⟩, q.1.2.2⟩ b
    · exact absurd p.1 b
    · exact absurd p.1 b

theorem q_item {σ σ1 σ2 : Sg} {s lane i v r1 r2 : Int} (h : Rel σ) (p : (r1, σ1) = if ¬ (0 ≤ s ∧ s ≤ 3) ∨ ¬ (0 ≤ lane ∧ lane ≤ 3) then (-1, σ) else if σ (105 + 2 * s.toNat) 1 < 0 then (-11, σ) else if σ (105 + 2 * s.toNat) 1 ≠ lane then (-12, σ) else if i < 0 ∨ σ (105 + 2 * s.toNat) 2 - 1 < i then (-13, σ) else (1, up σ (105 + 2 * s.toNat + 1) i (cutF v (σ (105 + 2 * s.toNat) 1))))
    (q : (r2, σ2) = if ¬ (0 ≤ s ∧ s ≤ 3) ∨ ¬ (0 ≤ lane ∧ lane ≤ 3) then (-1, σ1) else if (if σ1 130 s < 0 then (-11 : Int) else if σ1 130 s ≠ lane then -12 else if i < 0 ∨ σ1 131 s - i < 1 then -13 else 0) < 0 then ((if σ1 130 s < 0 then (-11 : Int) else if σ1 130 s ≠ lane then -12 else if i < 0 ∨ σ1 131 s - i < 1 then -13 else 0), σ1) else (1, up σ1 132 (24 * s + i) (cutF v lane))) : r1 = r2 ∧ Rel σ2 := by
  by_cases b : ¬ (0 ≤ s ∧ s ≤ 3) ∨ ¬ (0 ≤ lane ∧ lane ≤ 3)
  · rw [if_pos b] at p q; cases p; cases q; exact ⟨rfl, h⟩
  · rw [if_neg b] at p q
    have b1 : (0 ≤ s ∧ s ≤ 3) ∧ 0 ≤ lane ∧ lane ≤ 3 := by omega
    obtain ⟨c1, c2, c3, c4, c5⟩ := h.2.2.2.2.1 s b1.1.1 b1.1.2
    rw [c4] at p
    by_cases x1 : σ 130 s < 0
    · rw [if_pos x1] at p; cases p
      rw [if_pos x1, if_pos (by decide)] at q; cases q; exact ⟨rfl, h⟩
    · rw [if_neg x1] at p
      have c6 := c5 (by omega)
      by_cases x2 : σ 130 s ≠ lane
      · rw [if_pos x2] at p; cases p
        rw [if_neg x1, if_pos x2, if_pos (by decide)] at q; cases q; exact ⟨rfl, h⟩
      · rw [if_neg x2] at p
        by_cases x3 : i < 0 ∨ σ 131 s - i < 1
        · have x4 : i < 0 ∨ σ (105 + 2 * s.toNat) 2 - 1 < i := by omega
          rw [if_pos x4] at p; cases p
          rw [if_neg x1, if_neg x2, if_pos x3, if_pos (by decide)] at q; cases q; exact ⟨rfl, h⟩
        · have x4 : ¬ (i < 0 ∨ σ (105 + 2 * s.toNat) 2 - 1 < i) := by omega
          rw [if_neg x4] at p; cases p
          have e130 : ∀ k, up σ (105 + 2 * s.toNat + 1) i (cutF v (σ 130 s)) 130 k = σ 130 k := fun k => up_ne (by omega)
          have e131 : ∀ k, up σ (105 + 2 * s.toNat + 1) i (cutF v (σ 130 s)) 131 k = σ 131 k := fun k => up_ne (by omega)
          rw [e130, e131, if_neg x1, if_neg x2, if_neg x3, if_neg (by decide)] at q
          cases q
          refine ⟨rfl, Rel_sheet h (fun c k hc => ?_) (fun t t0 t1 => ?_)⟩
          · rw [up_ne (by omega), up_ne (by omega)]
          · obtain ⟨a1, a2, a3, a4, a5⟩ := h.2.2.2.2.1 t t0 t1
            rw [up_ne (by omega), up_ne (by omega), up_ne (by omega), up_ne (by omega), up_ne (by omega), up_ne (by omega), up_ne (by omega), up_ne (by omega)]
            refine ⟨a1, a2, a3, a4, fun w => ⟨(a5 w).1, fun l l0 l1 => ?_⟩⟩
            rw [up_ne (by omega)]
            by_cases z : t = s ∧ l = i
            · rw [z.1, z.2, up_eq, up_eq]
              have : σ 130 s = lane := by omega
              rw [this]
            · have e : up σ (105 + 2 * s.toNat + 1) i (cutF v (σ 130 s)) (105 + 2 * t.toNat + 1) l = σ (105 + 2 * t.toNat + 1) l := by
                by_cases y : t = s
                · subst y; exact up_nk (fun y => z ⟨rfl, y⟩)
                · exact up_ne (by omega)
              rw [e, up_nk (show 24 * t + l ≠ 24 * s + i by omega), up_ne (by omega)]; exact (a5 w).2 l l0 l1
