theorem q_count {σ σ1 σ2 : Sg} {q r1 r2 : Int} (h : Rel σ) (p : r1 = (if q = 0 then σ 1 3 else if q = 1 then σ 1 4 else if q = 2 then σ 1 5 else if q = 3 then nSaid (cv σ 1) (rdN (cv σ 1)).toNat else if q = 4 then nSnd (cv σ 1) (σ 1 4) (rdN (cv σ 1)).toNat else if q = 5 then nCt (cv σ 1) (σ 1 4) (σ 1 5) (rdN (cv σ 1)).toNat else if q = 6 then lkF (cv σ 1) (σ 1 4) (σ 1 5) else if q = 7 then qsF (cv σ 1) (σ 1 4) (σ 1 5) else if q = 8 then (if nxt (cv σ 1) (σ 1 4) (rdN (cv σ 1)).toNat = 9999 then -4 else nxt (cv σ 1) (σ 1 4) (rdN (cv σ 1)).toNat) else if q = 9 then (if bR (cv σ 1) (σ 1 4) = -4 then -4 else spA (cv σ 1) (σ 1 4) (cv σ 1).1.toNat) else if q = 10 then σ 13 2 else -1) ∧ SI σ1 ∧ Fm fSv σ σ1) (p2 : r2 = (if q = 0 then σ1 114 0 else if q = 1 then σ1 114 1 else if q = 2 then σ1 114 2 else if q = 3 then nSaid (mv (σ1 114)) (rdN (mv (σ1 114))).toNat else if q = 4 then nSnd (mv (σ1 114)) (σ1 114 1) (rdN (mv (σ1 114))).toNat else if q = 5 then nCt (mv (σ1 114)) (σ1 114 1) (σ1 114 2) (rdN (mv (σ1 114))).toNat else if q = 6 then lkF (mv (σ1 114)) (σ1 114 1) (σ1 114 2) else if q = 7 then qsF (mv (σ1 114)) (σ1 114 1) (σ1 114 2) else if q = 8 then (if nxt (mv (σ1 114)) (σ1 114 1) (rdN (mv (σ1 114))).toNat = 9999 then -4 else nxt (mv (σ1 114)) (σ1 114 1) (rdN (mv (σ1 114))).toNat) else if q = 9 then (if bR (mv (σ1 114)) (σ1 114 1) = -4 then -4 else spA (mv (σ1 114)) (σ1 114 1) (mv (σ1 114)).1.toNat) else if q = 10 then σ1 113 29 else -1) ∧ Fm fQc σ1 σ2) : r1 = r2 ∧ Rel σ2 := by
  have v := Rel_V h
  have e := v.1
  have hV := v.2.1
  have eu : σ 13 2 = σ 113 29 := h.2.1.2.2.1
  have eu1 : σ1 113 29 = σ 113 29 := p.2.2 113 29 (fSv_o (by omega))
  rw [q_mid p.2.2] at p2
  have en : σ 114 0 = σ 1 3 := e.1
  have en2 : (mv (σ 114)).1 = (cv σ 1).1 := e.1
  refine ⟨?_, Rel_two h p.2.1 p.2.2 p2.2 fQc_p⟩
  have es := eq_spA e hV (σ 1 4) (mv (σ 114)).1.toNat (by have := hV.1; omega)
  rw [p.1, p2.1, eu1, eu, en, v.2.2.2.2.1, v.2.2.2.2.2.1, eq_nSaid e hV, eq_nSnd e hV, eq_nCt e hV, eq_lkF e hV, eq_qsF e hV, eq_nxt e hV, eq_bR e hV, es, en2, eq_rdN e hV.1]
/-! sheets -/
theorem SZ_R5 {σ : Sg} (h : R5 σ) : SZ σ := by
  intro s s0 s1
  obtain ⟨a, b, d, f, g⟩ := h s s0 s1
  rw [f]; exact ⟨d, a⟩
theorem HZ_R5 {σ : Sg} (h : R5 σ) : ∀ s, 0 ≤ s → s ≤ 3 → 0 ≤ σ 131 s ∧ σ 131 s ≤ 24 := fun s s0 s1 => (h s s0 s1).2.1
/-- only sheets have changed -/
def shQ (σ τ : Sg) : Prop := ∀ (c : Nat) (k : Int), ¬ ((105 ≤ c ∧ c ≤ 112) ∨ (130 ≤ c ∧ c ≤ 133)) → τ c k = σ c k
theorem Rel_sheet {σ τ : Sg} (h : Rel σ) (e : shQ σ τ) (h5 : R5 τ) : Rel τ := by
  obtain ⟨h1, h2, h3, h4, _, hS⟩ := h
  exact ⟨R1_keep h1 (fun c k hc => e c k (by omega)), R2_keep h2 (fun c k hc => e c k (by omega)) (e _ _ (by omega)), R3_keep h3 (fun c k hc => e c k (by omega)) (e _ _ (by omega)) (e _ _ (by omega)), R4_keep h4 (fun c k hc => e c k (by omega)) (e _ _ (by omega)) (e _ _ (by omega)), h5, SI_gen hS (fun c k hc => e c k (by omega))⟩
theorem q_sheet {σ σ1 σ2 : Sg} {s lane n r1 r2 : Int} (h : Rel σ) (p : (r1, σ1) = if ¬ (0 ≤ s ∧ s ≤ 3) ∨ ¬ (0 ≤ lane ∧ lane ≤ 3) ∨ 24 < n then (-1, σ) else if n < 0 then (-14, σ) else (n, renS σ (105 + 2 * s.toNat) lane n)) (q : (r2, σ2) = if ¬ (0 ≤ s ∧ s ≤ 3) ∨ ¬ (0 ≤ lane ∧ lane ≤ 3) ∨ 24 < n then (-1, σ1) else if n < 0 then (-14, σ1) else (n, fl (up (up σ1 130 s lane) 131 s n) 132 (24 * s) (24 * s + (24 - 0)) (fun _ => 0))) : r1 = r2 ∧ Rel σ2 := by
  by_cases b : ¬ (0 ≤ s ∧ s ≤ 3) ∨ ¬ (0 ≤ lane ∧ lane ≤ 3) ∨ 24 < n
  · rw [if_pos b] at p q; cases p; cases q; exact ⟨rfl, h⟩
  · rw [if_neg b] at p q
    by_cases d : n < 0
    · rw [if_pos d] at p q; cases p; cases q; exact ⟨rfl, h⟩
    · rw [if_neg d] at p q; cases p; cases q
      refine ⟨rfl, Rel_sheet h (fun c k hc => ?_) (fun t t0 t1 => ?_)⟩
      · rw [fl_ne (by omega), up_ne (by omega), up_ne (by omega)]; unfold renS; rw [fl_ne (by omega), up_ne (by omega), up_ne (by omega)]
      · obtain ⟨a1, a2, a3, a4, a5⟩ := h.2.2.2.2.1 t t0 t1
        have x130 : ∀ t : Int, fl (up (up (renS σ (105 + 2 * s.toNat) lane n) 130 s lane) 131 s n) 132 (24 * s) (24 * s + (24 - 0)) (fun _ => 0) 130 t = up σ 130 s lane 130 t := fun t => by
          rw [fl_ne (by omega), up_ne (by omega)]
          by_cases z : t = s
          · rw [z, up_eq, up_eq]
          · rw [up_nk z, up_nk z]; unfold renS; rw [fl_ne (by omega), up_ne (by omega), up_ne (by omega)]
        have x131 : ∀ t : Int, fl (up (up (renS σ (105 + 2 * s.toNat) lane n) 130 s lane) 131 s n) 132 (24 * s) (24 * s + (24 - 0)) (fun _ => 0) 131 t = up σ 131 s n 131 t := fun t => by
          rw [fl_ne (by omega)]
          by_cases z : t = s
          · rw [z, up_eq, up_eq]
          · rw [up_nk z, up_nk z, up_nk z]; unfold renS; rw [fl_ne (by omega), up_ne (by omega), up_ne (by omega)]
        have xc : ∀ (c : Nat) (k : Int), c < 113 → fl (up (up (renS σ (105 + 2 * s.toNat) lane n) 130 s lane) 131 s n) 132 (24 * s) (24 * s + (24 - 0)) (fun _ => 0) c k = renS σ (105 + 2 * s.toNat) lane n c k := fun c k hc => by rw [fl_ne (by omega), up_ne (by omega), up_ne (by omega)]
        rw [x130, x131, xc _ _ (by omega), xc _ _ (by omega)]
        by_cases z : t = s
        · subst z
          rw [up_eq, up_eq]
          have y1 : renS σ (105 + 2 * t.toNat) lane n (105 + 2 * t.toNat) 1 = lane := by unfold renS; rw [fl_ne (by omega), up_nk (by decide), up_eq]
          have y2 : renS σ (105 + 2 * t.toNat) lane n (105 + 2 * t.toNat) 2 = n := by unfold renS; rw [fl_ne (by omega), up_eq]
          rw [y1, y2]
          refine ⟨by omega, by omega, by omega, rfl, fun _ => ⟨rfl, fun i i0 i1 => ?_⟩⟩
          rw [xc _ _ (by omega), fl_in (by omega)]
          unfold renS; rw [fl_in (by omega)]
        · rw [up_nk z, up_nk z]
          have ne : t.toNat ≠ s.toNat := by omega
          have y : ∀ (c : Nat) (k : Int), (c = 105 + 2 * t.toNat ∨ c = 105 + 2 * t.toNat + 1) → renS σ (105 + 2 * s.toNat) lane n c k = σ c k := fun c k hc => by unfold renS; rw [fl_ne (by omega), up_ne (by omega), up_ne (by omega)]
          rw [y _ _ (Or.inl rfl), y _ _ (Or.inl rfl)]
          refine ⟨a1, a2, a3, a4, fun w => ⟨(a5 w).1, fun i i0 i1 => ?_⟩⟩
          rw [xc _ _ (by omega), y _ _ (Or.inr rfl), fl_out (by omega), up_ne (by omega), up_ne (by omega)]
          have y3 : renS σ (105 + 2 * s.toNat) lane n 132 (24 * t + i) = σ 132 (24 * t + i) := by unfold renS; rw [fl_ne (by omega), up_ne (by omega), up_ne (by omega)]
          rw [y3]; exact (a5 w).2 i i0 i1
theorem q_drop {σ σ1 σ2 : Sg} {s r1 r2 : Int} (h : Rel σ) (p : (r1, σ1) = if ¬ (0 ≤ s ∧ s ≤ 3) then (-1, σ) else if σ (105 + 2 * s.toNat) 1 < 0 then (-11, σ) else (σ (105 + 2 * s.toNat) 2, renS σ (105 + 2 * s.toNat) (-1) 0)) (q : (r2, σ2) = if ¬ (0 ≤ s ∧ s ≤ 3) then (-1, σ1) else if σ1 130 s < 0 then (-11, σ1) else (σ1 131 s, up σ1 130 s (-1))) : r1 = r2 ∧ Rel σ2 := by
  by_cases b : ¬ (0 ≤ s ∧ s ≤ 3)
  · rw [if_pos b] at p q; cases p; cases q; exact ⟨rfl, h⟩
  · rw [if_neg b] at p q
    have b := Classical.not_not.mp b
    obtain ⟨c1, c2, c3, c4, c5⟩ := h.2.2.2.2.1 s b.1 b.2
    by_cases d : σ (105 + 2 * s.toNat) 1 < 0
    · rw [if_pos d] at p; cases p
      rw [if_pos (by omega)] at q; cases q; exact ⟨rfl, h⟩
    · rw [if_neg d] at p; cases p
      have hr : ∀ (c : Nat) (k : Int), 113 ≤ c → renS σ (105 + 2 * s.toNat) (-1) 0 c k = σ c k := fun c k hc => by unfold renS; rw [fl_ne (by omega), up_ne (by omega), up_ne (by omega)]
      rw [hr _ _ (by decide), hr _ _ (by decide), if_neg (by omega)] at q; cases q
      refine ⟨(c5 (by omega)).1, Rel_sheet h (fun c k hc => ?_) (fun t t0 t1 => ?_)⟩
      · rw [up_ne (by omega)]; unfold renS; rw [fl_ne (by omega), up_ne (by omega), up_ne (by omega)]
      · obtain ⟨a1, a2, a3, a4, a5⟩ := h.2.2.2.2.1 t t0 t1
        have xc : ∀ (c : Nat) (k : Int), c ≠ 130 → up (renS σ (105 + 2 * s.toNat) (-1) 0) 130 s (-1) c k = renS σ (105 + 2 * s.toNat) (-1) 0 c k := fun c k hc => up_ne hc
        rw [xc 131 t (by decide), hr 131 t (by decide), xc _ 2 (by omega), xc _ 1 (by omega)]
        by_cases z : t = s
        · subst z
          rw [up_eq]
          have y1 : renS σ (105 + 2 * t.toNat) (-1) 0 (105 + 2 * t.toNat) 1 = -1 := by unfold renS; rw [fl_ne (by omega), up_nk (by decide), up_eq]
          have y2 : renS σ (105 + 2 * t.toNat) (-1) 0 (105 + 2 * t.toNat) 2 = 0 := by unfold renS; rw [fl_ne (by omega), up_eq]
          rw [y1, y2]
          exact ⟨by omega, a2, by omega, rfl, fun w => absurd w (by omega)⟩
        · rw [up_nk z, hr 130 t (by decide)]
          have ne : t.toNat ≠ s.toNat := by omega
          have y : ∀ (c : Nat) (k : Int), (c = 105 + 2 * t.toNat ∨ c = 105 + 2 * t.toNat + 1) → renS σ (105 + 2 * s.toNat) (-1) 0 c k = σ c k := fun c k hc => by unfold renS; rw [fl_ne (by omega), up_ne (by omega), up_ne (by omega)]
          rw [y _ _ (Or.inl rfl), y _ _ (Or.inl rfl)]
          refine ⟨a1, a2, a3, a4, fun w => ⟨(a5 w).1, fun i i0 i1 => ?_⟩⟩
          rw [xc _ _ (by omega), y _ _ (Or.inr rfl), xc _ _ (by decide), hr _ _ (by decide)]; exact (a5 w).2 i i0 i1
