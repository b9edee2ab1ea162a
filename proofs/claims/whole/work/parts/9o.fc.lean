theorem q_seed {σ σ1 σ2 : Sg} {v r1 r2 : Int} (rv : v ≤ 2147483647) (h : Rel σ) (p : (r1, σ1) = if v < 0 then (-1, σ) else (σ 1 6, up σ 1 6 v)) (q : (r2, σ2) = if v < 0 then (-1, σ1) else (σ1 114 3, up σ1 114 3 v)) : r1 = r2 ∧ Rel σ2 := by
  by_cases b : v < 0
  · rw [if_pos b] at p q; cases p; cases q; exact ⟨rfl, h⟩
  · rw [if_neg b] at p q; cases p; cases q
    obtain ⟨h1, h2, h3, h4, h5, h6⟩ := h
    have fr : ∀ (c : Nat) (k : Int), (c ≠ 1 ∨ k ≠ 6) → (c ≠ 114 ∨ k ≠ 3) → up (up σ 1 6 v) 114 3 v c k = σ c k := by
      intro c k a1 a2
      rcases a2 with a2 | a2
      · rw [up_ne a2]; rcases a1 with a1 | a1
        · rw [up_ne a1]
        · rw [up_nk a1]
      · rw [up_nk a2]; rcases a1 with a1 | a1
        · rw [up_ne a1]
        · rw [up_nk a1]
    have x6 : up (up σ 1 6 v) 114 3 v 1 6 = v := by rw [up_ne (by decide), up_eq]
    have x3 : up (up σ 1 6 v) 114 3 v 114 3 = v := up_eq
    refine ⟨?_, ⟨?_, ?_⟩, R2_keep h2 (fun c k hc => fr c k (by omega) (by omega)) (fr _ _ (by decide) (by decide)), R3_keep h3 (fun c k hc => fr c k (by omega) (by omega)) (fr _ _ (by decide) (by decide)) (fr _ _ (by decide) (by decide)), R4_keep h4 (fun c k hc => fr c k (by omega) (by omega)) (fr _ _ (by decide) (by decide)) (fr _ _ (by decide) (by decide)), R5_keep h5 (fun c k hc => fr c k (by omega) (by omega)), SI_see h6 (fr _ _ (by decide) (by decide)) (fr _ _ (by decide) (by decide)) (fr _ _ (by decide) (by decide)) (fun c k hc => fr c k (by omega) (by omega))⟩
    · rw [up_ne (by decide)]; exact h1.1.2.2.2.symm
    · refine HR_meta h1.1 h1.2 (fr _ _ (by decide) (by decide)) (fun c k c0 c1 => fr c k (by omega) (by omega)) (fr _ _ (by decide) (by decide)) (fun k k0 k1 => fr _ _ (by omega) (by omega)) ?_ ?_ ?_
      · rw [fr _ _ (by decide) (by decide), fr _ _ (by decide) (by decide)]; exact h1.1.2.1
      · rw [fr _ _ (by decide) (by decide), fr _ _ (by decide) (by decide)]; exact h1.1.2.2.1
      · rw [x6, x3]
    · refine HW_meta h1.2 (fr _ _ (by decide) (by decide)) (fun k k0 k1 => fr _ _ (by omega) (by omega)) ?_ ?_ ?_
      · rw [fr _ _ (by decide) (by decide)]; exact h1.2.2.2.1
      · rw [fr _ _ (by decide) (by decide)]; exact h1.2.2.2.2.1
      · rw [x3]; omega
theorem q_slot {σ σ1 σ2 : Sg} {s k q r1 r2 : Int} (h : Rel σ) (p : r1 = (if ¬ (0 ≤ s ∧ s < σ 1 3) ∨ k < -1 ∨ ¬ (0 ≤ q ∧ q ≤ 1) then -1 else if k = -1 then σ 2 s else if k < σ 2 s then (if q = 0 then σ 3 (s * 4 + k) else σ 4 (s * 4 + k)) else -4) ∧ σ1 = σ) (p2 : r2 = (if ¬ (0 ≤ s ∧ s < σ1 114 0) ∨ k < -1 ∨ ¬ (0 ≤ q ∧ q ≤ 1) then -1 else if k = -1 then σ1 114 (4 + 9 * s) else if k < σ1 114 (4 + 9 * s) then σ1 114 (4 + 9 * s + 1 + 4 * q + k) else -4) ∧ σ2 = σ1) : r1 = r2 ∧ Rel σ2 := by
  obtain ⟨p, e1⟩ := p
  obtain ⟨p2, e2⟩ := p2
  rw [e2, e1]; rw [e1] at p2
  refine ⟨?_, h⟩
  obtain ⟨a, b⟩ := h.1.1.1
  have a : σ 114 0 = σ 1 3 := a
  rw [p, p2, a]
  by_cases z : ¬ (0 ≤ s ∧ s < σ 1 3) ∨ k < -1 ∨ ¬ (0 ≤ q ∧ q ≤ 1)
  · rw [if_pos z, if_pos z]
  · rw [if_neg z, if_neg z]
    have b1 := b s (by omega) (by show s < σ 114 0; omega)
    have b2 : σ 114 (4 + 9 * s) = σ 2 s := b1.1
    rw [b2]
    by_cases y : k = -1
    · rw [if_pos y, if_pos y]
    · rw [if_neg y, if_neg y]
      by_cases x : k < σ 2 s
      · rw [if_pos x, if_pos x]
        have b3 := b1.2 k (by omega) (by show k < σ 114 (4 + 9 * s); omega)
        have b4 : σ 114 (4 + 9 * s + 1 + k) = σ 3 (s * 4 + k) := b3.1
        have b5 : σ 114 (4 + 9 * s + 5 + k) = σ 4 (s * 4 + k) := b3.2
        by_cases w : q = 0
        · rw [if_pos w, ← b4, w]; congr 1; omega
        · rw [if_neg w, ← b5]; congr 1; omega
      · rw [if_neg x, if_neg x]
theorem undS_r {σ : Sg} {c : Nat} {k : Int} (h : 103 ≤ c) : undS σ c k = σ c k := by
  unfold undS fgtS; rw [up_ne (by omega), up_ne (by omega), up_ne (by omega)]; exact keepS_o (by omega) (by omega)
theorem q_check {σ σ1 σ2 : Sg} {v r1 r2 : Int} (h : Rel σ) (p : (r1, σ1) = if ¬ (0 ≤ v ∧ v ≤ 4) then (-1, σ) else if σ 1 4 = v then (-2, σ) else (σ 1 4, up (undS σ) 1 4 v)) (q : (r2, σ2) = if ¬ (0 ≤ v ∧ v ≤ 4) then (-1, σ1) else if σ1 114 1 = v then (-2, σ1) else (σ1 114 1, up (noteS σ1) 114 1 v)) : r1 = r2 ∧ Rel σ2 := by
  by_cases b : ¬ (0 ≤ v ∧ v ≤ 4)
  · rw [if_pos b] at p q; cases p; cases q; exact ⟨rfl, h⟩
  · rw [if_neg b] at p q
    have b := Classical.not_not.mp b
    have h1 := h.1
    have k1 : σ 114 1 = σ 1 4 := h1.1.2.1
    by_cases d : σ 1 4 = v
    · rw [if_pos d] at p; cases p
      rw [if_pos (by omega)] at q; cases q; exact ⟨rfl, h⟩
    · rw [if_neg d] at p; cases p
      have x1 : ∀ k : Int, up (undS σ) 1 4 v 114 k = σ 114 k := fun k => by rw [up_ne (by decide), undS_r (by decide)]
      rw [x1, if_neg (by omega)] at q; cases q
      have y1 : ∀ k : Int, k ≠ 1 → up (noteS (up (undS σ) 1 4 v)) 114 1 v 114 k = σ 114 k := fun k hk => by rw [up_nk hk, noteS_ne (by omega), x1]
      have y2 : ∀ (c : Nat) (k : Int), 1 ≤ c → c ≤ 4 → (c ≠ 1 ∨ k ≠ 4) → up (noteS (up (undS σ) 1 4 v)) 114 1 v c k = σ c k := fun c k c0 c1 hk => by
        rw [up_ne (by omega), noteS_ne (by omega)]
        rcases hk with hk | hk
        · rw [up_ne hk, undS_1 (by omega)]
        · rw [up_nk hk, undS_1 (by omega)]
      have y3 : up (noteS (up (undS σ) 1 4 v)) 114 1 v 1 4 = v := by rw [up_ne (by decide), noteS_ne (by decide), up_eq]
      refine ⟨k1.symm, Rel_und h (σ1 := up (undS σ) 1 4 v) (fun c k hc => up_ne (by omega)) (fun c k hc => up_ne (by omega)) ⟨?_, ?_⟩⟩
      · refine HR_meta h1.1 h1.2 (y2 _ _ (by decide) (by decide) (by decide)) (fun c k c0 c1 => y2 c k (by omega) (by omega) (by omega)) (y1 _ (by decide)) (fun k k0 k1 => y1 _ (by omega)) ?_ ?_ ?_
        · rw [y3, up_eq]
        · rw [y1 _ (by decide), y2 _ _ (by decide) (by decide) (by decide)]; exact h1.1.2.2.1
        · rw [y1 _ (by decide), y2 _ _ (by decide) (by decide) (by decide)]; exact h1.1.2.2.2
      · refine HW_meta h1.2 (y1 _ (by decide)) (fun k k0 k1 => y1 _ (by omega)) ?_ ?_ ?_
        · rw [up_eq]; exact b
        · rw [y1 _ (by decide)]; exact h1.2.2.2.2.1
        · rw [y1 _ (by decide)]; exact h1.2.2.2.2.2
theorem q_slack {σ σ1 σ2 : Sg} {v r1 r2 : Int} (h : Rel σ) (p : (r1, σ1) = if ¬ (0 ≤ v ∧ v ≤ 20) then (-1, σ) else if σ 1 5 = v then (-2, σ) else (σ 1 5, up (undS σ) 1 5 v)) (q : (r2, σ2) = if ¬ (0 ≤ v ∧ v ≤ 20) then (-1, σ1) else if σ1 114 2 = v then (-2, σ1) else (σ1 114 2, up (noteS σ1) 114 2 v)) : r1 = r2 ∧ Rel σ2 := by
  by_cases b : ¬ (0 ≤ v ∧ v ≤ 20)
  · rw [if_pos b] at p q; cases p; cases q; exact ⟨rfl, h⟩
  · rw [if_neg b] at p q
    have b := Classical.not_not.mp b
    have h1 := h.1
    have k1 : σ 114 2 = σ 1 5 := h1.1.2.2.1
    by_cases d : σ 1 5 = v
    · rw [if_pos d] at p; cases p
      rw [if_pos (by omega)] at q; cases q; exact ⟨rfl, h⟩
    · rw [if_neg d] at p; cases p
      have x1 : ∀ k : Int, up (undS σ) 1 5 v 114 k = σ 114 k := fun k => by rw [up_ne (by decide), undS_r (by decide)]
      rw [x1, if_neg (by omega)] at q; cases q
      have y1 : ∀ k : Int, k ≠ 2 → up (noteS (up (undS σ) 1 5 v)) 114 2 v 114 k = σ 114 k := fun k hk => by rw [up_nk hk, noteS_ne (by omega), x1]
      have y2 : ∀ (c : Nat) (k : Int), 1 ≤ c → c ≤ 4 → (c ≠ 1 ∨ k ≠ 5) → up (noteS (up (undS σ) 1 5 v)) 114 2 v c k = σ c k := fun c k c0 c1 hk => by
        rw [up_ne (by omega), noteS_ne (by omega)]
        rcases hk with hk | hk
        · rw [up_ne hk, undS_1 (by omega)]
        · rw [up_nk hk, undS_1 (by omega)]
      have y3 : up (noteS (up (undS σ) 1 5 v)) 114 2 v 1 5 = v := by rw [up_ne (by decide), noteS_ne (by decide), up_eq]
      refine ⟨k1.symm, Rel_und h (σ1 := up (undS σ) 1 5 v) (fun c k hc => up_ne (by omega)) (fun c k hc => up_ne (by omega)) ⟨?_, ?_⟩⟩
      · refine HR_meta h1.1 h1.2 (y2 _ _ (by decide) (by decide) (by decide)) (fun c k c0 c1 => y2 c k (by omega) (by omega) (by omega)) (y1 _ (by decide)) (fun k k0 k1 => y1 _ (by omega)) ?_ ?_ ?_
        · rw [y1 _ (by decide), y2 _ _ (by decide) (by decide) (by decide)]; exact h1.1.2.1
        · rw [y3, up_eq]
        · rw [y1 _ (by decide), y2 _ _ (by decide) (by decide) (by decide)]; exact h1.1.2.2.2
      · refine HW_meta h1.2 (y1 _ (by decide)) (fun k k0 k1 => y1 _ (by omega)) ?_ ?_ ?_
        · rw [y1 _ (by decide)]; exact h1.2.2.2.1
        · rw [up_eq]; exact b
        · rw [y1 _ (by decide)]; exact h1.2.2.2.2.2
