theorem HR_tkA {σ : Sg} {a b t : Nat} {N : Int → Int} (hap : a + 32 ≤ b ∨ b + 32 ≤ a) (h : HR σ (b + 4 * t) N) (w : HW N) (m : Nat) : t < m → m ≤ 8 → HR (tkA σ a b m) (a + 4 * t) N := by
  induction m with
  | zero => intro x; exact absurd x (by omega)
  | succ m ih =>
    intro x y
    unfold tkA
    by_cases z : t = m
    · rw [← z]
      exact HR_tk (by omega) (HR_keep h (fun c k c0 c1 => tkA_ne _ (by omega))) w
    · exact HR_keep (ih (by omega) (by omega)) (fun c k c0 c1 => tkS_ne (by omega))
theorem PR_past {σ τ : Sg} {p q : Nat} {A B : Int → Int} {U : Int} (hap : p + 34 ≤ q ∨ q + 34 ≤ p) (h : PR σ q A U) (e : ∀ (c : Nat) (k : Int), (c = p ∨ (p + 2 ≤ c ∧ c ≤ p + 33)) → τ c k = pastS σ p q c k) (eB : ∀ k : Int, 0 ≤ k → k < 608 → B k = A k) : PR τ p B U := by
  obtain ⟨f0, m0, mU, hj⟩ := h
  have s1 : τ p 1 = σ q 1 := by rw [e _ _ (Or.inl rfl)]; unfold pastS; rw [up_nk (by decide), up_eq]
  have s2 : τ p 2 = σ q 2 := by rw [e _ _ (Or.inl rfl)]; unfold pastS; rw [up_eq]
  refine ⟨by rw [s1]; exact f0, by rw [s2]; exact m0, by rw [s2]; exact mU, fun j j0 j1 => ?_⟩
  rw [s1]
  have x := hj j j0 j1
  have y := HR_tkA (a := p + 2) (b := q + 2) (t := ((σ q 1 + j) % 8).toNat) (by omega) x.1 x.2 8 (by omega) (by decide)
  refine HR_row (HR_keep y (fun c k c0 c1 => ?_)) x.2 (fun k k0 k1 => eB _ (by omega) (by omega))
  rw [e c k (by omega)]; unfold pastS; rw [up_ne (by omega), up_ne (by omega)]
theorem pastS_ne {σ : Sg} {p q c : Nat} {k : Int} (h : c ≠ p ∧ (c < p + 2 ∨ p + 34 ≤ c)) : pastS σ p q c k = σ c k := by
  unfold pastS; rw [up_ne h.1, up_ne h.1, tkA_ne _ (by omega)]
theorem q_image {σ σ1 σ2 : Sg} {r1 r2 : Int} (h : Rel σ) (p : r1 = 1 ∧ σ1 = imgS σ) (q : r2 = 1 ∧ σ2 = up (fl (fl σ1 128 0 76 (fun k => σ1 114 k)) 129 0 608 (fun k => σ1 127 k)) 113 32 (σ1 113 29)) : r1 = r2 ∧ Rel σ2 := by
  obtain ⟨e, f⟩ := p
  obtain ⟨e2, f2⟩ := q
  obtain ⟨g1, g2, g3, g4, g5, g6⟩ := h
  have x : ∀ (c : Nat) (k : Int), ((c = 0 ∧ k ≠ 8) ∨ (1 ≤ c ∧ c < 9) ∨ (13 ≤ c ∧ c < 47) ∨ 81 ≤ c) → σ1 c k = σ c k := fun c k hc => by
    rw [f]; unfold imgS
    by_cases z : c = 0
    · rw [up_nk (by omega), pastS_ne (by omega), tkS_ne (by omega)]
    · rw [up_ne z, pastS_ne (by omega), tkS_ne (by omega)]
  have x08 : σ1 0 8 = 1 := by rw [f]; unfold imgS; rw [up_eq]
  have x9 : ∀ (c : Nat) (k : Int), 9 ≤ c → c < 13 → σ1 c k = tkS σ 9 1 c k := fun c k c0 c1 => by rw [f]; unfold imgS; rw [up_ne (by omega), pastS_ne (by omega)]
  have x47 : ∀ (c : Nat) (k : Int), 47 ≤ c → σ1 c k = pastS (tkS σ 9 1) 47 13 c k := fun c k c0 => by rw [f]; unfold imgS; rw [up_ne (by omega)]
  have y0 : ∀ (c : Nat) (k : Int), c ≠ 128 → c ≠ 129 → (c ≠ 113 ∨ k ≠ 32) → σ2 c k = σ1 c k := fun c k a1 a2 a3 => by
    rw [f2]
    rcases a3 with a3 | a3
    · rw [up_ne a3, fl_ne a2, fl_ne a1]
    · rw [up_nk a3, fl_ne a2, fl_ne a1]
  have y32 : σ2 113 32 = σ 113 29 := by rw [f2, up_eq, x _ _ (by omega)]
  have y128 : ∀ k : Int, 0 ≤ k → k < 76 → σ2 128 k = σ 114 k := fun k k0 k1 => by rw [f2, up_ne (by decide), fl_ne (by decide), fl_in (by omega), x _ _ (by omega)]
  have y129 : ∀ k : Int, 0 ≤ k → k < 608 → σ2 129 k = σ 127 k := fun k k0 k1 => by rw [f2, up_ne (by decide), fl_in (by omega), x _ _ (by omega)]
  have fr : ∀ (c : Nat) (k : Int), ((1 ≤ c ∧ c < 9) ∨ (13 ≤ c ∧ c < 47) ∨ 81 ≤ c) → c ≠ 128 → c ≠ 129 → (c ≠ 113 ∨ k ≠ 32) → σ2 c k = σ c k := fun c k a0 a1 a2 a3 => by
    rw [y0 c k a1 a2 a3, x c k (by omega)]
  refine ⟨by omega, R1_keep g1 (fun c k hc => fr c k (by omega) (by omega) (by omega) (by omega)), R2_keep g2 (fun c k hc => fr c k (by omega) (by omega) (by omega) (by omega)) (fr _ _ (by omega) (by omega) (by omega) (by omega)), Or.inr ⟨?_, ?_, ?_⟩, R4_keep g4 (fun c k hc => fr c k (by omega) (by omega) (by omega) (by omega)) (fr _ _ (by omega) (by omega) (by omega) (by omega)) (fr _ _ (by omega) (by omega) (by omega) (by omega)), R5_keep g5 (fun c k hc => fr c k (by omega) (by omega) (by omega) (by omega)), SI_see g6 (fr _ _ (by omega) (by omega) (by omega) (by omega)) (fr _ _ (by omega) (by omega) (by omega) (by omega)) (fr _ _ (by omega) (by omega) (by omega) (by omega)) (fun c k hc => fr c k (by omega) (by omega) (by omega) (by omega))⟩
  · rw [y0 _ _ (by decide) (by decide) (by decide), x08]; decide
  · have a := g2.2.1; have b := g2.2.2.1; rw [y32]; omega
  · have a := HR_tk (o := 9) (q := 1) (Or.inl (by decide)) g1.1 g1.2
    have b := HR_row (HR_keep a (fun c k c0 c1 => (y0 c k (by omega) (by omega) (by omega)).trans (x9 c k c0 (by omega)))) g1.2 y128
    refine ⟨b.1, b.2, ?_⟩
    rw [y32]
    refine PR_past (σ := tkS σ 9 1) (q := 13) (A := σ 127) (Or.inr (by decide)) (PR_keep g2 (fun c k hc => tkS_ne (by omega))) (fun c k hc => ?_) y129
    rw [y0 c k (by omega) (by omega) (by omega), x47 c k (by omega)]
theorem q_restore {σ σ1 σ2 : Sg} {r1 r2 : Int} (h : Rel σ) (p : (r1, σ1) = if σ 0 8 = 0 then (-4, σ) else (1, rstS σ)) (q : (r2, σ2) = if σ1 113 32 < 0 then (-4, σ1) else (1, up (fl (fl σ1 114 0 76 (fun k => σ1 128 k)) 127 0 608 (fun k => σ1 129 k)) 113 29 (σ1 113 32))) : r1 = r2 ∧ Rel σ2 := by
  obtain ⟨g1, g2, g3, g4, g5, g6⟩ := h
  rcases g3 with ⟨a, b⟩ | ⟨a, b, d, w, pr⟩
  · rw [if_pos a] at p; cases p
    rw [if_pos b] at q; cases q; exact ⟨rfl, g1, g2, Or.inl ⟨a, b⟩, g4, g5, g6⟩
  · rw [if_neg a] at p
    obtain ⟨e, f⟩ := Prod.mk.inj p
    have x : ∀ (c : Nat) (k : Int), (c = 0 ∨ (5 ≤ c ∧ c < 13) ∨ 47 ≤ c) → c ≠ 83 → c ≠ 97 → σ1 c k = σ c k := fun c k hc h83 h97 => by
      rw [f]; unfold rstS fgtS
      rw [up_ne h83, up_ne h97, up_ne h83, pastS_ne (by omega), tkS_ne (by omega)]
    have x1 : ∀ (c : Nat) (k : Int), 1 ≤ c → c < 5 → σ1 c k = tkS σ 1 9 c k := fun c k c0 c1 => by
      rw [f]; unfold rstS fgtS; rw [up_ne (by omega), up_ne (by omega), up_ne (by omega), pastS_ne (by omega)]
    have x13 : ∀ (c : Nat) (k : Int), 13 ≤ c → c < 47 → σ1 c k = pastS (tkS σ 1 9) 13 47 c k := fun c k c0 c1 => by
      rw [f]; unfold rstS fgtS; rw [up_ne (by omega), up_ne (by omega), up_ne (by omega)]
    rw [x 113 32 (by omega) (by decide) (by decide), if_neg (by omega)] at q
    obtain ⟨e2, f2⟩ := Prod.mk.inj q
    have y0 : ∀ (c : Nat) (k : Int), c ≠ 114 → c ≠ 127 → (c ≠ 113 ∨ k ≠ 29) → σ2 c k = σ1 c k := fun c k a1 a2 a3 => by
      rw [f2]
      rcases a3 with a3 | a3
      · rw [up_ne a3, fl_ne a2, fl_ne a1]
      · rw [up_nk a3, fl_ne a2, fl_ne a1]
    have y29 : σ2 113 29 = σ 113 32 := by rw [f2, up_eq]
    have y114 : ∀ k : Int, 0 ≤ k → k < 76 → σ2 114 k = σ 128 k := fun k k0 k1 => by rw [f2, up_ne (by decide), fl_ne (by decide), fl_in (by omega), x _ _ (by omega) (by decide) (by decide)]
    have y127 : ∀ k : Int, 0 ≤ k → k < 608 → σ2 127 k = σ 129 k := fun k k0 k1 => by rw [f2, up_ne (by decide), fl_in (by omega), x _ _ (by omega) (by decide) (by decide)]
    have fr : ∀ (c : Nat) (k : Int), (c = 0 ∨ (5 ≤ c ∧ c < 13) ∨ 47 ≤ c) → c ≠ 83 → c ≠ 97 → c ≠ 114 → c ≠ 127 → (c ≠ 113 ∨ k ≠ 29) → σ2 c k = σ c k := fun c k a0 h83 h97 a1 a2 a3 => by
      rw [y0 c k a1 a2 a3, x c k a0 h83 h97]
    refine ⟨by omega, ?_, ?_, R3_keep (Or.inr ⟨a, b, d, w, pr⟩) (fun c k hc => fr c k (by omega) (by omega) (by omega) (by omega) (by omega) (by omega)) (fr _ _ (by omega) (by omega) (by omega) (by omega) (by omega) (by omega)) (fr _ _ (by omega) (by omega) (by omega) (by omega) (by omega) (by omega)), R4_keep g4 (fun c k hc => fr c k (by omega) (by omega) (by omega) (by omega) (by omega) (by omega)) (fr _ _ (by omega) (by omega) (by omega) (by omega) (by omega) (by omega)) (fr _ _ (by omega) (by omega) (by omega) (by omega) (by omega) (by omega)), R5_keep g5 (fun c k hc => fr c k (by omega) (by omega) (by omega) (by omega) (by omega) (by omega)), SI_fgt (fun k k0 k1 => ?_) ?_ ?_ ?_⟩
    · have z := HR_tk (o := 1) (q := 9) (Or.inr (by decide)) d w
      exact HR_row (HR_keep z (fun c k c0 c1 => (y0 c k (by omega) (by omega) (by omega)).trans (x1 c k c0 (by omega)))) w y114
    · unfold R2
      rw [y29]
      refine PR_past (σ := tkS σ 1 9) (q := 47) (A := σ 129) (Or.inl (by decide)) (PR_keep pr (fun c k hc => tkS_ne (by omega))) (fun c k hc => ?_) y127
      rw [y0 c k (by omega) (by omega) (by omega), x13 c k (by omega) (by omega)]
    · rw [fr 100 k (by omega) (by omega) (by omega) (by omega) (by omega) (by omega)]; exact g6.2.2.2 k k0 k1
    · rw [y0 _ _ (by decide) (by decide) (by decide), f]; unfold rstS fgtS; rw [up_nk (by decide), up_ne (by decide), up_eq]
    · rw [y0 _ _ (by decide) (by decide) (by decide), f]; unfold rstS fgtS; rw [up_ne (by decide), up_eq]
    · rw [y0 _ _ (by decide) (by decide) (by decide), f]; unfold rstS fgtS; rw [up_eq]
