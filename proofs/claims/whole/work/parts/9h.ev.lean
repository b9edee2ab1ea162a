/-! ===== both halves of the world tell the same ===== -/
/-- a heard thing of the class and a row of the reference -/
def HR (σ : Sg) (o : Nat) (N : Int → Int) : Prop := EqV (mv N) (cv σ o) ∧ N 1 = σ o 4 ∧ N 2 = σ o 5 ∧ N 3 = σ o 6
def HW (N : Int → Int) : Prop := WV (mv N) ∧ DV (mv N) ∧ (0 ≤ N 1 ∧ N 1 ≤ 4) ∧ (0 ≤ N 2 ∧ N 2 ≤ 20) ∧ (0 ≤ N 3 ∧ N 3 ≤ 2147483647)
/-- what may be undone: the ring of p, the rows A, U of them -/
def PR (σ : Sg) (p : Nat) (A : Int → Int) (U : Int) : Prop := (0 ≤ σ p 1 ∧ σ p 1 ≤ 7) ∧ (0 ≤ σ p 2 ∧ σ p 2 ≤ 8) ∧ σ p 2 = U ∧ ∀ j : Int, 0 ≤ j → j < U → HR σ (p + 2 + 4 * ((σ p 1 + j) % 8).toNat) (fun k => A (76 * j + k)) ∧ HW (fun k => A (76 * j + k))
def R1 (σ : Sg) : Prop := HR σ 1 (σ 114) ∧ HW (σ 114)
def R2 (σ : Sg) : Prop := PR σ 13 (σ 127) (σ 113 29)
def R3 (σ : Sg) : Prop := (σ 0 8 = 0 ∧ σ 113 32 < 0) ∨ (σ 0 8 ≠ 0 ∧ 0 ≤ σ 113 32 ∧ HR σ 9 (σ 128) ∧ HW (σ 128) ∧ PR σ 47 (σ 129) (σ 113 32))
def R4 (σ : Sg) : Prop := σ 81 1 = σ 113 23 ∧ TW (σ 124) (σ 113 23) ∧ ∀ i : Int, i < σ 113 23 → σ 82 i = σ 124 i
def R5 (σ : Sg) : Prop := ∀ s : Int, 0 ≤ s → s ≤ 3 → (-1 ≤ σ 130 s ∧ σ 130 s ≤ 3) ∧ (0 ≤ σ 131 s ∧ σ 131 s ≤ 24) ∧ (0 ≤ σ (105 + 2 * s.toNat) 2 ∧ σ (105 + 2 * s.toNat) 2 ≤ 24) ∧ σ (105 + 2 * s.toNat) 1 = σ 130 s ∧ (0 ≤ σ 130 s → σ (105 + 2 * s.toNat) 2 = σ 131 s ∧ ∀ i : Int, 0 ≤ i → i < 24 → σ (105 + 2 * s.toNat + 1) i = σ 132 (24 * s + i))
def Rel (σ : Sg) : Prop := R1 σ ∧ R2 σ ∧ R3 σ ∧ R4 σ ∧ R5 σ ∧ SI σ
theorem cv_of {σ τ : Sg} {o : Nat} (h : ∀ (c : Nat) (k : Int), o ≤ c → c ≤ o + 3 → τ c k = σ c k) : cv τ o = cv σ o := by
  unfold cv
  rw [h o 3 (by omega) (by omega), show τ (o + 1) = σ (o + 1) from funext fun k => h _ k (by omega) (by omega), show τ (o + 2) = σ (o + 2) from funext fun k => h _ k (by omega) (by omega), show τ (o + 3) = σ (o + 3) from funext fun k => h _ k (by omega) (by omega)]
theorem HR_keep {σ τ : Sg} {o : Nat} {N : Int → Int} (h : HR σ o N) (e : ∀ (c : Nat) (k : Int), o ≤ c → c ≤ o + 3 → τ c k = σ c k) : HR τ o N := by
  obtain ⟨a, b, d, f⟩ := h
  refine ⟨by rw [cv_of e]; exact a, by rw [e o 4 (by omega) (by omega)]; exact b, by rw [e o 5 (by omega) (by omega)]; exact d, by rw [e o 6 (by omega) (by omega)]; exact f⟩
theorem PR_keep {σ τ : Sg} {p : Nat} {A : Int → Int} {U : Int} (h : PR σ p A U) (e : ∀ (c : Nat) (k : Int), (c = p ∨ (p + 2 ≤ c ∧ c ≤ p + 33)) → τ c k = σ c k) : PR τ p A U := by
  obtain ⟨a, b, d, f⟩ := h
  have e1 : τ p 1 = σ p 1 := e p 1 (Or.inl rfl)
  have e2 : τ p 2 = σ p 2 := e p 2 (Or.inl rfl)
  refine ⟨by rw [e1]; exact a, by rw [e2]; exact b, by rw [e2]; exact d, fun j j0 j1 => ⟨?_, (f j j0 j1).2⟩⟩
  rw [e1]; exact HR_keep (f j j0 j1).1 (fun c k c0 c1 => e c k (by omega))
theorem R1_keep {σ τ : Sg} (h : R1 σ) (e : ∀ (c : Nat) (k : Int), ((1 ≤ c ∧ c ≤ 4) ∨ c = 114) → τ c k = σ c k) : R1 τ := by
  have e114 : τ 114 = σ 114 := funext fun k => e 114 k (Or.inr rfl)
  unfold R1; rw [e114]; exact ⟨HR_keep h.1 (fun c k c0 c1 => e c k (by omega)), h.2⟩
theorem R2_keep {σ τ : Sg} (h : R2 σ) (e : ∀ (c : Nat) (k : Int), (c = 13 ∨ (15 ≤ c ∧ c ≤ 46) ∨ c = 127) → τ c k = σ c k) (e2 : τ 113 29 = σ 113 29) : R2 τ := by
  have e127 : τ 127 = σ 127 := funext fun k => e 127 k (by omega)
  unfold R2; rw [e127, e2]; exact PR_keep h (fun c k hc => e c k (by omega))
theorem R3_keep {σ τ : Sg} (h : R3 σ) (e : ∀ (c : Nat) (k : Int), ((9 ≤ c ∧ c ≤ 12) ∨ c = 47 ∨ (49 ≤ c ∧ c ≤ 80) ∨ c = 128 ∨ c = 129) → τ c k = σ c k) (e1 : τ 0 8 = σ 0 8) (e2 : τ 113 32 = σ 113 32) : R3 τ := by
  have e128 : τ 128 = σ 128 := funext fun k => e 128 k (by omega)
  have e129 : τ 129 = σ 129 := funext fun k => e 129 k (by omega)
  unfold R3; rw [e128, e129, e1, e2]
  rcases h with z | ⟨a, b, d, f, g⟩
  · exact Or.inl z
  · exact Or.inr ⟨a, b, HR_keep d (fun c k c0 c1 => e c k (by omega)), f, PR_keep g (fun c k hc => e c k (by omega))⟩
theorem R4_keep {σ τ : Sg} (h : R4 σ) (e : ∀ (c : Nat) (k : Int), (c = 82 ∨ c = 124) → τ c k = σ c k) (e1 : τ 81 1 = σ 81 1) (e2 : τ 113 23 = σ 113 23) : R4 τ := by
  have e124 : τ 124 = σ 124 := funext fun k => e 124 k (by omega)
  have e82 : τ 82 = σ 82 := funext fun k => e 82 k (by omega)
  unfold R4; rw [e124, e82, e1, e2]; exact h
theorem R5_keep {σ τ : Sg} (h : R5 σ) (e : ∀ (c : Nat) (k : Int), ((105 ≤ c ∧ c ≤ 112) ∨ (130 ≤ c ∧ c ≤ 132)) → τ c k = σ c k) : R5 τ := by
  intro s s0 s1
  obtain ⟨a, b, d, f, g⟩ := h s s0 s1
  rw [e 130 s (by omega), e 131 s (by omega), e _ 2 (by omega), e _ 1 (by omega)]
  refine ⟨a, b, d, f, fun z => ⟨(g z).1, fun i i0 i1 => ?_⟩⟩
  rw [e _ i (by omega), e 132 _ (by omega)]; exact (g z).2 i i0 i1
/-- what a call that only looks leaves: the class's cells 83 .. 103, the reference's work cells -/
def lkQ (σ τ : Sg) : Prop := ∀ (c : Nat) (k : Int), (c < 83 ∨ (103 < c ∧ c < 113) ∨ c = 114 ∨ c = 124 ∨ (127 ≤ c ∧ c ≤ 132) ∨ (c = 113 ∧ (k = 23 ∨ k = 29 ∨ k = 32))) → τ c k = σ c k
theorem Rel_look {σ τ : Sg} (h : Rel σ) (e : lkQ σ τ) (hS : SI τ) : Rel τ := by
  obtain ⟨h1, h2, h3, h4, h5, _⟩ := h
  exact ⟨R1_keep h1 (fun c k hc => e c k (by omega)), R2_keep h2 (fun c k hc => e c k (by omega)) (e _ _ (by omega)), R3_keep h3 (fun c k hc => e c k (by omega)) (e _ _ (by omega)) (e _ _ (by omega)), R4_keep h4 (fun c k hc => e c k (by omega)) (e _ _ (by omega)) (e _ _ (by omega)), R5_keep h5 (fun c k hc => e c k (by omega)), hS⟩
theorem SI_ref {σ τ : Sg} (h : SI σ) (e : ∀ (c : Nat) (k : Int), c < 113 → τ c k = σ c k) : SI τ := SI_gen h (fun c k hc => e c k (by omega))
/-- the class looks, then the reference -/
theorem Rel_two {σ σ1 σ2 : Sg} {p : Nat → Int → Bool} (h : Rel σ) (hS : SI σ1) (hF : Fm fSv σ σ1) (hG : Fm p σ1 σ2) (hp : ∀ (c : Nat) (k : Int), (c < 113 ∨ c = 114 ∨ c = 124 ∨ (127 ≤ c ∧ c ≤ 132) ∨ (c = 113 ∧ (k = 23 ∨ k = 29 ∨ k = 32))) → p c k = false) : Rel σ2 := by
  refine Rel_look h (fun c k hc => ?_) (SI_ref hS (fun c k hc => hG c k (hp c k (by omega))))
  rw [hG c k (hp c k (by omega))]; exact hF c k (fSv_o (by omega))
theorem fFd_p : ∀ (c : Nat) (k : Int), (c < 113 ∨ c = 114 ∨ c = 124 ∨ (127 ≤ c ∧ c ≤ 132) ∨ (c = 113 ∧ (k = 23 ∨ k = 29 ∨ k = 32))) → fFd c k = false := by
  intro c k h; unfold fFd; simp; omega
theorem fCt_p : ∀ (c : Nat) (k : Int), (c < 113 ∨ c = 114 ∨ c = 124 ∨ (127 ≤ c ∧ c ≤ 132) ∨ (c = 113 ∧ (k = 23 ∨ k = 29 ∨ k = 32))) → fCt c k = false := by
  intro c k h; unfold fCt; simp; omega
theorem fTk_p : ∀ (c : Nat) (k : Int), (c < 113 ∨ c = 114 ∨ c = 124 ∨ (127 ≤ c ∧ c ≤ 132) ∨ (c = 113 ∧ (k = 23 ∨ k = 29 ∨ k = 32))) → fTk c k = false := by
  intro c k h; unfold fTk; simp; omega
theorem fQc_p : ∀ (c : Nat) (k : Int), (c < 113 ∨ c = 114 ∨ c = 124 ∨ (127 ≤ c ∧ c ≤ 132) ∨ (c = 113 ∧ (k = 23 ∨ k = 29 ∨ k = 32))) → fQc c k = false := by
  intro c k h; unfold fQc; rw [fCt_p c k h]; unfold fQ fTS; simp; omega
/-- the class's view and the reference's -/
theorem Rel_V {σ : Sg} (h : Rel σ) : EqV (mv (σ 114)) (cv σ 1) ∧ WV (mv (σ 114)) ∧ DV (mv (σ 114)) ∧ WV (cv σ 1) ∧ σ 114 1 = σ 1 4 ∧ σ 114 2 = σ 1 5 ∧ (0 ≤ σ 1 5 ∧ σ 1 5 ≤ 20) := by
  obtain ⟨⟨⟨a, b, d, _⟩, w, dv, _, k2, _⟩, _⟩ := h
  exact ⟨a, w, dv, a.WV w, b, d, by omega⟩
theorem EqV.DV {V W : Hv} (e : EqV V W) (hD : DV V) : DV W := by
  intro i i0 i1 k l k0 k1 l0 l1 h
  rw [← e.1] at i1
  have a := e.2 i i0 i1
  rw [← a.1] at k1 l1
  rw [← (a.2 k k0 k1).1, ← (a.2 l l0 l1).1] at h
  exact hD i i0 i1 k l k0 k1 l0 l1 h
