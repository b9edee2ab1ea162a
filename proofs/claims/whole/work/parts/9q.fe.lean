/-- a slot that both halves hold alike -/
def sOK (τ : Sg) (i : Int) : Prop := τ 114 (4 + 9 * i) = τ 2 i ∧ (1 ≤ τ 2 i ∧ τ 2 i ≤ 4) ∧ (∀ k : Int, 0 ≤ k → k < τ 2 i → τ 114 (4 + 9 * i + 1 + k) = τ 3 (i * 4 + k) ∧ τ 114 (4 + 9 * i + 5 + k) = τ 4 (i * 4 + k) ∧ (0 ≤ τ 3 (i * 4 + k) ∧ τ 3 (i * 4 + k) ≤ 31) ∧ (0 ≤ τ 4 (i * 4 + k) ∧ τ 4 (i * 4 + k) ≤ 9)) ∧ ∀ k l : Int, 0 ≤ k → k < τ 2 i → 0 ≤ l → l < τ 2 i → τ 3 (i * 4 + k) = τ 3 (i * 4 + l) → k = l
theorem R1_sOK {σ : Sg} (h : R1 σ) : (σ 114 0 = σ 1 3 ∧ 0 ≤ σ 1 3 ∧ σ 1 3 ≤ 8) ∧ ∀ i : Int, 0 ≤ i → i < σ 1 3 → sOK σ i := by
  obtain ⟨⟨⟨a, b⟩, _⟩, ⟨w1, w2, w3⟩, dv, _⟩ := h
  have a : σ 114 0 = σ 1 3 := a
  have w1 : 0 ≤ σ 114 0 := w1
  have w2 : σ 114 0 ≤ 8 := w2
  refine ⟨⟨a, by omega, by omega⟩, fun i i0 i1 => ?_⟩
  have i2 : i < (mv (σ 114)).1 := by show i < σ 114 0; omega
  have x := b i i0 i2
  have y := w3 i i0 i2
  have x1 : σ 114 (4 + 9 * i) = σ 2 i := x.1
  have y1 : 1 ≤ σ 114 (4 + 9 * i) := y.1
  have y2 : σ 114 (4 + 9 * i) ≤ 4 := y.2.1
  refine ⟨x1, by omega, fun k k0 k1 => ?_, fun k l k0 k1 l0 l1 e => ?_⟩
  · have k2 : k < (mv (σ 114)).2.1 i := by show k < σ 114 (4 + 9 * i); omega
    have u := x.2 k k0 k2
    have v := y.2.2 k k0 k2
    have u1 : σ 114 (4 + 9 * i + 1 + k) = σ 3 (i * 4 + k) := u.1
    have u2 : σ 114 (4 + 9 * i + 5 + k) = σ 4 (i * 4 + k) := u.2
    have v1 : 0 ≤ σ 114 (4 + 9 * i + 1 + k) ∧ σ 114 (4 + 9 * i + 1 + k) ≤ 31 ∧ 0 ≤ σ 114 (4 + 9 * i + 5 + k) ∧ σ 114 (4 + 9 * i + 5 + k) ≤ 9 := v
    exact ⟨u1, u2, by omega, by omega⟩
  · have k2 : k < (mv (σ 114)).2.1 i := by show k < σ 114 (4 + 9 * i); omega
    have l2 : l < (mv (σ 114)).2.1 i := by show l < σ 114 (4 + 9 * i); omega
    have u : σ 114 (4 + 9 * i + 1 + k) = σ 3 (i * 4 + k) := (x.2 k k0 k2).1
    have v : σ 114 (4 + 9 * i + 1 + l) = σ 3 (i * 4 + l) := (x.2 l l0 l2).1
    exact dv i i0 i2 k l k0 k2 l0 l2 (by show σ 114 (4 + 9 * i + 1 + k) = σ 114 (4 + 9 * i + 1 + l); rw [u, v, e])
theorem R1_of {σ τ : Sg} (h : R1 σ) (n0 : τ 114 0 = τ 1 3) (n8 : 0 ≤ τ 1 3 ∧ τ 1 3 ≤ 8) (hs : ∀ i : Int, 0 ≤ i → i < τ 1 3 → sOK τ i) (m1 : ∀ k : Int, 4 ≤ k → k ≤ 6 → τ 1 k = σ 1 k) (m2 : ∀ k : Int, 1 ≤ k → k ≤ 3 → τ 114 k = σ 114 k) : R1 τ := by
  refine ⟨⟨⟨n0, fun i i0 i1 => ?_⟩, ?_, ?_, ?_⟩, ⟨?_, ?_, fun i i0 i1 => ?_⟩, fun i i0 i1 k l k0 k1 l0 l1 e => ?_, ?_, ?_, ?_⟩
  · have i1 : i < τ 114 0 := i1
    obtain ⟨a, b, d, e⟩ := hs i i0 (by omega)
    refine ⟨a, fun k k0 k1 => ?_⟩
    have k1 : k < τ 114 (4 + 9 * i) := k1
    exact ⟨(d k k0 (by omega)).1, (d k k0 (by omega)).2.1⟩
  · rw [m2 1 (by decide) (by decide), m1 4 (by decide) (by decide)]; exact h.1.2.1
  · rw [m2 2 (by decide) (by decide), m1 5 (by decide) (by decide)]; exact h.1.2.2.1
  · rw [m2 3 (by decide) (by decide), m1 6 (by decide) (by decide)]; exact h.1.2.2.2
  · show 0 ≤ τ 114 0; omega
  · show τ 114 0 ≤ 8; omega
  · have i1 : i < τ 114 0 := i1
    obtain ⟨a, b, d, e⟩ := hs i i0 (by omega)
    refine ⟨by show 1 ≤ τ 114 (4 + 9 * i); omega, by show τ 114 (4 + 9 * i) ≤ 4; omega, fun k k0 k1 => ?_⟩
    have k1 : k < τ 114 (4 + 9 * i) := k1
    have z := d k k0 (by omega)
    show 0 ≤ τ 114 (4 + 9 * i + 1 + k) ∧ τ 114 (4 + 9 * i + 1 + k) ≤ 31 ∧ 0 ≤ τ 114 (4 + 9 * i + 5 + k) ∧ τ 114 (4 + 9 * i + 5 + k) ≤ 9
    rw [z.1, z.2.1]; exact ⟨z.2.2.1.1, z.2.2.1.2, z.2.2.2.1, z.2.2.2.2⟩
  · have i1 : i < τ 114 0 := i1
    obtain ⟨a, b, d, f⟩ := hs i i0 (by omega)
    have k1 : k < τ 114 (4 + 9 * i) := k1
    have l1 : l < τ 114 (4 + 9 * i) := l1
    have e : τ 114 (4 + 9 * i + 1 + k) = τ 114 (4 + 9 * i + 1 + l) := e
    rw [(d k k0 (by omega)).1, (d l l0 (by omega)).1] at e
    exact f k l k0 (by omega) l0 (by omega) e
  · rw [m2 1 (by decide) (by decide)]; exact h.2.2.2.1
  · rw [m2 2 (by decide) (by decide)]; exact h.2.2.2.2.1
  · rw [m2 3 (by decide) (by decide)]; exact h.2.2.2.2.2
theorem sOK_keep {σ τ : Sg} {i j : Int} (h : sOK σ i) (e0 : ∀ k : Int, 0 ≤ k → k < 9 → τ 114 (4 + 9 * j + k) = σ 114 (4 + 9 * i + k)) (c0 : τ 2 j = σ 2 i) (c1 : ∀ k : Int, 0 ≤ k → k < 4 → τ 3 (j * 4 + k) = σ 3 (i * 4 + k) ∧ τ 4 (j * 4 + k) = σ 4 (i * 4 + k)) : sOK τ j := by
  obtain ⟨a, b, d, f⟩ := h
  have z0 : τ 114 (4 + 9 * j) = σ 114 (4 + 9 * i) := by have := e0 0 (by decide) (by decide); rwa [Int.add_zero, Int.add_zero] at this
  refine ⟨by rw [z0, c0]; exact a, by rw [c0]; exact b, fun k k0 k1 => ?_, fun k l k0 k1 l0 l1 e => ?_⟩
  · rw [c0] at k1
    have x := d k k0 k1
    have c := c1 k k0 (by omega)
    have y1 := e0 (1 + k) (by omega) (by omega)
    have y2 := e0 (5 + k) (by omega) (by omega)
    rw [← Int.add_assoc, ← Int.add_assoc] at y1 y2
    rw [y1, y2, c.1, c.2]; exact x
  · rw [c0] at k1 l1
    rw [(c1 k k0 (by omega)).1, (c1 l l0 (by omega)).1] at e
    exact f k l k0 k1 l0 l1 e
