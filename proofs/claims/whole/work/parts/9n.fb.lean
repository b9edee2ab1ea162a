theorem EqV.tr {U V W : Hv} (a : EqV U V) (b : EqV V W) : EqV U W := by
  refine ⟨a.1.trans b.1, fun i i0 i1 => ?_⟩
  have x := a.2 i i0 i1
  have y := b.2 i i0 (by rw [← a.1]; exact i1)
  refine ⟨x.1.trans y.1, fun k k0 k1 => ?_⟩
  have z := x.2 k k0 k1
  have u := y.2 k k0 (by rw [← x.1]; exact k1)
  exact ⟨z.1.trans u.1, z.2.trans u.2⟩
theorem mv_row {M N : Int → Int} (n0 : M 0 = N 0) (n4 : ∀ k : Int, 4 ≤ k → k < 76 → M k = N k) (w : WV (mv N)) : EqV (mv N) (mv M) := by
  obtain ⟨w1, w2, w3⟩ := w
  refine ⟨n0.symm, fun i i0 i1 => ?_⟩
  have a := w3 i i0 i1
  have w2 : N 0 ≤ 8 := w2
  have i1 : i < N 0 := i1
  have a2 : N (4 + 9 * i) ≤ 4 := a.2.1
  refine ⟨(n4 _ (by omega) (by omega)).symm, fun k k0 k1 => ?_⟩
  have k1 : k < N (4 + 9 * i) := k1
  exact ⟨(n4 _ (by omega) (by omega)).symm, (n4 _ (by omega) (by omega)).symm⟩
theorem HR_meta {σ τ : Sg} {o : Nat} {N M : Int → Int} (h : HR σ o N) (w : HW N) (e3 : τ o 3 = σ o 3) (e : ∀ (c : Nat) (k : Int), o + 1 ≤ c → c ≤ o + 3 → τ c k = σ c k) (n0 : M 0 = N 0) (n4 : ∀ k : Int, 4 ≤ k → k < 76 → M k = N k) (a : M 1 = τ o 4) (b : M 2 = τ o 5) (d : M 3 = τ o 6) : HR τ o M := by
  refine ⟨EqV.tr (mv_row n0 n4 w.1).sy (EqV.tr h.1 ?_), a, b, d⟩
  have : cv τ o = cv σ o := by
    unfold cv
    rw [e3, show τ (o + 1) = σ (o + 1) from funext fun k => e _ k (by omega) (by omega), show τ (o + 2) = σ (o + 2) from funext fun k => e _ k (by omega) (by omega), show τ (o + 3) = σ (o + 3) from funext fun k => e _ k (by omega) (by omega)]
  rw [this]; exact ⟨rfl, fun i i0 i1 => ⟨rfl, fun k k0 k1 => ⟨rfl, rfl⟩⟩⟩
theorem HW_meta {N M : Int → Int} (w : HW N) (n0 : M 0 = N 0) (n4 : ∀ k : Int, 4 ≤ k → k < 76 → M k = N k) (a : 0 ≤ M 1 ∧ M 1 ≤ 4) (b : 0 ≤ M 2 ∧ M 2 ≤ 20) (d : 0 ≤ M 3 ∧ M 3 ≤ 2147483647) : HW M :=
  ⟨(mv_row n0 n4 w.1).WV w.1, (mv_row n0 n4 w.1).DV w.2.1, a, b, d⟩
theorem HR_row {σ : Sg} {o : Nat} {N M : Int → Int} (h : HR σ o N) (w : HW N) (e : ∀ k : Int, 0 ≤ k → k < 76 → M k = N k) : HR σ o M ∧ HW M :=
  ⟨HR_meta h w rfl (fun _ _ _ _ => rfl) (e 0 (by decide) (by decide)) (fun k k0 k1 => e k (by omega) k1) ((e 1 (by decide) (by decide)).trans h.2.1) ((e 2 (by decide) (by decide)).trans h.2.2.1) ((e 3 (by decide) (by decide)).trans h.2.2.2),
   HW_meta w (e 0 (by decide) (by decide)) (fun k k0 k1 => e k (by omega) k1) (by rw [e 1 (by decide) (by decide)]; exact w.2.2.1) (by rw [e 2 (by decide) (by decide)]; exact w.2.2.2.1) (by rw [e 3 (by decide) (by decide)]; exact w.2.2.2.2)⟩
theorem tkS_1 {σ : Sg} {o q : Nat} {i : Int} (h : 0 ≤ i ∧ i < 8) : tkS σ o q (o + 1) i = σ (q + 1) i := by
  unfold tkS tkSl
  rw [up_ne (by omega), up_ne (by omega), up_ne (by omega), up_ne (by omega), cp_ne (by omega), cp_ne (by omega), cp_in (by omega)]
  congr 1; omega
theorem tkS_2 {σ : Sg} {o q : Nat} {i : Int} (hap : q + 4 ≤ o ∨ o + 4 ≤ q) (h : 0 ≤ i ∧ i < 32) : tkS σ o q (o + 2) i = σ (q + 2) i := by
  unfold tkS tkSl
  rw [up_ne (by omega), up_ne (by omega), up_ne (by omega), up_ne (by omega), cp_ne (by omega), cp_in (by omega), cp_ne (by omega)]
  congr 1; omega
theorem tkS_3 {σ : Sg} {o q : Nat} {i : Int} (hap : q + 4 ≤ o ∨ o + 4 ≤ q) (h : 0 ≤ i ∧ i < 32) : tkS σ o q (o + 3) i = σ (q + 3) i := by
  unfold tkS tkSl
  rw [up_ne (by omega), up_ne (by omega), up_ne (by omega), up_ne (by omega), cp_in (by omega), cp_ne (by omega), cp_ne (by omega)]
  congr 1; omega
theorem HR_tk {σ : Sg} {o q : Nat} {N : Int → Int} (hap : q + 4 ≤ o ∨ o + 4 ≤ q) (h : HR σ q N) (w : HW N) : HR (tkS σ o q) o N := by
  obtain ⟨a, b, d, e⟩ := h
  refine ⟨EqV.tr a ⟨?_, fun i i0 i1 => ?_⟩, ?_, ?_, ?_⟩
  · show σ q 3 = tkS σ o q o 3
    unfold tkS tkSl; rw [up_nk (by decide), up_nk (by decide), up_nk (by decide), up_eq]
  · obtain ⟨w1, w2, w3⟩ := a.WV w.1
    have w2 : σ q 3 ≤ 8 := w2
    have i1' : i < σ q 3 := i1
    have z : σ (q + 1) i ≤ 4 := (w3 i i0 i1).2.1
    refine ⟨(tkS_1 (by omega)).symm, fun k k0 k1 => ?_⟩
    have k1 : k < σ (q + 1) i := k1
    exact ⟨(tkS_2 hap (by omega)).symm, (tkS_3 hap (by omega)).symm⟩
  · rw [b]; unfold tkS; rw [up_nk (by decide), up_nk (by decide), up_eq]
  · rw [d]; unfold tkS; rw [up_nk (by decide), up_eq]
  · rw [e]; unfold tkS; rw [up_eq]
theorem PR_push {τ : Sg} {B : Int → Int} {f m : Int} (f0 : 0 ≤ f ∧ f ≤ 7) (m0 : 0 ≤ m ∧ m ≤ 7) (g1 : τ 13 1 = f) (g2 : τ 13 2 = m + 1) (hj : ∀ j : Int, 0 ≤ j → j < m → HR τ (15 + 4 * ((f + j) % 8).toNat) (fun k => B (76 * j + k)) ∧ HW (fun k => B (76 * j + k))) (hm : HR τ (15 + 4 * ((f + m) % 8).toNat) (fun k => B (76 * m + k)) ∧ HW (fun k => B (76 * m + k))) : PR τ 13 B (m + 1) := by
  refine ⟨by rw [g1]; exact f0, by rw [g2]; omega, g2, fun j j0 j1 => ?_⟩
  rw [g1]
  by_cases z : j = m
  · rw [z]; exact hm
  · exact hj j j0 (by omega)
theorem keepS_o {σ : Sg} {c : Nat} {k : Int} (h : c ≠ 13) (h2 : c < 15 + 4 * ((keep1 σ 13 1 + keep1 σ 13 2) % 8).toNat ∨ 15 + 4 * ((keep1 σ 13 1 + keep1 σ 13 2) % 8).toNat + 4 ≤ c) : keepS σ c k = σ c k := by
  unfold keepS; rw [up_ne h, tkS_ne h2, keep1_ne h]
theorem PR_note {σ ρ : Sg} (h1 : R1 σ) (h2 : R2 σ) (e127 : ρ 127 = σ 127) (e29 : ρ 113 29 = σ 113 29) (e114 : ρ 114 = σ 114) : PR (keepS σ) 13 (noteS ρ 127) (noteS ρ 113 29) := by
  obtain ⟨f0, m0, mU, hj⟩ := h2
  have k1 : HR (keep1 σ) 1 (σ 114) := HR_keep h1.1 (fun c k c0 c1 => keep1_ne (by omega))
  have kT : HR (keepS σ) (15 + 4 * ((keep1 σ 13 1 + keep1 σ 13 2) % 8).toNat) (σ 114) := by
    refine HR_keep (HR_tk (q := 1) (Or.inl (by omega)) k1 h1.2) (fun c k c0 c1 => ?_)
    unfold keepS; rw [up_ne (by omega)]
  have n29 : noteS ρ 113 29 = note1 ρ 113 29 + 1 := by unfold noteS; rw [up_eq]
  have n127 : ∀ k : Int, noteS ρ 127 k = if 76 * note1 ρ 113 29 ≤ k ∧ k < 76 * note1 ρ 113 29 + 76 then σ 114 (k - 76 * note1 ρ 113 29) else note1 ρ 127 k := by
    intro k; unfold noteS; rw [up_ne (by decide)]
    by_cases z : 76 * note1 ρ 113 29 ≤ k ∧ k < 76 * note1 ρ 113 29 + 76
    · rw [if_pos z, fl_in (by omega), note1_ne (by omega), e114]
    · rw [if_neg z, fl_out (by omega)]
  have s1 : keepS σ 13 1 = keep1 σ 13 1 := by unfold keepS; rw [up_nk (by decide), tkS_ne (by omega)]
  have s2 : keepS σ 13 2 = keep1 σ 13 2 + 1 := by unfold keepS; rw [up_eq]
  rw [n29]
  by_cases z : σ 13 2 = 8
  · have a1 : keep1 σ 13 1 = (σ 13 1 + 1) % 8 := by unfold keep1; rw [if_pos z, up_nk (by decide), up_eq]
    have a2 : keep1 σ 13 2 = 7 := by unfold keep1; rw [if_pos z, up_eq]; rfl
    have a3 : note1 ρ 113 29 = 7 := by unfold note1; rw [if_pos (by omega), up_eq]
    have a4 : ∀ k : Int, 0 ≤ k → k < 532 → note1 ρ 127 k = σ 127 (k + 76) := by
      intro k k0 k1; unfold note1; rw [if_pos (by omega), up_ne (by decide), fl_in (by omega), e127]
    rw [a1] at s1; rw [a2] at s2
    rw [a1, a2] at kT
    rw [a3] at n127 ⊢
    refine PR_push (f := (σ 13 1 + 1) % 8) (by omega) (by decide) s1 s2 (fun j j0 j1 => ?_) ?_
    · have x := hj (j + 1) (by omega) (by omega)
      have y : HR (keepS σ) (15 + 4 * (((σ 13 1 + 1) % 8 + j) % 8).toNat) (fun k => σ 127 (76 * (j + 1) + k)) := by
        have e : 13 + 2 + 4 * ((σ 13 1 + (j + 1)) % 8).toNat = 15 + 4 * (((σ 13 1 + 1) % 8 + j) % 8).toNat := by omega
        rw [e] at x
        refine HR_keep x.1 (fun c k c0 c1 => keepS_o (by omega) ?_)
        rw [a1, a2]; omega
      refine HR_row y x.2 (fun k k0 k1 => ?_)
      show noteS ρ 127 (76 * j + k) = σ 127 (76 * (j + 1) + k)
      rw [n127, if_neg (by omega), a4 _ (by omega) (by omega)]; congr 1; omega
    · refine HR_row kT h1.2 (fun k k0 k1 => ?_)
      show noteS ρ 127 (76 * 7 + k) = σ 114 k
      rw [n127, if_pos (by omega)]; congr 1; omega
  · have a1 : keep1 σ 13 1 = σ 13 1 := by unfold keep1; rw [if_neg z]
    have a2 : keep1 σ 13 2 = σ 13 2 := by unfold keep1; rw [if_neg z]
    have a3 : note1 ρ 113 29 = σ 13 2 := by unfold note1; rw [if_neg (by omega)]; omega
    have a4 : note1 ρ 127 = σ 127 := by unfold note1; rw [if_neg (by omega)]; exact e127
    rw [a1] at s1; rw [a2] at s2
    rw [a1, a2] at kT
    rw [a3] at n127 ⊢
    refine PR_push f0 (by omega) s1 s2 (fun j j0 j1 => ?_) ?_
    · have x := hj j j0 (by omega)
      have y : HR (keepS σ) (15 + 4 * ((σ 13 1 + j) % 8).toNat) (fun k => σ 127 (76 * j + k)) := by
        refine HR_keep x.1 (fun c k c0 c1 => keepS_o (by omega) ?_)
        rw [a1, a2]; omega
      refine HR_row y x.2 (fun k k0 k1 => ?_)
      show noteS ρ 127 (76 * j + k) = σ 127 (76 * j + k)
      rw [n127, if_neg (by omega), a4]
    · refine HR_row kT h1.2 (fun k k0 k1 => ?_)
      show noteS ρ 127 (76 * σ 13 2 + k) = σ 114 k
      rw [n127, if_pos (by omega)]; congr 1; omega
/-- both keep what was for undo, then change what is heard -/
theorem Rel_und {σ σ1 σ2 : Sg} (h : Rel σ) (f1 : ∀ (c : Nat) (k : Int), (c = 0 ∨ (9 ≤ c ∧ c ≤ 85) ∨ (97 ≤ c ∧ c ≤ 102) ∨ 105 ≤ c) → σ1 c k = undS σ c k) (f2 : ∀ (c : Nat) (k : Int), (c < 113 ∨ c = 124 ∨ (127 ≤ c ∧ c ≤ 132) ∨ (c = 113 ∧ (k = 23 ∨ k = 29 ∨ k = 32))) → σ2 c k = noteS σ1 c k) (h1 : R1 σ2) : Rel σ2 := by
  obtain ⟨g1, g2, g3, g4, g5, g6⟩ := h
  have f1s : 0 ≤ σ 13 1 ∧ σ 13 1 ≤ 7 := g2.1
  have f2s : 0 ≤ σ 13 2 ∧ σ 13 2 ≤ 8 := g2.2.1
  have fg : ∀ (c : Nat) (k : Int), c ≠ 83 → c ≠ 97 → undS σ c k = keepS σ c k := fun c k a b => by unfold undS fgtS; rw [up_ne a, up_ne b, up_ne a]
  have ko : ∀ (c : Nat) (k : Int), (c < 13 ∨ c = 14 ∨ 47 ≤ c) → keepS σ c k = σ c k := fun c k hc => keepS_o (by omega) (by omega)
  have uo : ∀ (c : Nat) (k : Int), (c < 13 ∨ c = 14 ∨ 47 ≤ c) → c ≠ 83 → c ≠ 97 → undS σ c k = σ c k := fun c k hc a b => by rw [fg c k a b, ko c k hc]
  have s1o : ∀ (c : Nat) (k : Int), (c = 0 ∨ (9 ≤ c ∧ c ≤ 12) ∨ (47 ≤ c ∧ c ≤ 82) ∨ (98 ≤ c ∧ c ≤ 102) ∨ 105 ≤ c) → σ1 c k = σ c k := fun c k hc => by rw [f1 c k (by omega), uo c k (by omega) (by omega) (by omega)]
  have fr : ∀ (c : Nat) (k : Int), (c = 0 ∨ (9 ≤ c ∧ c ≤ 12) ∨ (47 ≤ c ∧ c ≤ 82) ∨ (98 ≤ c ∧ c ≤ 102) ∨ (105 ≤ c ∧ c ≤ 112) ∨ c = 124 ∨ (128 ≤ c ∧ c ≤ 132) ∨ (c = 113 ∧ (k = 23 ∨ k = 32))) → σ2 c k = σ c k := fun c k hc => by
    rw [f2 c k (by omega), noteS_ne (by omega), s1o c k (by omega)]
  refine ⟨h1, ?_, R3_keep g3 (fun c k hc => fr c k (by omega)) (fr _ _ (by omega)) (fr _ _ (by omega)), R4_keep g4 (fun c k hc => fr c k (by omega)) (fr _ _ (by omega)) (fr _ _ (by omega)), R5_keep g5 (fun c k hc => fr c k (by omega)), ?_⟩
  · have x := PR_note (ρ := σ1) g1 g2 (funext fun k => s1o 127 k (by omega)) (s1o _ _ (by omega)) (funext fun k => s1o 114 k (by omega))
    unfold R2
    rw [show σ2 127 = noteS σ1 127 from funext fun k => f2 127 k (by omega), f2 113 29 (by omega)]
    refine PR_keep x (fun c k hc => ?_)
    rw [f2 c k (by omega), noteS_ne (by omega), f1 c k (by omega), fg c k (by omega) (by omega)]
  · refine SI_fgt (fun k k0 k1 => ?_) ?_ ?_ ?_
    · rw [fr 100 k (by omega)]; exact g6.2.2.2 k k0 k1
    · rw [f2 _ _ (by omega), noteS_ne (by omega), f1 _ _ (by omega)]; unfold undS fgtS; rw [up_nk (by decide), up_ne (by decide), up_eq]
    · rw [f2 _ _ (by omega), noteS_ne (by omega), f1 _ _ (by omega)]; unfold undS fgtS; rw [up_ne (by decide), up_eq]
    · rw [f2 _ _ (by omega), noteS_ne (by omega), f1 _ _ (by omega)]; unfold undS fgtS; rw [up_eq]
