theorem tkSl_1 {σ : Sg} {i : Int} (h : 0 ≤ i ∧ i < 8) : tkSl σ 1 5 2 i = σ 6 i := by
  unfold tkSl
  rw [up_ne (by decide), cp_ne (by decide), cp_ne (by decide), cp_in (by omega)]
  show σ 6 (0 + (i - 0)) = σ 6 i
  congr 1; omega
theorem tkSl_2 {σ : Sg} {i : Int} (h : 0 ≤ i ∧ i < 32) : tkSl σ 1 5 3 i = σ 7 i := by
  unfold tkSl
  rw [up_ne (by decide), cp_ne (by decide), cp_in (by omega), cp_ne (by decide)]
  show σ 7 (0 + (i - 0)) = σ 7 i
  congr 1; omega
theorem tkSl_3 {σ : Sg} {i : Int} (h : 0 ≤ i ∧ i < 32) : tkSl σ 1 5 4 i = σ 8 i := by
  unfold tkSl
  rw [up_ne (by decide), cp_in (by omega), cp_ne (by decide), cp_ne (by decide)]
  show σ 8 (0 + (i - 0)) = σ 8 i
  congr 1; omega
theorem tkSl_o {σ : Sg} {k : Int} (h : k ≠ 3) : tkSl σ 1 5 1 k = σ 1 k := by
  unfold tkSl; rw [up_nk h, cp_ne (by decide), cp_ne (by decide), cp_ne (by decide)]
theorem hearL_k {σ : Sg} {l : List Int} {k : Int} (h : 0 ≤ σ 114 0) (k0 : 1 ≤ k ∧ k < 4) : hearL σ l 114 k = σ 114 k := by
  induction l generalizing σ with
  | nil => rfl
  | cons a l ih =>
    unfold hearL; rw [ih (by rw [hearsS_0 h]; omega)]
    unfold hearsS; rw [up_nk (by omega), up_nk (by omega), up_nk (by omega), up_nk (by omega)]
theorem Rel_anew {σ σ2 : Sg} (h : Rel σ) (h1 : R1 σ2) (a : σ2 13 1 = σ 13 1) (b : σ2 13 2 = 0) (d : σ2 113 29 = 0) (h4 : R4 σ2) (s1 : σ2 83 3 = 0) (s2 : σ2 97 0 = 0) (s3 : σ2 83 13 = 0) (fr : ∀ (c : Nat) (k : Int), (c = 0 ∨ (9 ≤ c ∧ c ≤ 12) ∨ (47 ≤ c ∧ c ≤ 80) ∨ c = 100 ∨ (105 ≤ c ∧ c ≤ 112) ∨ (128 ≤ c ∧ c ≤ 132) ∨ (c = 113 ∧ k = 32)) → σ2 c k = σ c k) : Rel σ2 := by
  obtain ⟨g1, g2, g3, g4, g5, g6⟩ := h
  refine ⟨h1, ⟨by rw [a]; exact g2.1, by rw [b]; omega, by rw [b, d], fun j j0 j1 => ?_⟩, R3_keep g3 (fun c k hc => fr c k (by omega)) (fr _ _ (by omega)) (fr _ _ (by omega)), h4, R5_keep g5 (fun c k hc => fr c k (by omega)), SI_fgt (fun k k0 k1 => by rw [fr 100 k (by omega)]; exact g6.2.2.2 k k0 k1) s1 s2 s3⟩
  rw [d] at j1; exact absurd j1 (by omega)
theorem q_say {σ σ1 σ2 : Sg} {v r1 r2 : Int} (h : Rel σ) (p : (¬ (1 ≤ v ∧ v ≤ 999999) ∧ r1 = -1 ∧ σ1 = σ) ∨ ((1 ≤ v ∧ v ≤ 999999) ∧ 8 < (numW v).length ∧ r1 = -3 ∧ FH 5 σ σ1) ∨ ((1 ≤ v ∧ v ≤ 999999) ∧ (numW v).length ≤ 8 ∧ r1 = (growL (up σ 5 3 0) 5 (numW v)) 5 3 ∧ σ1 = fgtS (up (tkSl (growL (up σ 5 3 0) 5 (numW v)) 1 5) 13 2 0))) (q : (¬ (1 ≤ v ∧ v ≤ 999999) ∧ r2 = -1 ∧ σ2 = σ1) ∨ ((1 ≤ v ∧ v ≤ 999999) ∧ 8 < (numW v).length ∧ r2 = -3 ∧ σ2 = sayL (up σ1 113 27 0) (numW v)) ∨ ((1 ≤ v ∧ v ≤ 999999) ∧ (numW v).length ≤ 8 ∧ r2 = (numW v).length ∧ σ2 = sayS σ1 v)) : r1 = r2 ∧ Rel σ2 := by
  rcases p with ⟨b, e, f⟩ | ⟨b, l8, e, f⟩ | ⟨b, l8, e, f⟩
  · rcases q with ⟨_, e2, f2⟩ | ⟨b2, _⟩ | ⟨b2, _⟩
    · rw [f2, f]; exact ⟨by omega, h⟩
    · exact absurd b2 b
    · exact absurd b2 b
  · rcases q with ⟨b2, _⟩ | ⟨_, _, e2, f2⟩ | ⟨_, x, _⟩
    · exact absurd b b2
    · have fr : ∀ (c : Nat) (k : Int), (c < 5 ∨ 9 ≤ c) → c ≠ 126 → (c ≠ 113 ∨ k ≠ 27) → σ2 c k = σ c k := fun c k a1 a2 a3 => by
        rw [f2, sayL_ne a2 a3]
        rcases a3 with a3 | a3
        · rw [up_ne a3]; exact f c k (by omega)
        · rw [up_nk a3]; exact f c k (by omega)
      obtain ⟨g1, g2, g3, g4, g5, g6⟩ := h
      exact ⟨by omega, R1_keep g1 (fun c k hc => fr c k (by omega) (by omega) (by omega)), R2_keep g2 (fun c k hc => fr c k (by omega) (by omega) (by omega)) (fr _ _ (by omega) (by omega) (by omega)), R3_keep g3 (fun c k hc => fr c k (by omega) (by omega) (by omega)) (fr _ _ (by omega) (by omega) (by omega)) (fr _ _ (by omega) (by omega) (by omega)), R4_keep g4 (fun c k hc => fr c k (by omega) (by omega) (by omega)) (fr _ _ (by omega) (by omega) (by omega)) (fr _ _ (by omega) (by omega) (by omega)), R5_keep g5 (fun c k hc => fr c k (by omega) (by omega) (by omega)), SI_gen g6 (fun c k hc => fr c k (by omega) (by omega) (by omega))⟩
    · exact absurd x (by omega)
  · rcases q with ⟨b2, _⟩ | ⟨_, x, _⟩ | ⟨_, _, e2, f2⟩
    · exact absurd b b2
    · exact absurd x (by omega)
    · have gq : gQ (growL (up σ 5 3 0) 5 (numW v)) 5 (numW v) := by
        have z : gQ (up σ 5 3 0) 5 [] := ⟨up_eq, fun i hi => absurd hi (by simp)⟩
        have y := gQ_growL (numW v) z
        rwa [List.nil_append] at y
      have gn : ∀ (c : Nat) (k : Int), (c < 5 ∨ 9 ≤ c) → growL (up σ 5 3 0) 5 (numW v) c k = σ c k := fun c k hc => by rw [growL_ne (by omega), up_ne (by omega)]
      rw [gq.1] at e
      have x0 : ∀ (c : Nat) (k : Int), (c = 0 ∨ 9 ≤ c) → c ≠ 83 → c ≠ 97 → (c ≠ 13 ∨ k ≠ 2) → σ1 c k = σ c k := fun c k hc h83 h97 h13 => by
        rw [f]; unfold fgtS; rw [up_ne h83, up_ne h97, up_ne h83]
        rcases h13 with h13 | h13
        · rw [up_ne h13, tkSl_q (by omega), gn c k (by omega)]
        · rw [up_nk h13, tkSl_q (by omega), gn c k (by omega)]
      have x1 : ∀ (c : Nat) (k : Int), 1 ≤ c → c ≤ 4 → σ1 c k = tkSl (growL (up σ 5 3 0) 5 (numW v)) 1 5 c k := fun c k c0 c1 => by
        rw [f]; unfold fgtS; rw [up_ne (by omega), up_ne (by omega), up_ne (by omega), up_ne (by omega)]
      have x13 : σ1 13 2 = 0 := by rw [f]; unfold fgtS; rw [up_ne (by decide), up_ne (by decide), up_ne (by decide), up_eq]
      unfold sayS at f2
      have hq : hQ (hearL (fl (up (sayL (up σ1 113 27 0) (numW v)) 114 0 0) 114 4 76 (fun _ => 0)) (numW v)) (numW v) := by
        have z : hQ (fl (up (sayL (up σ1 113 27 0) (numW v)) 114 0 0) 114 4 76 (fun _ => 0)) [] := ⟨by rw [fl_out (by omega), up_eq]; rfl, fun i hi => absurd hi (by simp)⟩
        have y := hQ_hearL (numW v) z
        rwa [List.nil_append] at y
      have y0 : ∀ (c : Nat) (k : Int), c ≠ 114 → c ≠ 126 → (c ≠ 113 ∨ (k ≠ 27 ∧ k ≠ 29)) → σ2 c k = σ1 c k := fun c k a1 a2 a3 => by
        have a4 : c ≠ 113 ∨ k ≠ 27 := by omega
        have u : hearL (fl (up (sayL (up σ1 113 27 0) (numW v)) 114 0 0) 114 4 76 (fun _ => 0)) (numW v) c k = σ1 c k := by
          rw [hearL_ne a1, fl_ne a1, up_ne a1, sayL_ne a2 a4]
          rcases a4 with a4 | a4
          · rw [up_ne a4]
          · rw [up_nk a4]
        rw [f2]
        rcases a3 with a3 | a3
        · rw [up_ne a3, u]
        · rw [up_nk a3.2, u]
      have y29 : σ2 113 29 = 0 := by rw [f2, up_eq]
      have y114 : ∀ k : Int, σ2 114 k = hearL (fl (up (sayL (up σ1 113 27 0) (numW v)) 114 0 0) 114 4 76 (fun _ => 0)) (numW v) 114 k := fun k => by rw [f2, up_ne (by decide)]
      have fr : ∀ (c : Nat) (k : Int), (c = 0 ∨ 9 ≤ c) → c ≠ 83 → c ≠ 97 → (c ≠ 13 ∨ k ≠ 2) → c ≠ 114 → c ≠ 126 → (c ≠ 113 ∨ (k ≠ 27 ∧ k ≠ 29)) → σ2 c k = σ c k := fun c k a1 a2 a3 a4 a5 a6 a7 => by
        rw [y0 c k a5 a6 a7, x0 c k a1 a2 a3 a4]
      have lw : ∀ (c : Nat) (k : Int), 1 ≤ c → c ≤ 4 → σ2 c k = tkSl (growL (up σ 5 3 0) 5 (numW v)) 1 5 c k := fun c k c0 c1 => by
        rw [y0 c k (by omega) (by omega) (by omega), x1 c k c0 c1]
      have w13 : σ2 1 3 = (numW v).length := by
        rw [lw _ _ (by decide) (by decide)]; unfold tkSl; rw [up_eq]; exact gq.1
      refine ⟨by omega, Rel_anew h (R1_of h.1 ?_ ?_ (fun i i0 i1 => ?_) (fun k k0 k1 => ?_) (fun k k0 k1 => ?_)) (fr _ _ (by decide) (by decide) (by decide) (by decide) (by decide) (by decide) (by decide)) ?_ y29 (R4_keep h.2.2.2.1 (fun c k hc => fr c k (by omega) (by omega) (by omega) (by omega) (by omega) (by omega) (by omega)) (fr _ _ (by decide) (by decide) (by decide) (by decide) (by decide) (by decide) (by decide)) (fr _ _ (by decide) (by decide) (by decide) (by decide) (by decide) (by decide) (by decide))) ?_ ?_ ?_ (fun c k hc => fr c k (by omega) (by omega) (by omega) (by omega) (by omega) (by omega) (by omega))⟩
      · rw [y114, w13]; exact hq.1
      · rw [w13]; omega
      · rw [w13] at i1
        obtain ⟨m, hm⟩ : ∃ m : Nat, i = m := ⟨i.toNat, by omega⟩
        rw [hm] at i1 ⊢
        have mb : m < (numW v).length := by omega
        have a := gq.2 m mb
        have d := hq.2 m mb
        have w := numW_mem b _ (List.getElem_mem mb)
        have t2 : σ2 2 (m : Int) = 1 := by rw [lw _ _ (by decide) (by decide), tkSl_1 (by omega)]; exact a.1
        have t3 : σ2 3 ((m : Int) * 4) = (numW v)[m] := by rw [lw _ _ (by decide) (by decide), tkSl_2 (by omega)]; exact a.2.1
        have t4 : σ2 4 ((m : Int) * 4) = 0 := by rw [lw _ _ (by decide) (by decide), tkSl_3 (by omega)]; exact a.2.2
        refine ⟨by rw [y114, t2]; exact d.1, by rw [t2]; omega, fun k k0 k1 => ?_, fun k l k0 k1 l0 l1 _ => by rw [t2] at k1 l1; omega⟩
        rw [t2] at k1
        have : k = 0 := by omega
        rw [this, Int.add_zero, Int.add_zero, Int.add_zero, t3, t4, y114, y114]
        exact ⟨d.2.1, d.2.2, by omega, by omega⟩
      · rw [lw _ _ (by decide) (by decide), tkSl_o (by omega), gn _ _ (by omega)]
      · rw [y114, hearL_k (by rw [fl_out (by omega), up_eq]; decide) (by omega), fl_out (by omega), up_nk (by omega), sayL_ne (by decide) (by omega), up_ne (by decide), x0 _ _ (by omega) (by decide) (by decide) (by omega)]
      · rw [y0 _ _ (by decide) (by decide) (by decide), x13]
      · rw [y0 _ _ (by decide) (by decide) (by decide), f]; unfold fgtS; rw [up_nk (by decide), up_ne (by decide), up_eq]
      · rw [y0 _ _ (by decide) (by decide) (by decide), f]; unfold fgtS; rw [up_ne (by decide), up_eq]
      · rw [y0 _ _ (by decide) (by decide) (by decide), f]; unfold fgtS; rw [up_eq]
