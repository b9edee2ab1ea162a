theorem q_hear {σ σ1 σ2 : Sg} {w q r1 r2 : Int} (h : Rel σ) (p : (r1, σ1) = if ¬ (0 ≤ w ∧ w ≤ 31) ∨ ¬ (0 ≤ q ∧ q ≤ 9) then (-1, σ) else if σ 1 3 = 8 then (-3, σ) else (σ 1 3 + 1, groS (undS σ) 1 w q)) (p2 : (r2, σ2) = if ¬ (0 ≤ w ∧ w ≤ 31) ∨ ¬ (0 ≤ q ∧ q ≤ 9) then (-1, σ1) else if σ1 114 0 = 8 then (-3, σ1) else (σ1 114 0 + 1, up (up (up (up (noteS σ1) 114 0 (σ1 114 0 + 1)) 114 (4 + 9 * σ1 114 0) 1) 114 (4 + 9 * σ1 114 0 + 1) w) 114 (4 + 9 * σ1 114 0 + 5) q)) : r1 = r2 ∧ Rel σ2 := by
  by_cases b : ¬ (0 ≤ w ∧ w ≤ 31) ∨ ¬ (0 ≤ q ∧ q ≤ 9)
  · rw [if_pos b] at p p2; cases p; cases p2; exact ⟨rfl, h⟩
  · rw [if_neg b] at p p2
    obtain ⟨⟨n0, n1, n2⟩, hs⟩ := R1_sOK h.1
    by_cases d : σ 1 3 = 8
    · rw [if_pos d] at p; cases p
      rw [if_pos (by omega)] at p2; cases p2; exact ⟨rfl, h⟩
    · rw [if_neg d] at p
      generalize hn : σ 1 3 = n at *
      have gE : groS (undS σ) 1 w q = up (up (up (up (up (undS σ) 2 n 0) 1 3 (n + 1)) 3 (n * 4) w) 4 (n * 4) q) 2 n 1 := by
        unfold groS widS
        rw [undS_1 (by decide), hn]
        have z : up (up (undS σ) (1 + 1) n 0) 1 3 (n + 1) (1 + 1) n = 0 := by rw [up_ne (by decide)]; exact up_eq
        rw [z, Int.add_zero]; rfl
      rw [gE] at p; cases p
      have x1 : ∀ (c : Nat) (k : Int), 5 ≤ c → up (up (up (up (up (undS σ) 2 n 0) 1 3 (n + 1)) 3 (n * 4) w) 4 (n * 4) q) 2 n 1 c k = undS σ c k := fun c k hc => by
        rw [up_ne (by omega), up_ne (by omega), up_ne (by omega), up_ne (by omega), up_ne (by omega)]
      have x0 : ∀ (k : Int), up (up (up (up (up (undS σ) 2 n 0) 1 3 (n + 1)) 3 (n * 4) w) 4 (n * 4) q) 2 n 1 0 k = undS σ 0 k := fun k => by
        rw [up_ne (by omega), up_ne (by omega), up_ne (by omega), up_ne (by omega), up_ne (by omega)]
      have x114 : ∀ k : Int, up (up (up (up (up (undS σ) 2 n 0) 1 3 (n + 1)) 3 (n * 4) w) 4 (n * 4) q) 2 n 1 114 k = σ 114 k := fun k => by rw [x1 _ _ (by decide), undS_r (by decide)]
      rw [x114, n0, if_neg (by omega)] at p2
      have c1 : ∀ k : Int, k ≠ 3 → up (up (up (up (up (undS σ) 2 n 0) 1 3 (n + 1)) 3 (n * 4) w) 4 (n * 4) q) 2 n 1 1 k = σ 1 k := fun k hk => by
        rw [up_ne (by decide), up_ne (by decide), up_ne (by decide), up_nk hk, up_ne (by decide), undS_1 (by decide)]
      have c13 : up (up (up (up (up (undS σ) 2 n 0) 1 3 (n + 1)) 3 (n * 4) w) 4 (n * 4) q) 2 n 1 1 3 = n + 1 := by
        rw [up_ne (by decide), up_ne (by decide), up_ne (by decide), up_eq]
      have c2 : ∀ k : Int, k ≠ n → up (up (up (up (up (undS σ) 2 n 0) 1 3 (n + 1)) 3 (n * 4) w) 4 (n * 4) q) 2 n 1 2 k = σ 2 k := fun k hk => by
        rw [up_nk hk, up_ne (by decide), up_ne (by decide), up_ne (by decide), up_nk hk, undS_1 (by decide)]
      have c2n : up (up (up (up (up (undS σ) 2 n 0) 1 3 (n + 1)) 3 (n * 4) w) 4 (n * 4) q) 2 n 1 2 n = 1 := up_eq
      have c3 : ∀ k : Int, k ≠ n * 4 → up (up (up (up (up (undS σ) 2 n 0) 1 3 (n + 1)) 3 (n * 4) w) 4 (n * 4) q) 2 n 1 3 k = σ 3 k := fun k hk => by
        rw [up_ne (by decide), up_ne (by decide), up_nk hk, up_ne (by decide), up_ne (by decide), undS_1 (by decide)]
      have c3n : up (up (up (up (up (undS σ) 2 n 0) 1 3 (n + 1)) 3 (n * 4) w) 4 (n * 4) q) 2 n 1 3 (n * 4) = w := by
        rw [up_ne (by decide), up_ne (by decide), up_eq]
      have c4 : ∀ k : Int, k ≠ n * 4 → up (up (up (up (up (undS σ) 2 n 0) 1 3 (n + 1)) 3 (n * 4) w) 4 (n * 4) q) 2 n 1 4 k = σ 4 k := fun k hk => by
        rw [up_ne (by decide), up_nk hk, up_ne (by decide), up_ne (by decide), up_ne (by decide), undS_1 (by decide)]
      have c4n : up (up (up (up (up (undS σ) 2 n 0) 1 3 (n + 1)) 3 (n * 4) w) 4 (n * 4) q) 2 n 1 4 (n * 4) = q := by
        rw [up_ne (by decide), up_eq]
      generalize up (up (up (up (up (undS σ) 2 n 0) 1 3 (n + 1)) 3 (n * 4) w) 4 (n * 4) q) 2 n 1 = σ1 at *
      cases p2
      have y0 : ∀ (c : Nat) (k : Int), c ≠ 114 → up (up (up (up (noteS σ1) 114 0 (n + 1)) 114 (4 + 9 * n) 1) 114 (4 + 9 * n + 1) w) 114 (4 + 9 * n + 5) q c k = noteS σ1 c k := fun c k hc => by
        rw [up_ne hc, up_ne hc, up_ne hc, up_ne hc]
      have y1 : ∀ (c : Nat) (k : Int), c < 113 → up (up (up (up (noteS σ1) 114 0 (n + 1)) 114 (4 + 9 * n) 1) 114 (4 + 9 * n + 1) w) 114 (4 + 9 * n + 5) q c k = σ1 c k := fun c k hc => by
        rw [y0 c k (by omega), noteS_ne (by omega)]
      have z : ∀ k : Int, k ≠ 0 → k ≠ 4 + 9 * n → k ≠ 4 + 9 * n + 1 → k ≠ 4 + 9 * n + 5 → up (up (up (up (noteS σ1) 114 0 (n + 1)) 114 (4 + 9 * n) 1) 114 (4 + 9 * n + 1) w) 114 (4 + 9 * n + 5) q 114 k = σ 114 k := fun k a1 a2 a3 a4 => by
        rw [up_nk a4, up_nk a3, up_nk a2, up_nk a1, noteS_ne (by omega), x114]
      have z0 : up (up (up (up (noteS σ1) 114 0 (n + 1)) 114 (4 + 9 * n) 1) 114 (4 + 9 * n + 1) w) 114 (4 + 9 * n + 5) q 114 0 = n + 1 := by
        rw [up_nk (by omega), up_nk (by omega), up_nk (by omega), up_eq]
      have z4 : up (up (up (up (noteS σ1) 114 0 (n + 1)) 114 (4 + 9 * n) 1) 114 (4 + 9 * n + 1) w) 114 (4 + 9 * n + 5) q 114 (4 + 9 * n) = 1 := by
        rw [up_nk (by omega), up_nk (by omega), up_eq]
      have z5 : up (up (up (up (noteS σ1) 114 0 (n + 1)) 114 (4 + 9 * n) 1) 114 (4 + 9 * n + 1) w) 114 (4 + 9 * n + 5) q 114 (4 + 9 * n + 1) = w := by
        rw [up_nk (by omega), up_eq]
      have z9 : up (up (up (up (noteS σ1) 114 0 (n + 1)) 114 (4 + 9 * n) 1) 114 (4 + 9 * n + 1) w) 114 (4 + 9 * n + 5) q 114 (4 + 9 * n + 5) = q := up_eq
      have hu := Rel_und h (σ1 := σ1) (σ2 := up (up (up (up (noteS σ1) 114 0 (n + 1)) 114 (4 + 9 * n) 1) 114 (4 + 9 * n + 1) w) 114 (4 + 9 * n + 5) q) (fun c k hc => by
        rcases hc with e | hc
        · rw [e]; exact x0 k
        · exact x1 c k (by omega)) (fun c k hc => y0 c k (by omega))
      generalize up (up (up (up (noteS σ1) 114 0 (n + 1)) 114 (4 + 9 * n) 1) 114 (4 + 9 * n + 1) w) 114 (4 + 9 * n + 5) q = σ2 at *
      refine ⟨rfl, hu (R1_of h.1 ?_ ?_ (fun i i0 i1 => ?_) (fun k k0 k1 => ?_) (fun k k0 k1 => z k (by omega) (by omega) (by omega) (by omega)))⟩
      · rw [z0, y1 _ _ (by decide), c13]
      · rw [y1 _ _ (by decide), c13]; omega
      · rw [y1 _ _ (by decide), c13] at i1
        by_cases e : i = n
        · rw [e]
          refine ⟨by rw [z4, y1 _ _ (by decide), c2n], by rw [y1 _ _ (by decide), c2n]; omega, fun k k0 k1 => ?_, fun k l k0 k1 l0 l1 _ => ?_⟩
          · rw [y1 _ _ (by decide), c2n] at k1
            have : k = 0 := by omega
            rw [this, Int.add_zero, Int.add_zero, Int.add_zero, z5, z9, y1 _ _ (by decide), y1 _ _ (by decide), c3n, c4n]
            exact ⟨rfl, rfl, by omega, by omega⟩
          · rw [y1 _ _ (by decide), c2n] at k1 l1; omega
        · refine sOK_keep (hs i i0 (by omega)) (fun k k0 k1 => z _ (by omega) (by omega) (by omega) (by omega)) (by rw [y1 _ _ (by decide), c2 _ e]) (fun k k0 k1 => ?_)
          rw [y1 _ _ (by decide), y1 _ _ (by decide), c3 _ (by omega), c4 _ (by omega)]; exact ⟨rfl, rfl⟩
      · rw [y1 _ _ (by decide), c1 k (by omega)]
