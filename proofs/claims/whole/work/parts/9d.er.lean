def fQ : Nat → Int → Bool := fun c k => fTS c k || c == 121 || c == 122
theorem fTS_Q : ∀ c k, fQ c k = false → fTS c k = false := by
  intro c k h; simp only [fQ, Bool.or_eq_false_iff] at h; exact h.1.1
theorem fTk_Q : ∀ c k, fQ c k = false → fTk c k = false := fun c k h => fTk_TS c k (fTS_Q c k h)
def sumS (S : Nat → Nat) (m : Nat) : Nat → Int
  | 0 => 0
  | j + 1 => sumS S m j + nS (S j) m
theorem sumS_s (S : Nat → Nat) (m j : Nat) : sumS S m (j + 1) = sumS S m j + nS (S j) m := rfl
theorem sumS_congr {S S' : Nat → Nat} {m : Nat} (n : Nat) (h : ∀ j, j < n → S j = S' j) : sumS S m n = sumS S' m n := by
  induction n with
  | zero => rfl
  | succ n ih => rw [sumS_s, sumS_s, ih (fun j hj => h j (by omega)), h n (by omega)]
theorem nS_1 {s m t : Nat} (ht : t < m) (hs : s.testBit t = true) : 1 ≤ nS s m := by
  induction m with
  | zero => exact absurd ht (Nat.not_lt_zero t)
  | succ m ih =>
    have r := nS_r s m
    rw [nS_s]
    by_cases e : t = m
    · subst e; rw [if_pos hs]; omega
    · have := ih (by omega); split <;> omega
theorem sumS_n {S : Nat → Nat} {m : Nat} (n : Nat) (h : ∀ j, j < n → ∃ t, t < m ∧ (S j).testBit t = true) : (n : Int) ≤ sumS S m n := by
  induction n with
  | zero => exact Int.le_refl 0
  | succ n ih =>
    have a := ih (fun j hj => h j (by omega))
    obtain ⟨t, t1, t2⟩ := h n (by omega)
    have := nS_1 t1 t2
    rw [sumS_s]; omega
def cumT (V : Hv) (c : Nat → Nat) (s : Nat) (i : Int) (j : Nat) : Nat → Int
  | 0 => 0
  | k + 1 => cumT V c s i j k + taT V c s i k j
theorem cumT_s (V : Hv) (c : Nat → Nat) (s : Nat) (i : Int) (j k : Nat) : cumT V c s i j (k + 1) = cumT V c s i j k + taT V c s i k j := rfl
theorem cumT_j {V : Hv} {c : Nat → Nat} {s : Nat} {i : Int} {j : Nat} (h0 : 0 ≤ pk V (c j) i) : ∀ k : Nat, cumT V c s i (j + 1) k = cumT V c s i j k + (if s.testBit j = true ∧ pk V (c j) i < k then 1 else 0) := by
  intro k
  induction k with
  | zero => rw [if_neg (by omega)]; rfl
  | succ k ih =>
    rw [cumT_s, cumT_s, ih, taT_s]
    have g : (if s.testBit j = true ∧ pk V (c j) i < k then (1 : Int) else 0) + (if s.testBit j = true ∧ pk V (c j) i = k then (1 : Int) else 0) = (if s.testBit j = true ∧ pk V (c j) i < ((k + 1 : Nat) : Int) then (1 : Int) else 0) := by
      by_cases b : s.testBit j = true
      · by_cases e : pk V (c j) i = k
        · have g1 : ¬ (s.testBit j = true ∧ pk V (c j) i < k) := by omega
          have g2 : s.testBit j = true ∧ pk V (c j) i < ((k + 1 : Nat) : Int) := ⟨b, by omega⟩
          rw [if_neg g1, if_pos ⟨b, e⟩, if_pos g2]; rfl
        · have g0 : ¬ (s.testBit j = true ∧ pk V (c j) i = k) := fun z => e z.2
          rw [if_neg g0]
          by_cases q : pk V (c j) i < k
          · have g2 : s.testBit j = true ∧ pk V (c j) i < ((k + 1 : Nat) : Int) := ⟨b, by omega⟩
            rw [if_pos ⟨b, q⟩, if_pos g2]; rfl
          · have g1 : ¬ (s.testBit j = true ∧ pk V (c j) i < k) := fun z => q z.2
            have g2 : ¬ (s.testBit j = true ∧ pk V (c j) i < ((k + 1 : Nat) : Int)) := fun z => by have := z.2; omega
            rw [if_neg g1, if_neg g2]; rfl
      · have g0 : ¬ (s.testBit j = true ∧ pk V (c j) i = k) := fun z => b z.1
        have g1 : ¬ (s.testBit j = true ∧ pk V (c j) i < k) := fun z => b z.1
        have g2 : ¬ (s.testBit j = true ∧ pk V (c j) i < ((k + 1 : Nat) : Int)) := fun z => b z.1
        rw [if_neg g0, if_neg g1, if_neg g2]; rfl
    omega
theorem cumT_le {V : Hv} (hV : WV V) {c : Nat → Nat} {s : Nat} {i : Int} (h0 : 0 ≤ i) (h1 : i < V.1) (k : Nat) : ∀ j : Nat, cumT V c s i j k ≤ nS s j ∧ (V.2.1 i ≤ k → cumT V c s i j k = nS s j) := by
  intro j
  induction j with
  | zero =>
    have : cumT V c s i 0 k = 0 := by
      induction k with
      | zero => rfl
      | succ k ih => rw [cumT_s, ih]; rfl
    rw [this]; exact ⟨Int.le_refl 0, fun _ => rfl⟩
  | succ j ih =>
    have p := pk_WP hV (c j) i h0 h1
    rw [cumT_j p.1, nS_s]
    by_cases b : s.testBit j = true
    · by_cases q : pk V (c j) i < k
      · rw [if_pos ⟨b, q⟩, if_pos b]; exact ⟨by omega, fun z => by rw [ih.2 z]⟩
      · rw [if_neg (fun z => q z.2), if_pos b]; exact ⟨by omega, fun z => absurd z (by omega)⟩
    · rw [if_neg (fun z => b z.1), if_neg b]; exact ⟨by omega, fun z => by rw [ih.2 z]⟩
theorem nS_prt {V : Hv} {c : Nat → Nat} {s m : Nat} {i k : Int} : nS (prt V c s m i k) m = taT V c s i k m := by
  have key : ∀ j : Nat, j ≤ m → nS (prt V c s m i k) j = taT V c s i k j := by
    intro j
    induction j with
    | zero => intro _; rfl
    | succ j ih =>
      intro hj
      rw [nS_s, taT_s, ih (by omega)]
      by_cases q : s.testBit j = true ∧ pk V (c j) i = k
      · rw [if_pos q, if_pos (prt_bit.mpr ⟨by omega, q⟩)]
      · rw [if_neg q, if_neg (fun z => q (prt_bit.mp z).2)]
  exact key m (Nat.le_refl m)
theorem nz_bit {s m : Nat} (hs : s < 2 ^ m) (h : s ≠ 0) : ∃ t, t < m ∧ s.testBit t = true := by
  apply Classical.byContradiction; intro z
  apply h
  apply Nat.eq_of_testBit_eq; intro t
  rw [Nat.zero_testBit]
  cases q : s.testBit t
  · rfl
  · exfalso
    apply z
    refine ⟨t, ?_, q⟩
    apply Classical.byContradiction; intro y
    have := Nat.testBit_lt_two_pow (Nat.lt_of_lt_of_le hs (Nat.pow_le_pow_right (by decide) (show m ≤ t by omega)))
    rw [this] at q; cases q
theorem nz_of {s t : Nat} (h : s.testBit t = true) : s ≠ 0 := by rintro rfl; rw [Nat.zero_testBit] at h; cases h
def npT (V : Hv) (c : Nat → Nat) (s m : Nat) (i : Int) : Nat → Int
  | 0 => 0
  | k + 1 => npT V c s m i k + (if prt V c s m i k = 0 then 0 else 1)
theorem npT_s (V : Hv) (c : Nat → Nat) (s m : Nat) (i : Int) (k : Nat) : npT V c s m i (k + 1) = npT V c s m i k + (if prt V c s m i k = 0 then 0 else 1) := rfl
theorem npT_m {V : Hv} {c : Nat → Nat} {s m : Nat} {i : Int} {a : Nat} : ∀ b : Nat, a ≤ b → npT V c s m i a ≤ npT V c s m i b := by
  intro b
  induction b with
  | zero => intro h; obtain rfl : a = 0 := by omega
            exact Int.le_refl _
  | succ b ih =>
    intro h
    by_cases e : a = b + 1
    · rw [e]; exact Int.le_refl _
    · have := ih (by omega); rw [npT_s]; split <;> omega
theorem npT_2 {V : Hv} (hV : WV V) {c : Nat → Nat} {s m : Nat} {i : Int} (h0 : 0 ≤ i) (h1 : i < V.1) (h : alv V c s m i) {k : Nat} (hk : (k : Int) = V.2.1 i) : 2 ≤ npT V c s m i k := by
  have key : ∀ a b : Nat, a < b → b < k → prt V c s m i a ≠ 0 → prt V c s m i b ≠ 0 → 2 ≤ npT V c s m i k := by
    intro a b hab hb ha' hb'
    have x0 : 0 ≤ npT V c s m i a := npT_m (a := 0) a (Nat.zero_le a)
    have x1 := npT_s V c s m i a
    rw [if_neg ha'] at x1
    have x2 := npT_m (V := V) (c := c) (s := s) (m := m) (i := i) (a := a + 1) b (by omega)
    have x3 := npT_s V c s m i b
    rw [if_neg hb'] at x3
    have x4 := npT_m (V := V) (c := c) (s := s) (m := m) (i := i) (a := b + 1) k (by omega)
    omega
  obtain ⟨t, u, t1, u1, t2, u2, ne⟩ := h
  have pt := pk_WP hV (c t) i h0 h1
  have pu := pk_WP hV (c u) i h0 h1
  have bt : prt V c s m i ((pk V (c t) i).toNat : Nat) ≠ 0 := nz_of (t := t) (prt_bit.mpr ⟨t1, t2, by omega⟩)
  have bu : prt V c s m i ((pk V (c u) i).toNat : Nat) ≠ 0 := nz_of (t := u) (prt_bit.mpr ⟨u1, u2, by omega⟩)
  by_cases q : pk V (c t) i < pk V (c u) i
  · exact key (pk V (c t) i).toNat (pk V (c u) i).toNat (by omega) (by omega) bt bu
  · exact key (pk V (c u) i).toNat (pk V (c t) i).toNat (by omega) (by omega) bu bt
theorem po_prt {V : Hv} (hV : WV V) (hD : DV V) {c : Nat → Nat} {s m : Nat} {i : Int} {k : Nat} (h0 : 0 ≤ i) (h1 : i < V.1) (k1 : (k : Int) < V.2.1 i) : setF (fun t => s.testBit t && decide (V.2.2.1 i (pk V (c t) i) = V.2.2.1 i k)) m = prt V c s m i k := by
  refine setF_congr m (fun t _ => ?_)
  have p := pk_WP hV (c t) i h0 h1
  congr 1
  apply decide_eq_decide.mpr
  exact ⟨fun z => hD i h0 h1 _ _ p.1 p.2 (by omega) k1 z, fun z => by rw [z]⟩
/-- the stack of sets: what holds of it -/
def stA (V : Hv) (c : Nat → Nat) (m n : Nat) (S : Nat → Nat) (D : Nat → Int) (τ : Sg) : Prop := (∀ j : Nat, j < n → τ 121 j = (S j : Int) ∧ τ 122 j = D j) ∧ ∀ j : Nat, j < n → S j < 2 ^ m ∧ (∃ t, t < m ∧ (S j).testBit t = true) ∧ 0 ≤ D j ∧ ∀ t, t < m → (S j).testBit t = true → D j + Pq V c m (S j) t = Pq V c m (2 ^ m - 1) t
theorem stA_push {V : Hv} {c : Nat → Nat} {m n : Nat} {S : Nat → Nat} {D : Nat → Int} {τ : Sg} {x : Nat} {d : Int} (h : stA V c m n S D τ) (hx : x < 2 ^ m) (hn : ∃ t, t < m ∧ x.testBit t = true) (hd : 0 ≤ d) (hp : ∀ t, t < m → x.testBit t = true → d + Pq V c m x t = Pq V c m (2 ^ m - 1) t) : stA V c m (n + 1) (fun j => if j = n then x else S j) (fun j => if j = n then d else D j) (up (up τ 121 n x) 122 n d) := by
  refine ⟨fun j hj => ?_, fun j hj => ?_⟩ <;> dsimp only
  · by_cases e : j = n
    · rw [if_pos e, if_pos e, e, up_ne (by decide), up_eq, up_eq]; exact ⟨rfl, rfl⟩
    · rw [if_neg e, if_neg e, up_ne (by decide), up_nk (by omega), up_nk (by omega), up_ne (by decide)]; exact h.1 j (by omega)
  · by_cases e : j = n
    · rw [if_pos e, if_pos e]; exact ⟨hx, hn, hd, hp⟩
    · rw [if_neg e, if_neg e]; exact h.2 j (by omega)
theorem stA_keep {V : Hv} {c : Nat → Nat} {m n : Nat} {S : Nat → Nat} {D : Nat → Int} {τ τ' : Sg} (h : stA V c m n S D τ) {n' : Nat} (hn : n' ≤ n) (e1 : τ' 121 = τ 121) (e2 : τ' 122 = τ 122) : stA V c m n' S D τ' := ⟨fun j hj => by rw [e1, e2]; exact h.1 j (by omega), fun j hj => h.2 j (by omega)⟩
