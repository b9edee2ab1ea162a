/-! ===== the slot that parts best ===== -/
def pmF (R : Int → Int) (i : Int) : Nat → Int
  | 0 => 0
  | k + 1 => max (pmF R i k) (R (i * 4 + k))
theorem pmF_s (R : Int → Int) (i : Int) (k : Nat) : pmF R i (k + 1) = max (pmF R i k) (R (i * 4 + k)) := rfl
def pbF (R : Int → Int) (all : Int) : Nat → Int × Int
  | 0 => (-4, all)
  | i + 1 => if 0 < pmF R i 4 ∧ pmF R i 4 < (pbF R all i).2 then ((i : Int), pmF R i 4) else pbF R all i
theorem pbF_s (R : Int → Int) (all : Int) (i : Nat) : pbF R all (i + 1) = if 0 < pmF R i 4 ∧ pmF R i 4 < (pbF R all i).2 then ((i : Int), pmF R i 4) else pbF R all i := rfl
theorem pmF_r {R : Int → Int} {B : Int} (hB : 0 ≤ B) (i : Int) : ∀ k : Nat, (∀ j : Int, 0 ≤ j → j < k → 0 ≤ R (i * 4 + j) ∧ R (i * 4 + j) ≤ B) → 0 ≤ pmF R i k ∧ pmF R i k ≤ B := by
  intro k
  induction k with
  | zero => intro _; exact ⟨Int.le_refl 0, hB⟩
  | succ k ih => intro h; have a := ih (fun j j0 j1 => h j j0 (by omega)); have b := h k (by omega) (by omega); rw [pmF_s]; omega
theorem pbF_r {R : Int → Int} {B all : Int} (hB : 0 ≤ B) (ha : 0 ≤ all ∧ all ≤ B) : ∀ i : Nat, (∀ a j : Int, 0 ≤ a → a < i → 0 ≤ j → j < 4 → 0 ≤ R (a * 4 + j) ∧ R (a * 4 + j) ≤ B) → (-4 ≤ (pbF R all i).1 ∧ (pbF R all i).1 < i) ∧ 0 ≤ (pbF R all i).2 ∧ (pbF R all i).2 ≤ B := by
  intro i
  induction i with
  | zero => intro _; exact ⟨⟨by show (-4 : Int) ≤ -4; decide, by show (-4 : Int) < 0; decide⟩, ha⟩
  | succ i ih =>
    intro h
    have a := ih (fun a j a0 a1 j0 j1 => h a j a0 (by omega) j0 j1)
    have b := pmF_r (R := R) hB i 4 (fun j j0 j1 => h i j (by omega) (by omega) j0 (by omega))
    rw [pbF_s]; split
    · simp only; omega
    · omega

set_option maxHeartbeats 4000000 in
set_option maxRecDepth 100000 in
theorem lp_pb1 {g : G} {x : Cx} {σ : Sg} {o : Nat} {all sl fe : Int} {i : Nat} (hO : Ok g x RX1 cX1_partedBest 8 2) (hsh : sh o = (1, 32, [])) (hB : ∀ a j : Int, 0 ≤ a → a < 8 → 0 ≤ j → j < 4 → 0 ≤ σ o (a * 4 + j) ∧ σ o (a * 4 + j) ≤ 70000) (hall : 0 ≤ all ∧ all ≤ 70000) (hi : i < 8) (hE : Z g x 8 50 [(0, .ref (g.2.2.1 97)), (1, .ref (g.2.2.1 o)), (2, vI all), (3, vI sl), (4, vI fe), (5, vI i), (6, vI (pmF (σ o) i 4))] [] σ) : ∀ (f k : Nat), k ≤ 4 → 4 - k < f → Z g x 8 22 [(0, .ref (g.2.2.1 97)), (1, .ref (g.2.2.1 o)), (2, vI all), (3, vI sl), (4, vI fe), (5, vI i), (6, vI (pmF (σ o) i k)), (7, vI k)] [] σ := by
  intro f
  induction f with
  | zero => intro k h0 hk; exact absurd hk (by omega)
  | succ f ih =>
    intro k hk hf
    refine z_iload hO 7 dX1_partedBest_22 rfl ?_
    refine z_iconst hO dX1_partedBest_24 ?_
    refine z_icmp_ge hO 50 dX1_partedBest_25 (by decide) (by omega) (by decide) (fun c25 => ?_) (fun c25 => ?_)
    ·
      have hk4 : k = 4 := by omega
      subst hk4
      exact z_pick [0, 1, 2, 3, 4, 5, 6] rfl hE
    ·
      have hb5 := hB i k (by omega) (by omega) (by omega) (by omega)
      have hm5 := pmF_r (R := σ o) (B := 70000) (by decide) (i : Int) k (fun j j0 j1 => hB i j (by omega) (by omega) j0 (by omega))
      refine z_iload hO 6 dX1_partedBest_28 rfl ?_
      refine z_aload_n hO 1 dX1_partedBest_30 rfl ?_
      refine z_iload hO 5 dX1_partedBest_31 rfl ?_
      refine z_iconst hO dX1_partedBest_33 ?_
      refine z_imul hO dX1_partedBest_34 ?_
      refine z_iload hO 7 dX1_partedBest_35 rfl ?_
      refine z_iadd hO dX1_partedBest_37 ?_
      refine z_iald hO hsh (by omega) (by decide) dX1_partedBest_38 (fun r38 => ?_)
      refine z_max hO mx_X1_55 (by decide) (by omega) (by omega) (Nat.le_of_ble_eq_true rfl) dX1_partedBest_39 ?_
      refine z_istore hO (L' := [(6, _), (0, _), (1, _), (2, _), (3, _), (4, _), (5, _), (7, _)]) dX1_partedBest_42 (by decide) rfl ?_
      refine z_iinc hO (L' := [(7, _), (6, _), (0, _), (1, _), (2, _), (3, _), (4, _), (5, _)]) 7 dX1_partedBest_44 rfl (by decide) rfl ?_
      refine z_goto hO 22 dX1_partedBest_47 (by decide) ?_
      exact z_pick [2, 3, 4, 5, 6, 7, 1, 0] rfl (ih (k + 1) (by omega) (by omega))

set_option maxHeartbeats 4000000 in
set_option maxRecDepth 100000 in
theorem lp_pb2 {g : G} {x : Cx} {σ : Sg} {o : Nat} {all : Int} (hO : Ok g x RX1 cX1_partedBest 8 2) (hR : Rt g x (some .int) (pI (pE ((pbF (σ o) all 8).1) σ))) (hsh : sh o = (1, 32, [])) (hB : ∀ a j : Int, 0 ≤ a → a < 8 → 0 ≤ j → j < 4 → 0 ≤ σ o (a * 4 + j) ∧ σ o (a * 4 + j) ≤ 70000) (hall : 0 ≤ all ∧ all ≤ 70000) : ∀ (f i : Nat), i ≤ 8 → 8 - i < f → Z g x 8 9 [(0, .ref (g.2.2.1 97)), (1, .ref (g.2.2.1 o)), (2, vI all), (3, vI (pbF (σ o) all i).1), (4, vI (pbF (σ o) all i).2), (5, vI i)] [] σ := by
  intro f
  induction f with
  | zero => intro i h0 hk; exact absurd hk (by omega)
  | succ f ih =>
    intro i hi hf
    have hpr := pbF_r (R := σ o) (B := 70000) (by decide) hall i (fun a j a0 a1 j0 j1 => hB a j a0 (by omega) j0 j1)
    refine z_iload hO 5 dX1_partedBest_9 rfl ?_
    refine z_bipush hO dX1_partedBest_11 (by decide) ?_
    refine z_icmp_ge hO 75 dX1_partedBest_13 (by decide) (by omega) (by decide) (fun c13 => ?_) (fun c13 => ?_)
    ·
      have hi8 : i = 8 := by omega
      subst hi8
      refine z_iload_n hO 3 dX1_partedBest_75 rfl ?_
      exact z_retE hO hR dX1_partedBest_76 (rfl) rfl
    ·
      have hm5 := pmF_r (R := σ o) (B := 70000) (by decide) (i : Int) 4 (fun j j0 j1 => hB i j (by omega) (by omega) j0 (by omega))
      refine z_iconst hO dX1_partedBest_16 ?_
      refine z_istore hO (L' := [(6, _), (0, _), (1, _), (2, _), (3, _), (4, _), (5, _)]) dX1_partedBest_17 (by decide) rfl ?_
      refine z_iconst hO dX1_partedBest_19 ?_
      refine z_istore hO (L' := [(7, _), (6, _), (0, _), (1, _), (2, _), (3, _), (4, _), (5, _)]) dX1_partedBest_20 (by decide) rfl ?_
      refine z_pick [2, 3, 4, 5, 6, 7, 1, 0] rfl (lp_pb1 hO hsh hB hall (by omega) ?_ 5 0 (by omega) (by omega))
      refine z_iload hO 6 dX1_partedBest_50 rfl ?_
      refine z_if_le hO 69 dX1_partedBest_52 (by decide) (by omega) (fun c52 => ?_) (fun c52 => ?_)
      ·
        have hs5 := pbF_s (σ o) all i
        rw [if_neg (by omega)] at hs5
        refine z_iinc hO (L' := [(5, _), (0, _), (1, _), (2, _), (3, _), (4, _), (6, _)]) 5 dX1_partedBest_69 rfl (by decide) rfl ?_
        refine z_goto hO 9 dX1_partedBest_72 (by decide) ?_
        exact z_pick [1, 2, 3, 4, 5, 0] rfl (by have h := ih (i + 1) (by omega) (by omega); rw [hs5] at h; exact h)
      ·
        refine z_iload hO 6 dX1_partedBest_55 rfl ?_
        refine z_iload hO 4 dX1_partedBest_57 rfl ?_
        refine z_icmp_ge hO 69 dX1_partedBest_59 (by decide) (by omega) (by omega) (fun c59 => ?_) (fun c59 => ?_)
        ·
          have hs5 := pbF_s (σ o) all i
          rw [if_neg (by omega)] at hs5
          refine z_iinc hO (L' := [(5, _), (0, _), (1, _), (2, _), (3, _), (4, _), (6, _)]) 5 dX1_partedBest_69 rfl (by decide) rfl ?_
          refine z_goto hO 9 dX1_partedBest_72 (by decide) ?_
          exact z_pick [1, 2, 3, 4, 5, 0] rfl (by have h := ih (i + 1) (by omega) (by omega); rw [hs5] at h; exact h)
        ·
          have hs5 := pbF_s (σ o) all i
          rw [if_pos ⟨by omega, by omega⟩] at hs5
          refine z_iload hO 6 dX1_partedBest_62 rfl ?_
          refine z_istore hO (L' := [(4, _), (0, _), (1, _), (2, _), (3, _), (5, _), (6, _)]) dX1_partedBest_64 (by decide) rfl ?_
          refine z_iload hO 5 dX1_partedBest_66 rfl ?_
          refine z_istore_n hO (L' := [(3, _), (4, _), (0, _), (1, _), (2, _), (5, _), (6, _)]) dX1_partedBest_68 (by decide) rfl ?_
          refine z_iinc hO (L' := [(5, _), (3, _), (4, _), (0, _), (1, _), (2, _), (6, _)]) 5 dX1_partedBest_69 rfl (by decide) rfl ?_
          refine z_goto hO 9 dX1_partedBest_72 (by decide) ?_
          exact z_pick [3, 4, 5, 1, 2, 0] rfl (by have h := ih (i + 1) (by omega) (by omega); rw [hs5] at h; exact h)

set_option maxHeartbeats 4000000 in
set_option maxRecDepth 100000 in
theorem t_X1_partedBest {g : G} {σ : Sg} {o : Nat} {all : Int} (hsh : sh o = (1, 32, [])) (hB : ∀ a j : Int, 0 ≤ a → a < 8 → 0 ≤ j → j < 4 → 0 ≤ σ o (a * 4 + j) ∧ σ o (a * 4 + j) ≤ 70000) (hall : 0 ≤ all ∧ all ≤ 70000) : MM g mX1_partedBest [.ref (g.2.2.1 97), .ref (g.2.2.1 o), vI all] σ (pI (pE ((pbF (σ o) all 8).1) σ)) := by
  refine mm_of rfl (by decide) rfl rfl (Nat.le_of_ble_eq_true rfl) (fun x hO hR => ?_)
  refine z_bipush hO dX1_partedBest_0 (by decide) ?_
  refine z_istore_n hO (L' := [(3, _), (0, _), (1, _), (2, _)]) dX1_partedBest_2 (by decide) rfl ?_
  refine z_iload_n hO 3 dX1_partedBest_3 rfl ?_
  refine z_istore hO (L' := [(4, _), (3, _), (0, _), (1, _), (2, _)]) dX1_partedBest_4 (by decide) rfl ?_
  refine z_iconst hO dX1_partedBest_6 ?_
  refine z_istore hO (L' := [(5, _), (4, _), (3, _), (0, _), (1, _), (2, _)]) dX1_partedBest_7 (by decide) rfl ?_
  exact z_pick [3, 4, 5, 2, 1, 0] rfl (lp_pb2 hO hR hsh hB hall 9 0 (by omega) (by omega))

/-- words of a slot are unlike -/
def DV (V : Hv) : Prop := ∀ i, 0 ≤ i → i < V.1 → ∀ k l, 0 ≤ k → k < V.2.1 i → 0 ≤ l → l < V.2.1 i → V.2.2.1 i k = V.2.2.1 i l → k = l
theorem hvn_tal {V : Hv} (hV : WV V) (hD : DV V) {K S : Int} (m : Nat) {i k : Int} (h0 : 0 ≤ i) (h1 : i < V.1) (k0 : 0 ≤ k) (k1 : k < V.2.1 i) : hvn V K S m i (V.2.2.1 i k) = tal V K S m i k := by
  induction m with
  | zero => rfl
  | succ m ih =>
    rw [hvn_s, tal_s, ih]
    have p := pk_WP hV m i h0 h1
    by_cases c : ctd V K S m = true ∧ V.2.2.1 i (pk V m i) = V.2.2.1 i k
    · rw [if_pos c, if_pos ⟨c.1, ⟨h0, h1⟩, hD i h0 h1 _ _ p.1 p.2 k0 k1 c.2⟩]
    · rw [if_neg c, if_neg (fun z => c ⟨z.1, by rw [z.2.2]⟩)]
theorem hvn_out {V : Hv} (hV : WV V) {K S : Int} (m : Nat) {i w : Int} (h0 : 0 ≤ i) (h1 : i < V.1) (h : ∀ k, 0 ≤ k → k < V.2.1 i → V.2.2.1 i k ≠ w) : hvn V K S m i w = 0 := by
  induction m with
  | zero => rfl
  | succ m ih =>
    have p := pk_WP hV m i h0 h1
    rw [hvn_s, ih, if_neg (fun z => h _ p.1 p.2 z.2)]; rfl
theorem tal_out {V : Hv} (hV : WV V) {K S : Int} (m : Nat) {i k : Int} (h : i < 0 ∨ V.1 ≤ i ∨ k < 0 ∨ V.2.1 i ≤ k) : tal V K S m i k = 0 := by
  have r := tal_r V K S m i k
  apply Classical.byContradiction; intro z
  obtain ⟨q, _, _, a, b⟩ := (tal_pos (V := V) (K := K) (S := S) m i k).mp (by omega)
  have p := pk_WP hV q i a.1 a.2
  omega
/-- the greatest of a stretch -/
theorem mostF_le {H : Int → Int} {b : Int} : ∀ m : Nat, 0 ≤ mostF H b m ∧ (∀ w : Nat, w < m → H (b + w) ≤ mostF H b m) ∧ (mostF H b m = 0 ∨ ∃ w : Nat, w < m ∧ mostF H b m = H (b + w)) := by
  intro m
  induction m with
  | zero => exact ⟨Int.le_refl 0, fun w h => absurd h (Nat.not_lt_zero w), Or.inl rfl⟩
  | succ m ih =>
    obtain ⟨a, b', c⟩ := ih
    rw [mostF_s]
    split
    · rename_i q
      refine ⟨by omega, fun w hw => ?_, Or.inr ⟨m, by omega, rfl⟩⟩
      by_cases e : w = m
      · subst e; exact Int.le_refl _
      · have := b' w (by omega); omega
    · rename_i q
      refine ⟨a, fun w hw => ?_, ?_⟩
      · by_cases e : w = m
        · subst e; omega
        · exact b' w (by omega)
      · rcases c with c | ⟨w, c1, c2⟩
        · exact Or.inl c
        · exact Or.inr ⟨w, by omega, c2⟩
theorem pmF_le {R : Int → Int} {i : Int} : ∀ m : Nat, 0 ≤ pmF R i m ∧ (∀ k : Nat, k < m → R (i * 4 + k) ≤ pmF R i m) ∧ (pmF R i m = 0 ∨ ∃ k : Nat, k < m ∧ pmF R i m = R (i * 4 + k)) := by
  intro m
  induction m with
  | zero => exact ⟨Int.le_refl 0, fun w h => absurd h (Nat.not_lt_zero w), Or.inl rfl⟩
  | succ m ih =>
    obtain ⟨a, b', c⟩ := ih
    rw [pmF_s]
    refine ⟨by omega, fun w hw => ?_, ?_⟩
    · by_cases e : w = m
      · subst e; omega
      · have := b' w (by omega); omega
    · by_cases q : pmF R i m < R (i * 4 + m)
      · exact Or.inr ⟨m, by omega, by omega⟩
      · rcases c with c | ⟨w, c1, c2⟩
        · exact Or.inl (by omega)
        · exact Or.inr ⟨w, by omega, by omega⟩
/-- by words or by candidates: the same -/
theorem most_eq {V : Hv} (hV : WV V) {H R : Int → Int} {i : Nat} (hi : (i : Int) < V.1) (hw : ∀ k : Int, 0 ≤ k → k < V.2.1 i → H (32 * i + V.2.2.1 i k) = R (i * 4 + k)) (ho : ∀ w : Int, 0 ≤ w → w < 32 → (∀ k, 0 ≤ k → k < V.2.1 i → V.2.2.1 i k ≠ w) → H (32 * i + w) = 0) (hk : ∀ k : Int, V.2.1 i ≤ k → k < 4 → R (i * 4 + k) = 0) : mostF H (32 * i) 32 = pmF R i 4 := by
  obtain ⟨a1, a2, a3⟩ := mostF_le (H := H) (b := 32 * i) 32
  obtain ⟨b1, b2, b3⟩ := pmF_le (R := R) (i := i) 4
  have c := hV.2.2 i (by omega) hi
  apply Int.le_antisymm
  · rcases a3 with z | ⟨w, w1, w2⟩
    · omega
    · by_cases q : ∃ k, 0 ≤ k ∧ k < V.2.1 i ∧ V.2.2.1 i k = w
      · obtain ⟨k, k0, k1, k2⟩ := q
        rw [w2, ← k2, hw k k0 k1]
        have := b2 k.toNat (by omega)
        rwa [show ((k.toNat : Nat) : Int) = k by omega] at this
      · rw [w2, ho w (by omega) (by omega) (fun k k0 k1 z => q ⟨k, k0, k1, z⟩)]; exact b1
  · rcases b3 with z | ⟨k, k1, k2⟩
    · omega
    · by_cases q : (k : Int) < V.2.1 i
      · rw [k2, ← hw k (by omega) q]
        have d := c.2.2 k (by omega) q
        have := a2 (V.2.2.1 i k).toNat (by omega)
        rwa [show (((V.2.2.1 i k).toNat : Nat) : Int) = V.2.2.1 i k by omega] at this
      · rw [k2, hk k (by omega) (by omega)]; exact a1
theorem look_eq {V : Hv} (hV : WV V) {H R : Int → Int} {all : Int} (ha : 0 ≤ all) (hm : ∀ i : Nat, (i : Int) < V.1 → mostF H (32 * i) 32 = pmF R i 4) (hp : 0 < all → ∀ i : Nat, (i : Int) < V.1 → 0 < pmF R i 4) (h0 : ∀ i : Nat, V.1 ≤ (i : Int) → i < 8 → pmF R i 4 = 0) : (lookF H all V.1.toNat).1 = (pbF R all 8).1 := by
  have n0 := hV.1
  have n8 := hV.2.1
  have key : ∀ m : Nat, (m : Int) ≤ V.1 → lookF H all m = pbF R all m ∧ (pbF R all m).2 ≤ all := by
    intro m
    induction m with
    | zero => intro _; exact ⟨rfl, Int.le_refl _⟩
    | succ m ih =>
      intro h
      have a := ih (by omega)
      rw [lookF_s, pbF_s, a.1, hm m (by omega)]
      by_cases q : pmF R m 4 < (pbF R all m).2
      · have hq : 0 < all ∨ all = 0 := by omega
        have b := pmF_le (R := R) (i := m) 4
        rw [if_pos q, if_pos ⟨hp (by omega) m (by omega), q⟩]
        exact ⟨rfl, by simp only; omega⟩
      · rw [if_neg q, if_neg (fun z => q z.2)]; exact ⟨rfl, a.2⟩
  have key2 : ∀ d : Nat, V.1.toNat + d ≤ 8 → pbF R all (V.1.toNat + d) = pbF R all V.1.toNat := by
    intro d
    induction d with
    | zero => intro _; rfl
    | succ d ih =>
      intro h
      rw [← Nat.add_assoc, pbF_s, if_neg (fun z => by have := h0 (V.1.toNat + d) (by omega) (by omega); omega), ih (by omega)]
  rw [(key V.1.toNat (by omega)).1, ← key2 (8 - V.1.toNat) (by omega), show V.1.toNat + (8 - V.1.toNat) = 8 by omega]
