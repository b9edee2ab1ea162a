/-! ===== a Heard ===== -/
def cv (σ : Sg) (o : Nat) : Hv := (σ o 3, fun i => σ (o + 1) i, fun i k => σ (o + 2) (i * 4 + k), fun i k => σ (o + 3) (i * 4 + k))
theorem cv_n (σ : Sg) (o : Nat) : (cv σ o).1 = σ o 3 := rfl
theorem cv_c (σ : Sg) (o : Nat) (i : Int) : (cv σ o).2.1 i = σ (o + 1) i := rfl
theorem cv_w (σ : Sg) (o : Nat) (i k : Int) : (cv σ o).2.2.1 i k = σ (o + 2) (i * 4 + k) := rfl
theorem cv_q (σ : Sg) (o : Nat) (i k : Int) : (cv σ o).2.2.2 i k = σ (o + 3) (i * 4 + k) := rfl

set_option maxHeartbeats 4000000 in
set_option maxRecDepth 100000 in
theorem t_X2_isSlot {g : G} {σ : Sg} {o : Nat} (ho : Hd o) {s : Int} (rs : -2147483648 ≤ s ∧ s ≤ 2147483647) : MM g mX2_isSlot [.ref (g.2.2.1 o), vI s] σ (pB (pQ (0 ≤ s ∧ s < σ o 3) σ)) := by
  refine mm_of rfl (by decide) rfl rfl (Nat.le_of_ble_eq_true rfl) (fun x hO hR => ?_)
  refine z_iload_n hO 1 dX2_isSlot_0 rfl ?_
  refine z_if_lt hO 16 dX2_isSlot_1 (by decide) (by omega) (fun c1 => ?_) (fun c1 => ?_)
  ·
    refine z_iconst hO dX2_isSlot_16 ?_
    exact z_retQF hO hR dX2_isSlot_17 (by omega) rfl
  ·
    refine z_iload_n hO 1 dX2_isSlot_4 rfl ?_
    refine z_aload_n hO 0 dX2_isSlot_5 rfl ?_
    refine z_getI hO 3 fl_X2_41 ho.1 rfl rfl dX2_isSlot_6 (fun r6 => ?_)
    refine z_icmp_ge hO 16 dX2_isSlot_9 (by decide) (by omega) (by omega) (fun c9 => ?_) (fun c9 => ?_)
    ·
      refine z_iconst hO dX2_isSlot_16 ?_
      exact z_retQF hO hR dX2_isSlot_17 (by omega) rfl
    ·
      refine z_iconst hO dX2_isSlot_12 ?_
      refine z_goto hO 17 dX2_isSlot_13 (by decide) ?_
      exact z_retQT hO hR dX2_isSlot_17 (by omega) rfl

/-- where a word stands in a slot: the first place, or -1 -/
def fnQ (V : Hv) (s w r : Int) : Prop := (r = -1 ∧ ∀ k, 0 ≤ k → k < V.2.1 s → V.2.2.1 s k ≠ w) ∨ (0 ≤ r ∧ r < V.2.1 s ∧ V.2.2.1 s r = w ∧ ∀ k, 0 ≤ k → k < r → V.2.2.1 s k ≠ w)

set_option maxHeartbeats 4000000 in
set_option maxRecDepth 100000 in
theorem lp_find {g : G} {x : Cx} {σ : Sg} {o : Nat} (ho : Hd o) {s w : Int} {P : Int → Sg → Prop} (hO : Ok g x RX2 cX2_find 4 2) (hR : Rt g x (some .int) (pI P)) (hs : 0 ≤ s ∧ s ≤ 7) (hc : 0 ≤ σ (o + 1) s ∧ σ (o + 1) s ≤ 4) (rw : -2147483648 ≤ w ∧ w ≤ 2147483647) (hP : ∀ r, fnQ (cv σ o) s w r → P r σ) : ∀ (k i : Nat), (i : Int) ≤ σ (o + 1) s → σ (o + 1) s - i < k → (∀ k : Int, 0 ≤ k → k < i → σ (o + 2) (s * 4 + k) ≠ w) → Z g x 4 12 [(0, .ref (g.2.2.1 o)), (1, vI s), (2, vI w), (3, vI i)] [] σ := by
  intro k
  induction k with
  | zero => intro i h0 hk; exact absurd hk (by omega)
  | succ k ih =>
    intro i h0 hk hq
    refine z_iload_n hO 3 dX2_find_12 rfl ?_
    refine z_aload_n hO 0 dX2_find_13 rfl ?_
    refine z_getR hO (o + 1) fl_X2_9 ho.1 rfl dX2_find_14 ?_
    refine z_iload_n hO 1 dX2_find_17 rfl ?_
    refine z_iald hO ho.2.1 (by omega) (by decide) dX2_find_18 (fun r18 => ?_)
    refine z_icmp_ge hO 44 dX2_find_19 (by decide) (by omega) (by omega) (fun c19 => ?_) (fun c19 => ?_)
    ·
      refine z_iconst hO dX2_find_44 ?_
      exact z_retI hO hR dX2_find_45 (hP (-1) (Or.inl ⟨rfl, fun k k0 k1 => hq k k0 (by rw [cv_c] at k1; omega)⟩))
    ·
      refine z_aload_n hO 0 dX2_find_22 rfl ?_
      refine z_getR hO (o + 2) fl_X2_15 ho.1 rfl dX2_find_23 ?_
      refine z_iload_n hO 1 dX2_find_26 rfl ?_
      refine z_iconst hO dX2_find_27 ?_
      refine z_imul hO dX2_find_28 ?_
      refine z_iload_n hO 3 dX2_find_29 rfl ?_
      refine z_iadd hO dX2_find_30 ?_
      refine z_iald hO ho.2.2.1 (by omega) (by decide) dX2_find_31 (fun r31 => ?_)
      refine z_iload_n hO 2 dX2_find_32 rfl ?_
      refine z_icmp_ne hO 38 dX2_find_33 (by decide) (by omega) (by omega) (fun c33 => ?_) (fun c33 => ?_)
      ·
        refine z_iinc hO (L' := [(3, _), (0, _), (1, _), (2, _)]) 3 dX2_find_38 rfl (by decide) rfl ?_
        refine z_goto hO 12 dX2_find_41 (by decide) ?_
        exact z_pick [1, 2, 3, 0] rfl (ih (i + 1) (by omega) (by omega) (fun k k0 k1 => by by_cases e : k = i; (subst e; omega); exact hq k k0 (by omega)))
      ·
        refine z_iload_n hO 3 dX2_find_36 rfl ?_
        exact z_retI hO hR dX2_find_37 (hP i (Or.inr ⟨by omega, by rw [cv_c]; omega, by rw [cv_w]; omega, fun k k0 k1 => hq k k0 k1⟩))

set_option maxHeartbeats 4000000 in
set_option maxRecDepth 100000 in
theorem t_X2_find {g : G} {σ : Sg} {o : Nat} (ho : Hd o) {s w : Int} (rs : -2147483648 ≤ s ∧ s ≤ 2147483647) (rw : -2147483648 ≤ w ∧ w ≤ 2147483647) (hn : σ o 3 ≤ 8) (hc : ∀ i, 0 ≤ i → i < σ o 3 → 0 ≤ σ (o + 1) i ∧ σ (o + 1) i ≤ 4) : MM g mX2_find [.ref (g.2.2.1 o), vI s, vI w] σ (pI (fun r σ' => ((¬ (0 ≤ s ∧ s < σ o 3) ∧ r = -1) ∨ ((0 ≤ s ∧ s < σ o 3) ∧ fnQ (cv σ o) s w r)) ∧ σ' = σ)) := by
  refine mm_of rfl (by decide) rfl rfl (Nat.le_of_ble_eq_true rfl) (fun x hO hR => ?_)
  refine z_aload_n hO 0 dX2_find_0 rfl ?_
  refine z_iload_n hO 1 dX2_find_1 rfl ?_
  refine z_cvQ hO (t_X2_isSlot ho (by omega)) cv_X2_44 ho.1 rfl rfl rfl (by decide) (Nat.le_of_ble_eq_true rfl) dX2_find_2 (fun c2 => ?_) (fun c2 => ?_)
  ·
    refine z_if_ne hO 10 dX2_find_5 (by decide) (by decide) (fun c5 => ?_) (fun c5 => absurd c5 (by omega))
    refine z_iconst hO dX2_find_10 ?_
    refine z_istore_n hO (L' := [(3, _), (0, _), (1, _), (2, _)]) dX2_find_11 (by decide) rfl ?_
    exact z_pick [1, 2, 3, 0] rfl (lp_find ho hO hR (by omega) (hc s (by omega) (by omega)) rw (fun r q => ⟨Or.inr ⟨by omega, q⟩, rfl⟩) 5 0 (by have := hc s (by omega) (by omega); omega) (by have := hc s (by omega) (by omega); omega) (fun k k0 k1 => absurd k1 (by omega)))
  ·
    refine z_if_ne hO 10 dX2_find_5 (by decide) (by decide) (fun c5 => absurd c5 (by omega)) (fun c5 => ?_)
    refine z_iconst hO dX2_find_8 ?_
    exact z_retI hO hR dX2_find_9 (⟨Or.inl ⟨by omega, rfl⟩, rfl⟩)

set_option maxHeartbeats 4000000 in
set_option maxRecDepth 100000 in
theorem lp_candidates {g : G} {x : Cx} {σ : Sg} {o : Nat} (ho : Hd o) (hO : Ok g x RX2 cX2_candidates 3 1) (hR : Rt g x (some .int) (pI (pE (cntA (cv σ o) (σ o 3).toNat) σ))) (hV : WV (cv σ o)) : ∀ (k i : Nat) (v : Int), (i : Int) ≤ σ o 3 → σ o 3 - i < k → v = cntA (cv σ o) i → Z g x 3 4 [(0, .ref (g.2.2.1 o)), (1, vI v), (2, vI i)] [] σ := by
  have hn0 := hV.1
  have hn8 := hV.2.1
  rw [cv_n] at hn0 hn8
  intro k
  induction k with
  | zero => intro i v h0 hk; exact absurd hk (by omega)
  | succ k ih =>
    intro i v h0 hk hv
    have hcr := cntA_r hV i (show (i : Int) ≤ σ o 3 by omega)
    refine z_iload_n hO 2 dX2_candidates_4 rfl ?_
    refine z_aload_n hO 0 dX2_candidates_5 rfl ?_
    refine z_getI hO 3 fl_X2_41 ho.1 rfl rfl dX2_candidates_6 (fun r6 => ?_)
    refine z_icmp_ge hO 27 dX2_candidates_9 (by decide) (by omega) (by omega) (fun c9 => ?_) (fun c9 => ?_)
    ·
      have hi3 : i = (σ o 3).toNat := by omega
      subst hi3
      refine z_iload_n hO 1 dX2_candidates_27 rfl ?_
      exact z_retE hO hR dX2_candidates_28 (hv) rfl
    ·
      have hci := hV.2.2 i (by omega) (show (i : Int) < σ o 3 by omega)
      rw [cv_c] at hci
      refine z_iload_n hO 1 dX2_candidates_12 rfl ?_
      refine z_aload_n hO 0 dX2_candidates_13 rfl ?_
      refine z_getR hO (o + 1) fl_X2_9 ho.1 rfl dX2_candidates_14 ?_
      refine z_iload_n hO 2 dX2_candidates_17 rfl ?_
      refine z_iald hO ho.2.1 (by omega) (by decide) dX2_candidates_18 (fun r18 => ?_)
      refine z_iadd hO dX2_candidates_19 ?_
      refine z_istore_n hO (L' := [(1, _), (0, _), (2, _)]) dX2_candidates_20 (by decide) rfl ?_
      refine z_iinc hO (L' := [(2, _), (1, _), (0, _)]) 2 dX2_candidates_21 rfl (by decide) rfl ?_
      refine z_goto hO 4 dX2_candidates_24 (by decide) ?_
      exact z_pick [2, 1, 0] rfl (ih (i + 1) _ (by omega) (by omega) (by rw [cntA_s, cv_c, ← hv]))

set_option maxHeartbeats 4000000 in
set_option maxRecDepth 100000 in
theorem t_X2_candidates {g : G} {σ : Sg} {o : Nat} (ho : Hd o) (hV : WV (cv σ o)) : MM g mX2_candidates [.ref (g.2.2.1 o)] σ (pI (pE (cntA (cv σ o) (σ o 3).toNat) σ)) := by
  refine mm_of rfl (by decide) rfl rfl (Nat.le_of_ble_eq_true rfl) (fun x hO hR => ?_)
  refine z_iconst hO dX2_candidates_0 ?_
  refine z_istore_n hO (L' := [(1, _), (0, _)]) dX2_candidates_1 (by decide) rfl ?_
  refine z_iconst hO dX2_candidates_2 ?_
  refine z_istore_n hO (L' := [(2, _), (1, _), (0, _)]) dX2_candidates_3 (by decide) rfl ?_
  exact z_pick [2, 1, 0] rfl (lp_candidates ho hO hR hV 9 0 0 (by have := hV.1; rw [cv_n] at this; omega) (by have := hV.2.1; rw [cv_n] at this; omega) rfl)

set_option maxHeartbeats 4000000 in
set_option maxRecDepth 100000 in
theorem t_X2_isLastFull {g : G} {σ : Sg} {o : Nat} (ho : Hd o) (hn : 0 ≤ σ o 3 ∧ σ o 3 ≤ 8) : MM g mX2_isLastFull [.ref (g.2.2.1 o)] σ (pB (pQ (0 < σ o 3 ∧ 4 ≤ σ (o + 1) (σ o 3 - 1)) σ)) := by
  refine mm_of rfl (by decide) rfl rfl (Nat.le_of_ble_eq_true rfl) (fun x hO hR => ?_)
  refine z_aload_n hO 0 dX2_isLastFull_0 rfl ?_
  refine z_getI hO 3 fl_X2_41 ho.1 rfl rfl dX2_isLastFull_1 (fun r1 => ?_)
  refine z_if_le hO 26 dX2_isLastFull_4 (by decide) (by omega) (fun c4 => ?_) (fun c4 => ?_)
  ·
    refine z_iconst hO dX2_isLastFull_26 ?_
    exact z_retQF hO hR dX2_isLastFull_27 (by omega) rfl
  ·
    refine z_aload_n hO 0 dX2_isLastFull_7 rfl ?_
    refine z_getR hO (o + 1) fl_X2_9 ho.1 rfl dX2_isLastFull_8 ?_
    refine z_aload_n hO 0 dX2_isLastFull_11 rfl ?_
    refine z_getI hO 3 fl_X2_41 ho.1 rfl rfl dX2_isLastFull_12 (fun r12 => ?_)
    refine z_iconst hO dX2_isLastFull_15 ?_
    refine z_isub hO dX2_isLastFull_16 ?_
    refine z_iald hO ho.2.1 (by omega) (by decide) dX2_isLastFull_17 (fun r17 => ?_)
    refine z_iconst hO dX2_isLastFull_18 ?_
    refine z_icmp_lt hO 26 dX2_isLastFull_19 (by decide) (by omega) (by decide) (fun c19 => ?_) (fun c19 => ?_)
    ·
      refine z_iconst hO dX2_isLastFull_26 ?_
      exact z_retQF hO hR dX2_isLastFull_27 (by omega) rfl
    ·
      refine z_iconst hO dX2_isLastFull_22 ?_
      refine z_goto hO 27 dX2_isLastFull_23 (by decide) ?_
      exact z_retQT hO hR dX2_isLastFull_27 (by omega) rfl

def widS (σ : Sg) (o : Nat) (s w q : Int) : Sg := up (up (up σ (o + 2) (s * 4 + σ (o + 1) s) w) (o + 3) (s * 4 + σ (o + 1) s) q) (o + 1) s (σ (o + 1) s + 1)

set_option maxHeartbeats 4000000 in
set_option maxRecDepth 100000 in
theorem t_X2_widen {g : G} {σ : Sg} {o : Nat} (ho : Hd o) {s w q : Int} (rs : -2147483648 ≤ s ∧ s ≤ 2147483647) (hw : -2147483648 ≤ w ∧ w ≤ 2147483647) (hq : -2147483648 ≤ q ∧ q ≤ 2147483647) (hn : σ o 3 ≤ 8) (hc : ∀ i, 0 ≤ i → i < σ o 3 → 0 ≤ σ (o + 1) i ∧ σ (o + 1) i ≤ 4) : MM g mX2_widen [.ref (g.2.2.1 o), vI s, vI w, vI q] σ (pB (fun b σ' => (b = true → (0 ≤ s ∧ s < σ o 3 ∧ σ (o + 1) s < 4) ∧ σ' = widS σ o s w q) ∧ (b = false → ¬ (0 ≤ s ∧ s < σ o 3 ∧ σ (o + 1) s < 4) ∧ σ' = σ))) := by
  refine mm_of rfl (by decide) rfl rfl (Nat.le_of_ble_eq_true rfl) (fun x hO hR => ?_)
  refine z_aload_n hO 0 dX2_widen_0 rfl ?_
  refine z_iload_n hO 1 dX2_widen_1 rfl ?_
  refine z_cvQ hO (t_X2_isSlot ho (by omega)) cv_X2_44 ho.1 rfl rfl rfl (by decide) (Nat.le_of_ble_eq_true rfl) dX2_widen_2 (fun c2 => ?_) (fun c2 => ?_)
  ·
    have hcs := hc s (by omega) (by omega)
    refine z_if_eq hO 18 dX2_widen_5 (by decide) (by decide) (fun c5 => absurd c5 (by omega)) (fun c5 => ?_)
    refine z_aload_n hO 0 dX2_widen_8 rfl ?_
    refine z_getR hO (o + 1) fl_X2_9 ho.1 rfl dX2_widen_9 ?_
    refine z_iload_n hO 1 dX2_widen_12 rfl ?_
    refine z_iald hO ho.2.1 (by omega) (by decide) dX2_widen_13 (fun r13 => ?_)
    refine z_iconst hO dX2_widen_14 ?_
    refine z_icmp_lt hO 20 dX2_widen_15 (by decide) (by omega) (by decide) (fun c15 => ?_) (fun c15 => ?_)
    ·
      refine z_iload_n hO 1 dX2_widen_20 rfl ?_
      refine z_iconst hO dX2_widen_21 ?_
      refine z_imul hO dX2_widen_22 ?_
      refine z_aload_n hO 0 dX2_widen_23 rfl ?_
      refine z_getR hO (o + 1) fl_X2_9 ho.1 rfl dX2_widen_24 ?_
      refine z_iload_n hO 1 dX2_widen_27 rfl ?_
      refine z_iald hO ho.2.1 (by omega) (by decide) dX2_widen_28 (fun r28 => ?_)
      refine z_iadd hO dX2_widen_29 ?_
      refine z_istore hO (L' := [(4, _), (0, _), (1, _), (2, _), (3, _)]) dX2_widen_30 (by decide) rfl ?_
      refine z_aload_n hO 1 dX2_widen_32 rfl ?_
      refine z_getR hO (o + 2) fl_X2_15 ho.1 rfl dX2_widen_33 ?_
      refine z_iload hO 0 dX2_widen_36 rfl ?_
      refine z_iload_n hO 3 dX2_widen_38 rfl ?_
      refine z_iast hO ho.2.2.1 (by omega) (by decide) (by omega) dX2_widen_39 ?_
      refine z_aload_n hO 1 dX2_widen_40 rfl ?_
      refine z_getR hO (o + 3) fl_X2_18 ho.1 rfl dX2_widen_41 ?_
      refine z_iload hO 0 dX2_widen_44 rfl ?_
      refine z_iload_n hO 4 dX2_widen_46 rfl ?_
      refine z_iast hO ho.2.2.2 (by omega) (by decide) (by omega) dX2_widen_47 ?_
      refine z_aload_n hO 1 dX2_widen_48 rfl ?_
      refine z_getR hO (o + 1) fl_X2_9 ho.1 rfl dX2_widen_49 ?_
      refine z_iload_n hO 2 dX2_widen_52 rfl ?_
      refine z_dup2 hO dX2_widen_53 rfl rfl ?_
      refine z_iald hO ho.2.1 (by omega) (by decide) dX2_widen_54 (fun r54 => ?_)
      try simp (disch := omega) only [fl_row_ne, fl_ne, up_row_ne, up_ne, up_eq, up_nk, up_up, up_self, ne_eq, Nat.reduceEqDiff, Int.reduceEq, reduceCtorEq, not_false_eq_true, not_true_eq_false] at r54 ⊢
      refine z_iconst hO dX2_widen_55 ?_
      refine z_iadd hO dX2_widen_56 ?_
      refine z_iast hO ho.2.1 (by omega) (by decide) (by omega) dX2_widen_57 ?_
      refine z_iconst hO dX2_widen_58 ?_
      exact z_retT hO hR dX2_widen_59 (⟨fun _ => ⟨by omega, rfl⟩, fun z => absurd z (by decide)⟩)
    ·
      refine z_iconst hO dX2_widen_18 ?_
      exact z_retF hO hR dX2_widen_19 (⟨fun z => absurd z (by decide), fun _ => ⟨by omega, rfl⟩⟩)
  ·
    refine z_if_eq hO 18 dX2_widen_5 (by decide) (by decide) (fun c5 => ?_) (fun c5 => absurd c5 (by omega))
    refine z_iconst hO dX2_widen_18 ?_
    exact z_retF hO hR dX2_widen_19 (⟨fun z => absurd z (by decide), fun _ => ⟨by omega, rfl⟩⟩)

def groS (σ : Sg) (o : Nat) (w q : Int) : Sg := widS (up (up σ (o + 1) (σ o 3) 0) o 3 (σ o 3 + 1)) o (σ o 3) w q

set_option maxHeartbeats 4000000 in
set_option maxRecDepth 100000 in
theorem t_X2_grow {g : G} {σ : Sg} {o : Nat} (ho : Hd o) {w q : Int} (hw : -2147483648 ≤ w ∧ w ≤ 2147483647) (hq : -2147483648 ≤ q ∧ q ≤ 2147483647) (hn : 0 ≤ σ o 3 ∧ σ o 3 ≤ 8) (hc : ∀ i, 0 ≤ i → i < σ o 3 → 0 ≤ σ (o + 1) i ∧ σ (o + 1) i ≤ 4) : MM g mX2_grow [.ref (g.2.2.1 o), vI w, vI q] σ (pB (fun b σ' => (b = true → σ o 3 < 8 ∧ σ' = groS σ o w q) ∧ (b = false → σ o 3 = 8 ∧ σ' = σ))) := by
  refine mm_of rfl (by decide) rfl rfl (Nat.le_of_ble_eq_true rfl) (fun x hO hR => ?_)
  refine z_aload_n hO 0 dX2_grow_0 rfl ?_
  refine z_getI hO 3 fl_X2_41 ho.1 rfl rfl dX2_grow_1 (fun r1 => ?_)
  refine z_bipush hO dX2_grow_4 (by decide) ?_
  refine z_icmp_lt hO 11 dX2_grow_6 (by decide) (by omega) (by decide) (fun c6 => ?_) (fun c6 => ?_)
  ·
    refine z_aload_n hO 0 dX2_grow_11 rfl ?_
    refine z_getR hO (o + 1) fl_X2_9 ho.1 rfl dX2_grow_12 ?_
    refine z_aload_n hO 0 dX2_grow_15 rfl ?_
    refine z_getI hO 3 fl_X2_41 ho.1 rfl rfl dX2_grow_16 (fun r16 => ?_)
    refine z_iconst hO dX2_grow_19 ?_
    refine z_iast hO ho.2.1 (by omega) (by decide) (by omega) dX2_grow_20 ?_
    refine z_aload_n hO 0 dX2_grow_21 rfl ?_
    refine z_dup hO dX2_grow_22 rfl ?_
    refine z_getI hO 3 fl_X2_41 ho.1 rfl rfl dX2_grow_23 (fun r23 => ?_)
    try simp (disch := omega) only [fl_row_ne, fl_ne, up_row_ne, up_ne, up_eq, up_nk, up_up, up_self, ne_eq, Nat.reduceEqDiff, Int.reduceEq, reduceCtorEq, not_false_eq_true, not_true_eq_false] at r23 ⊢
    refine z_iconst hO dX2_grow_26 ?_
    refine z_iadd hO dX2_grow_27 ?_
    refine z_putI hO 3 fp_X2_41 ho.1 rfl rfl (by omega) rfl rfl dX2_grow_28 ?_
    refine z_aload_n hO 0 dX2_grow_31 rfl ?_
    refine z_aload_n hO 0 dX2_grow_32 rfl ?_
    refine z_getI hO 3 fl_X2_41 ho.1 rfl rfl dX2_grow_33 (fun r33 => ?_)
    try simp (disch := omega) only [fl_row_ne, fl_ne, up_row_ne, up_ne, up_eq, up_nk, up_up, up_self, ne_eq, Nat.reduceEqDiff, Int.reduceEq, reduceCtorEq, not_false_eq_true, not_true_eq_false] at r33 ⊢
    refine z_iconst hO dX2_grow_36 ?_
    refine z_isub hO dX2_grow_37 ?_
    rw [show σ o 3 + 1 - 1 = σ o 3 by omega]
    refine z_iload_n hO 1 dX2_grow_38 rfl ?_
    refine z_iload_n hO 2 dX2_grow_39 rfl ?_
    refine z_cvB hO (t_X2_widen ho (s := σ o 3) (by omega) hw hq (by simp (disch := omega) only [fl_row_ne, fl_ne, up_row_ne, up_ne, up_eq, up_nk, up_up, up_self, ne_eq, Nat.reduceEqDiff, Int.reduceEq, reduceCtorEq, not_false_eq_true, not_true_eq_false]; omega) (fun i i0 i1 => by simp (disch := omega) only [fl_row_ne, fl_ne, up_row_ne, up_ne, up_eq, up_nk, up_up, up_self, ne_eq, Nat.reduceEqDiff, Int.reduceEq, reduceCtorEq, not_false_eq_true, not_true_eq_false] at i1 ⊢; by_cases e : i = σ o 3; (subst e; rw [up_eq]; omega); (rw [up_nk e]; exact hc i i0 (by omega)))) cv_X2_48 ho.1 rfl rfl rfl (by decide) (Nat.le_of_ble_eq_true rfl) dX2_grow_40 (fun s40 p40 => ?_) (fun s40 p40 => ?_)
    ·
      obtain ⟨-, e40⟩ := p40.1 rfl
      exact z_retT hO hR dX2_grow_43 (⟨fun _ => ⟨by omega, e40⟩, fun z => absurd z (by decide)⟩)
    ·
      exfalso; exact (p40.2 rfl).1 ⟨by omega, by simp (disch := omega) only [fl_row_ne, fl_ne, up_row_ne, up_ne, up_eq, up_nk, up_up, up_self, ne_eq, Nat.reduceEqDiff, Int.reduceEq, reduceCtorEq, not_false_eq_true, not_true_eq_false]; omega, by simp (disch := omega) only [fl_row_ne, fl_ne, up_row_ne, up_ne, up_eq, up_nk, up_up, up_self, ne_eq, Nat.reduceEqDiff, Int.reduceEq, reduceCtorEq, not_false_eq_true, not_true_eq_false]; omega⟩
  ·
    refine z_iconst hO dX2_grow_9 ?_
    exact z_retF hO hR dX2_grow_10 (⟨fun z => absurd z (by decide), fun _ => ⟨by omega, rfl⟩⟩)
