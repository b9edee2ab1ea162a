set_option maxHeartbeats 4000000 in
set_option maxRecDepth 100000 in
theorem t_X4_tensWord {g : G} {σ : Sg} {v : Int} (hv : 0 ≤ v ∧ v ≤ 99) : MM g mX4_tensWord [vI v] σ (pI (pE (18 + v / 10) σ)) := by
  refine mm_of rfl (by decide) rfl rfl (Nat.le_of_ble_eq_true rfl) (fun x hO hR => ?_)
  refine z_bipush hO dX4_tensWord_0 (by decide) ?_
  refine z_iload_n hO 0 dX4_tensWord_2 rfl ?_
  refine z_bipush hO dX4_tensWord_3 (by decide) ?_
  refine z_idiv hO dX4_tensWord_5 (by omega) (by omega) ?_
  refine z_iadd hO dX4_tensWord_6 ?_
  exact z_retE hO hR dX4_tensWord_7 (by omega) rfl

set_option maxHeartbeats 4000000 in
set_option maxRecDepth 100000 in
theorem t_X4_isDigit {g : G} {σ : Sg} {l : Int} (rl : -2147483648 ≤ l ∧ l ≤ 2147483647) : MM g mX4_isDigit [vI l] σ (pB (pQ (48 ≤ l ∧ l ≤ 57) σ)) := by
  refine mm_of rfl (by decide) rfl rfl (Nat.le_of_ble_eq_true rfl) (fun x hO hR => ?_)
  refine z_iload_n hO 0 dX4_isDigit_0 rfl ?_
  refine z_bipush hO dX4_isDigit_1 (by decide) ?_
  refine z_icmp_lt hO 16 dX4_isDigit_3 (by decide) (by omega) (by decide) (fun c3 => ?_) (fun c3 => ?_)
  ·
    refine z_iconst hO dX4_isDigit_16 ?_
    exact z_retQF hO hR dX4_isDigit_17 (by omega) rfl
  ·
    refine z_iload_n hO 0 dX4_isDigit_6 rfl ?_
    refine z_bipush hO dX4_isDigit_7 (by decide) ?_
    refine z_icmp_gt hO 16 dX4_isDigit_9 (by decide) (by omega) (by decide) (fun c9 => ?_) (fun c9 => ?_)
    ·
      refine z_iconst hO dX4_isDigit_16 ?_
      exact z_retQF hO hR dX4_isDigit_17 (by omega) rfl
    ·
      refine z_iconst hO dX4_isDigit_12 ?_
      refine z_goto hO 17 dX4_isDigit_13 (by decide) ?_
      exact z_retQT hO hR dX4_isDigit_17 (by omega) rfl

set_option maxHeartbeats 4000000 in
set_option maxRecDepth 100000 in
theorem t_X4_write {g : G} {σ : Sg} {l : Int} (hl : 0 ≤ l ∧ l < 65536) (hn : 0 ≤ σ 81 1 ∧ σ 81 1 ≤ 120) : MM g mX4_write [.ref (g.2.2.1 81), vI l] σ (pB (fun b σ' => (b = true → σ 81 1 < 120 ∧ σ' = up (up σ 82 (σ 81 1) l) 81 1 (σ 81 1 + 1)) ∧ (b = false → σ 81 1 = 120 ∧ σ' = σ))) := by
  refine mm_of rfl (by decide) rfl rfl (Nat.le_of_ble_eq_true rfl) (fun x hO hR => ?_)
  refine z_aload_n hO 0 dX4_write_0 rfl ?_
  refine z_getI hO 1 fl_X4_15 rfl rfl rfl dX4_write_1 (fun r1 => ?_)
  refine z_bipush hO dX4_write_4 (by decide) ?_
  refine z_icmp_lt hO 11 dX4_write_6 (by decide) (by omega) (by decide) (fun c6 => ?_) (fun c6 => ?_)
  ·
    refine z_aload_n hO 0 dX4_write_11 rfl ?_
    refine z_getR hO (82) fl_X4_9 rfl rfl dX4_write_12 ?_
    refine z_aload_n hO 0 dX4_write_15 rfl ?_
    refine z_getI hO 1 fl_X4_15 rfl rfl rfl dX4_write_16 (fun r16 => ?_)
    refine z_iload_n hO 1 dX4_write_19 rfl ?_
    refine z_cast hO rfl (by omega) (by decide) (by omega) dX4_write_20 ?_
    refine z_aload_n hO 0 dX4_write_21 rfl ?_
    refine z_dup hO dX4_write_22 rfl ?_
    refine z_getI hO 1 fl_X4_15 rfl rfl rfl dX4_write_23 (fun r23 => ?_)
    try simp only [fl_row_ne, fl_ne, up_row_ne, up_ne, up_eq, up_nk, up_up, up_self, ne_eq, Nat.reduceEqDiff, Int.reduceEq, reduceCtorEq, not_false_eq_true, not_true_eq_false] at r23 ⊢
    refine z_iconst hO dX4_write_26 ?_
    refine z_iadd hO dX4_write_27 ?_
    refine z_putI hO 1 fp_X4_15 rfl rfl rfl (by omega) rfl rfl dX4_write_28 ?_
    refine z_iconst hO dX4_write_31 ?_
    exact z_retT hO hR dX4_write_32 (by first | exact ⟨fun z => absurd z (by decide), fun _ => ⟨by omega, rfl⟩⟩ | exact ⟨fun _ => ⟨by omega, rfl⟩, fun z => absurd z (by decide)⟩)
  ·
    refine z_iconst hO dX4_write_9 ?_
    exact z_retF hO hR dX4_write_10 (by first | exact ⟨fun z => absurd z (by decide), fun _ => ⟨by omega, rfl⟩⟩ | exact ⟨fun _ => ⟨by omega, rfl⟩, fun z => absurd z (by decide)⟩)

set_option maxHeartbeats 4000000 in
set_option maxRecDepth 100000 in
theorem lp_isAtEnd {g : G} {x : Cx} {P : Bool → Sg → Prop} (hO : Ok g x RX4 cX4_isAtEnd 1 1) (hR : Rt g x (some .boolean) (pB P)) : ∀ (k : Nat) (τ : Sg), TW (τ 82) (τ 81 1) → (0 ≤ (τ 81 2) ∧ (τ 81 2) ≤ (τ 81 1)) → (τ 81 1) - (τ 81 2) < k → ((τ 81 1) ≤ (sk (τ 82) (τ 81 1) (τ 81 2)) → P true (up τ 81 2 (sk (τ 82) (τ 81 1) (τ 81 2)))) → ((sk (τ 82) (τ 81 1) (τ 81 2)) < (τ 81 1) → P false (up τ 81 2 (sk (τ 82) (τ 81 1) (τ 81 2)))) → Z g x 1 0 [(0, .ref (g.2.2.1 81))] [] τ := by
  intro k
  induction k with
  | zero => intro τ hT hp hk; exact absurd hk (by omega)
  | succ k ih =>
    intro τ hT hp hk hP1 hP2
    refine z_aload_n hO 0 dX4_isAtEnd_0 rfl ?_
    refine z_getI hO 2 fl_X4_24 rfl rfl rfl dX4_isAtEnd_1 (fun r1 => ?_)
    refine z_aload_n hO 0 dX4_isAtEnd_4 rfl ?_
    refine z_getI hO 1 fl_X4_15 rfl rfl rfl dX4_isAtEnd_5 (fun r5 => ?_)
    refine z_icmp_ge hO 38 dX4_isAtEnd_8 (by decide) (by omega) (by omega) (fun c8 => ?_) (fun c8 => ?_)
    ·
      refine z_aload_n hO 0 dX4_isAtEnd_38 rfl ?_
      refine z_getI hO 2 fl_X4_24 rfl rfl rfl dX4_isAtEnd_39 (fun r39 => ?_)
      refine z_aload_n hO 0 dX4_isAtEnd_42 rfl ?_
      refine z_getI hO 1 fl_X4_15 rfl rfl rfl dX4_isAtEnd_43 (fun r43 => ?_)
      refine z_icmp_lt hO 53 dX4_isAtEnd_46 (by decide) (by omega) (by omega) (fun c46 => ?_) (fun c46 => ?_)
      ·
        refine z_iconst hO dX4_isAtEnd_53 ?_
        exact z_retF hO hR dX4_isAtEnd_54 (by have e := sk_f (t := τ 82) (n := τ 81 1) (i := τ 81 2) (by omega); rw [e, up_self] at hP1 hP2; first | exact hP1 (by omega) | exact hP2 (by omega))
      ·
        refine z_iconst hO dX4_isAtEnd_49 ?_
        refine z_goto hO 54 dX4_isAtEnd_50 (by decide) ?_
        exact z_retT hO hR dX4_isAtEnd_54 (by have e := sk_f (t := τ 82) (n := τ 81 1) (i := τ 81 2) (by omega); rw [e, up_self] at hP1 hP2; first | exact hP1 (by omega) | exact hP2 (by omega))
    ·
      refine z_aload_n hO 0 dX4_isAtEnd_11 rfl ?_
      refine z_getR hO (82) fl_X4_9 rfl rfl dX4_isAtEnd_12 ?_
      refine z_aload_n hO 0 dX4_isAtEnd_15 rfl ?_
      refine z_getI hO 2 fl_X4_24 rfl rfl rfl dX4_isAtEnd_16 (fun r16 => ?_)
      refine z_cald hO rfl (by have := hT.1; omega) (by decide) dX4_isAtEnd_19 (fun r19 => ?_)
      refine z_bipush hO dX4_isAtEnd_20 (by decide) ?_
      refine z_icmp_ne hO 38 dX4_isAtEnd_22 (by decide) (by omega) (by decide) (fun c22 => ?_) (fun c22 => ?_)
      ·
        refine z_aload_n hO 0 dX4_isAtEnd_38 rfl ?_
        refine z_getI hO 2 fl_X4_24 rfl rfl rfl dX4_isAtEnd_39 (fun r39 => ?_)
        refine z_aload_n hO 0 dX4_isAtEnd_42 rfl ?_
        refine z_getI hO 1 fl_X4_15 rfl rfl rfl dX4_isAtEnd_43 (fun r43 => ?_)
        refine z_icmp_lt hO 53 dX4_isAtEnd_46 (by decide) (by omega) (by omega) (fun c46 => ?_) (fun c46 => ?_)
        ·
          refine z_iconst hO dX4_isAtEnd_53 ?_
          exact z_retF hO hR dX4_isAtEnd_54 (by have e := sk_f (t := τ 82) (n := τ 81 1) (i := τ 81 2) (by omega); rw [e, up_self] at hP1 hP2; first | exact hP1 (by omega) | exact hP2 (by omega))
        ·
          refine z_iconst hO dX4_isAtEnd_49 ?_
          refine z_goto hO 54 dX4_isAtEnd_50 (by decide) ?_
          exact z_retT hO hR dX4_isAtEnd_54 (by have e := sk_f (t := τ 82) (n := τ 81 1) (i := τ 81 2) (by omega); rw [e, up_self] at hP1 hP2; first | exact hP1 (by omega) | exact hP2 (by omega))
      ·
        refine z_aload_n hO 0 dX4_isAtEnd_25 rfl ?_
        refine z_dup hO dX4_isAtEnd_26 rfl ?_
        refine z_getI hO 2 fl_X4_24 rfl rfl rfl dX4_isAtEnd_27 (fun r27 => ?_)
        refine z_iconst hO dX4_isAtEnd_30 ?_
        refine z_iadd hO dX4_isAtEnd_31 ?_
        refine z_putI hO 2 fp_X4_24 rfl rfl rfl (by omega) rfl rfl dX4_isAtEnd_32 ?_
        refine z_goto hO 0 dX4_isAtEnd_35 (by decide) ?_
        have e := sk_t (t := τ 82) (n := τ 81 1) (i := τ 81 2) ⟨by omega, by omega⟩
        refine z_pick [0] rfl (ih _ (by simp only [fl_row_ne, fl_ne, up_row_ne, up_ne, up_eq, up_nk, up_up, up_self, ne_eq, Nat.reduceEqDiff, Int.reduceEq, reduceCtorEq, not_false_eq_true, not_true_eq_false]; exact hT) (by simp only [fl_row_ne, fl_ne, up_row_ne, up_ne, up_eq, up_nk, up_up, up_self, ne_eq, Nat.reduceEqDiff, Int.reduceEq, reduceCtorEq, not_false_eq_true, not_true_eq_false]; omega) (by simp only [fl_row_ne, fl_ne, up_row_ne, up_ne, up_eq, up_nk, up_up, up_self, ne_eq, Nat.reduceEqDiff, Int.reduceEq, reduceCtorEq, not_false_eq_true, not_true_eq_false]; omega) ?_ ?_)
        · simp only [fl_row_ne, fl_ne, up_row_ne, up_ne, up_eq, up_nk, up_up, up_self, ne_eq, Nat.reduceEqDiff, Int.reduceEq, reduceCtorEq, not_false_eq_true, not_true_eq_false]; rw [← e]; exact hP1
        · simp only [fl_row_ne, fl_ne, up_row_ne, up_ne, up_eq, up_nk, up_up, up_self, ne_eq, Nat.reduceEqDiff, Int.reduceEq, reduceCtorEq, not_false_eq_true, not_true_eq_false]; rw [← e]; exact hP2

theorem t_X4_isAtEnd {g : G} {σ : Sg} (hT : TW (σ 82) (σ 81 1)) (hp : 0 ≤ σ 81 2 ∧ σ 81 2 ≤ σ 81 1) : MM g mX4_isAtEnd [.ref (g.2.2.1 81)] σ (pB (fun b σ' => (b = true ↔ σ 81 1 ≤ (sk (σ 82) (σ 81 1) (σ 81 2))) ∧ σ' = up σ 81 2 (sk (σ 82) (σ 81 1) (σ 81 2)))) := by
  refine mm_of rfl (by decide) rfl rfl (Nat.le_of_ble_eq_true rfl) (fun x hO hR => ?_)
  exact lp_isAtEnd hO hR 121 σ hT hp (by have := hT.1; omega) (fun q => ⟨iff_of_true rfl q, rfl⟩) (fun q => ⟨iff_of_false (by decide) (by omega), rfl⟩)

def ltC (l : Int) : Int := if l = 104 then 28 else if l = 116 then 29 else if l = 97 then 30 else if l = 115 then 31 else if l = 110 then 0 else -1
