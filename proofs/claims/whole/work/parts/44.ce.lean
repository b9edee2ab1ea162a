set_option maxHeartbeats 4000000 in
set_option maxRecDepth 100000 in
theorem lp_renew {g : G} {x : Cx} {σ : Sg} {o : Nat} (ho : Sd o) (hO : Ok g x RX5 cX5_renew 4 1)  (hE : Z g x 4 31 [(0, .ref (g.2.2.1 o)), (3, vI (24))] [] (fl σ (o + 1) (0) (0 + (24 - 0)) (fun _ => 0))) : ∀ (k : Nat) (i : Int), 0 ≤ i → i ≤ 24 → 24 - i < k → Z g x 4 12 [(0, .ref (g.2.2.1 o)), (3, vI i)] [] (fl σ (o + 1) (0) (0 + (i - 0)) (fun _ => 0)) := by
  intro k
  induction k with
  | zero => intro i h0 h1 h2; exact absurd h2 (by omega)
  | succ k ih =>
    intro i h0 h1 h2
    refine z_iload_n hO 1 dX5_renew_12 rfl ?_
    refine z_bipush hO dX5_renew_13 (by decide) ?_
    refine z_icmp_ge hO 31 dX5_renew_15 (by decide) (by omega) (by decide) (fun c15 => ?_) (fun c15 => ?_)
    ·
      have ei : i = 24 := by omega
      rw [ei]
      exact z_pick [0, 1] rfl hE
    ·
      refine z_aload_n hO 0 dX5_renew_18 rfl ?_
      refine z_getR hO (o + 1) fl_X5_9 ho.1 rfl dX5_renew_19 ?_
      refine z_iload_n hO 1 dX5_renew_22 rfl ?_
      refine z_lconst hO 0 dX5_renew_23 (by decide) ?_
      refine z_last hO ho.2 (by omega) (by decide) (by omega) dX5_renew_24 ?_
      refine z_iinc hO (L' := [(3, _), (0, _)]) 1 dX5_renew_25 rfl (by decide) rfl ?_
      refine z_goto hO 12 dX5_renew_28 (by decide) ?_
      refine z_sg (fl_s (by omega) (by omega) (by first | rfl | (congr 1; omega) | (dsimp only; congr 1; omega) | (simp only []; omega)) (show 0 + (i + 1 - 0) = _ by omega)) ?_
      exact z_pick [1, 0] rfl (ih (i + 1) (by omega) (by omega) (by omega))

def renS (σ : Sg) (o : Nat) (lane n : Int) : Sg := fl (up (up σ o 1 lane) o 2 n) (o + 1) 0 (0 + (24 - 0)) (fun _ => 0)

set_option maxHeartbeats 4000000 in
set_option maxRecDepth 100000 in
theorem t_X5_renew {g : G} {σ : Sg} {o : Nat} (ho : Sd o) {lane n : Int} (rl : -2147483648 ≤ lane ∧ lane ≤ 2147483647) (rn : -2147483648 ≤ n ∧ n ≤ 2147483647) : MM g mX5_renew [.ref (g.2.2.1 o), vI lane, vI n] σ (pV (fun σ' => σ' = renS σ o lane n)) := by
  refine mm_of rfl (by decide) rfl rfl (Nat.le_of_ble_eq_true rfl) (fun x hO hR => ?_)
  refine z_aload_n hO 0 dX5_renew_0 rfl ?_
  refine z_iload_n hO 1 dX5_renew_1 rfl ?_
  refine z_putI hO 1 fp_X5_15 ho.1 rfl rfl (by omega) rfl rfl dX5_renew_2 ?_
  refine z_aload_n hO 0 dX5_renew_5 rfl ?_
  refine z_iload_n hO 2 dX5_renew_6 rfl ?_
  refine z_putI hO 2 fp_X5_19 ho.1 rfl rfl (by omega) rfl rfl dX5_renew_7 ?_
  refine z_iconst hO dX5_renew_10 ?_
  refine z_istore_n hO (L' := [(3, _), (0, _), (1, _), (2, _)]) dX5_renew_11 (by decide) rfl ?_
  refine z_sg (fl_0 (c := o + 1) (lo := 0) (hi := 0 + (0 - 0)) (f := fun _ => 0) (by omega)).symm ?_
  refine z_pick [1, 0] rfl (lp_renew ho hO ?_ 25 0 (by decide) (by decide) (by decide))
  exact z_retV hO hR dX5_renew_31 rfl

set_option maxHeartbeats 4000000 in
set_option maxRecDepth 100000 in
theorem lp_tells {g : G} {x : Cx} {σ : Sg} {o : Nat} (ho : Sd o) {i n m : Int} (hO : Ok g x RX5 cX5_tells 6 2) (hR : Rt g x (some .boolean) (pB (pQ (m = n ∧ m ≤ 4 ∧ ¬ (i < 0 ∨ n < 0 ∨ σ o 2 - n < i) ∧ ∀ j, 0 ≤ j → j < n → σ (o + 1) (i + j) = σ 96 j) σ))) (hz : 0 ≤ σ o 2 ∧ σ o 2 ≤ 24) (hmn : m = n) (hm4 : m ≤ 4) (hlk : ¬ (i < 0 ∨ n < 0 ∨ σ o 2 - n < i)) : ∀ (f k : Nat), (k : Int) ≤ n → n - k < f → (∀ j : Int, 0 ≤ j → j < k → σ (o + 1) (i + j) = σ 96 j) → Z g x 6 27 [(0, .ref (g.2.2.1 o)), (1, vI i), (2, vI n), (3, .ref (g.2.2.1 96)), (5, vI k)] [] σ := by
  intro f
  induction f with
  | zero => intro k h0 hk; exact absurd hk (by omega)
  | succ f ih =>
    intro k h0 hk hq
    refine z_iload hO 4 dX5_tells_27 rfl ?_
    refine z_iload_n hO 2 dX5_tells_29 rfl ?_
    refine z_icmp_ge hO 59 dX5_tells_30 (by decide) (by omega) (by omega) (fun c30 => ?_) (fun c30 => ?_)
    ·
      refine z_iconst hO dX5_tells_59 ?_
      exact z_retQT hO hR dX5_tells_60 (⟨hmn, hm4, hlk, fun j j0 j1 => hq j j0 (by omega)⟩) rfl
    ·
      refine z_aload_n hO 0 dX5_tells_33 rfl ?_
      refine z_getR hO (o + 1) fl_X5_9 ho.1 rfl dX5_tells_34 ?_
      refine z_iload_n hO 1 dX5_tells_37 rfl ?_
      refine z_iload hO 4 dX5_tells_38 rfl ?_
      refine z_iadd hO dX5_tells_40 ?_
      refine z_lald hO ho.2 (by omega) (by decide) dX5_tells_41 (fun r41 => ?_)
      refine z_aload_n hO 3 dX5_tells_42 rfl ?_
      refine z_iload hO 4 dX5_tells_43 rfl ?_
      refine z_iald hO rfl (by omega) (by decide) dX5_tells_45 (fun r45 => ?_)
      refine z_i2l hO dX5_tells_46 (by omega) ?_
      refine z_lcmp hO dX5_tells_47 (by omega) (by omega) (fun c47 => ?_) (fun c47 => ?_) (fun c47 => ?_)
      ·
        refine z_if_eq hO 53 dX5_tells_48 (by decide) (by decide) (fun c48 => absurd c48 (by omega)) (fun c48 => ?_)
        refine z_iconst hO dX5_tells_51 ?_
        exact z_retQF hO hR dX5_tells_52 (fun z => absurd (z.2.2.2 k (by omega) (by omega)) (by omega)) rfl
      ·
        refine z_if_eq hO 53 dX5_tells_48 (by decide) (by decide) (fun c48 => ?_) (fun c48 => absurd c48 (by omega))
        refine z_iinc hO (L' := [(5, _), (0, _), (1, _), (2, _), (3, _)]) 4 dX5_tells_53 rfl (by decide) rfl ?_
        refine z_goto hO 27 dX5_tells_56 (by decide) ?_
        exact z_pick [1, 2, 3, 4, 0] rfl (ih (k + 1) (by omega) (by omega) (fun j j0 j1 => by by_cases e : j = k; (subst e; omega); exact hq j j0 (by omega)))
      ·
        refine z_if_eq hO 53 dX5_tells_48 (by decide) (by decide) (fun c48 => absurd c48 (by omega)) (fun c48 => ?_)
        refine z_iconst hO dX5_tells_51 ?_
        exact z_retQF hO hR dX5_tells_52 (fun z => absurd (z.2.2.2 k (by omega) (by omega)) (by omega)) rfl

set_option maxHeartbeats 4000000 in
set_option maxRecDepth 100000 in
theorem t_X5_tells {g : G} {σ : Sg} {o : Nat} (ho : Sd o) {i n m : Int} (ri : -2147483648 ≤ i ∧ i ≤ 2147483647) (rn : -2147483648 ≤ n ∧ n ≤ 2147483647) (rm : -2147483648 ≤ m ∧ m ≤ 2147483647) (hz : 0 ≤ σ o 2 ∧ σ o 2 ≤ 24) : MM g mX5_tells [.ref (g.2.2.1 o), vI i, vI n, .ref (g.2.2.1 96), vI m] σ (pB (pQ (m = n ∧ m ≤ 4 ∧ ¬ (i < 0 ∨ n < 0 ∨ σ o 2 - n < i) ∧ ∀ j, 0 ≤ j → j < n → σ (o + 1) (i + j) = σ 96 j) σ)) := by
  refine mm_of rfl (by decide) rfl rfl (Nat.le_of_ble_eq_true rfl) (fun x hO hR => ?_)
  refine z_iload hO 4 dX5_tells_0 rfl ?_
  refine z_iload_n hO 2 dX5_tells_2 rfl ?_
  refine z_icmp_ne hO 22 dX5_tells_3 (by decide) (by omega) (by omega) (fun c3 => ?_) (fun c3 => ?_)
  ·
    refine z_iconst hO dX5_tells_22 ?_
    exact z_retQF hO hR dX5_tells_23 (fun z => by omega) rfl
  ·
    refine z_iload hO 4 dX5_tells_6 rfl ?_
    refine z_aload_n hO 3 dX5_tells_8 rfl ?_
    refine z_alen1 hO rfl dX5_tells_9 ?_
    refine z_icmp_gt hO 22 dX5_tells_10 (by decide) (by omega) (by decide) (fun c10 => ?_) (fun c10 => ?_)
    ·
      refine z_iconst hO dX5_tells_22 ?_
      exact z_retQF hO hR dX5_tells_23 (fun z => by omega) rfl
    ·
      refine z_aload_n hO 0 dX5_tells_13 rfl ?_
      refine z_iload_n hO 1 dX5_tells_14 rfl ?_
      refine z_iload_n hO 2 dX5_tells_15 rfl ?_
      refine z_cvQ hO (t_X5_lacks ho (by omega) (by omega) hz) cv_X5_22 ho.1 rfl rfl rfl (by decide) (Nat.le_of_ble_eq_true rfl) dX5_tells_16 (fun c16 => ?_) (fun c16 => ?_)
      ·
        refine z_if_eq hO 24 dX5_tells_19 (by decide) (by decide) (fun c19 => absurd c19 (by omega)) (fun c19 => ?_)
        refine z_iconst hO dX5_tells_22 ?_
        exact z_retQF hO hR dX5_tells_23 (fun z => by omega) rfl
      ·
        refine z_if_eq hO 24 dX5_tells_19 (by decide) (by decide) (fun c19 => ?_) (fun c19 => absurd c19 (by omega))
        refine z_iconst hO dX5_tells_24 ?_
        refine z_istore hO (L' := [(5, _), (0, _), (1, _), (2, _), (3, _), (4, _)]) dX5_tells_25 (by decide) rfl ?_
        exact z_pick [1, 2, 3, 4, 0] rfl (lp_tells ho hO hR hz (by omega) (by omega) (by omega) 6 0 (by omega) (by omega) (fun j j0 j1 => absurd j1 (by omega)))

/-! ===== Past ===== -/
theorem ring13 {i : Int} (h : 0 ≤ i ∧ i < 8) : ([15, 19, 23, 27, 31, 35, 39, 43] : List Nat)[i.toNat]? = some (15 + 4 * i.toNat) := by
  rcases (show i = 0 ∨ i = 1 ∨ i = 2 ∨ i = 3 ∨ i = 4 ∨ i = 5 ∨ i = 6 ∨ i = 7 by omega) with rfl | rfl | rfl | rfl | rfl | rfl | rfl | rfl <;> rfl
theorem ring47 {i : Int} (h : 0 ≤ i ∧ i < 8) : ([49, 53, 57, 61, 65, 69, 73, 77] : List Nat)[i.toNat]? = some (49 + 4 * i.toNat) := by
  rcases (show i = 0 ∨ i = 1 ∨ i = 2 ∨ i = 3 ∨ i = 4 ∨ i = 5 ∨ i = 6 ∨ i = 7 by omega) with rfl | rfl | rfl | rfl | rfl | rfl | rfl | rfl <;> rfl
theorem tkS_ne {σ : Sg} {o q c : Nat} {k : Int} (h : c < o ∨ o + 4 ≤ c) : tkS σ o q c k = σ c k := by
  unfold tkS; rw [up_ne (by omega), up_ne (by omega), up_ne (by omega), tkSl_q h]
def keep1 (σ : Sg) : Sg := if σ 13 2 = 8 then up (up σ 13 1 ((σ 13 1 + 1) % 8)) 13 2 (8 - 1) else σ
def keepS (σ : Sg) : Sg := up (tkS (keep1 σ) (15 + 4 * ((keep1 σ 13 1 + keep1 σ 13 2) % 8).toNat) 1) 13 2 (keep1 σ 13 2 + 1)
