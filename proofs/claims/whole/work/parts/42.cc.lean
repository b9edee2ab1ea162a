theorem cp_ne {σ : Sg} {a b c : Nat} {i j n k : Int} (h : c ≠ b) : cp σ a i b j n c k = σ c k := by unfold cp; rw [if_neg h]
theorem cp_in {σ : Sg} {a b : Nat} {i j n k : Int} (h : j ≤ k ∧ k < j + n) : cp σ a i b j n b k = σ a (i + (k - j)) := by unfold cp; rw [if_pos rfl, if_pos h]
theorem cp_out {σ : Sg} {a b c : Nat} {i j n k : Int} (h : k < j ∨ j + n ≤ k) : cp σ a i b j n c k = σ c k := by
  unfold cp; split
  · rename_i e; rw [if_neg (by omega), e]
  · rfl
def tkSl (σ : Sg) (o q : Nat) : Sg := up (cp (cp (cp σ (q + 1) 0 (o + 1) 0 8) (q + 2) 0 (o + 2) 0 32) (q + 3) 0 (o + 3) 0 32) o 3 (σ q 3)
def tkS (σ : Sg) (o q : Nat) : Sg := up (up (up (tkSl σ o q) o 4 (σ q 4)) o 5 (σ q 5)) o 6 (σ q 6)

set_option maxHeartbeats 4000000 in
set_option maxRecDepth 100000 in
theorem t_X2_takeSlots {g : G} {σ : Sg} {o : Nat} (ho : Hd o) {q : Nat} (hq : Hd q) (hap : q + 4 ≤ o ∨ o + 4 ≤ q) : MM g mX2_takeSlots [.ref (g.2.2.1 o), .ref (g.2.2.1 q)] σ (pV (fun σ' => σ' = tkSl σ o q)) := by
  refine mm_of rfl (by decide) rfl rfl (Nat.le_of_ble_eq_true rfl) (fun x hO hR => ?_)
  refine z_aload_n hO 1 dX2_takeSlots_0 rfl ?_
  refine z_getR hO (q + 1) fl_X2_9 hq.1 rfl dX2_takeSlots_1 ?_
  refine z_iconst hO dX2_takeSlots_4 ?_
  refine z_aload_n hO 0 dX2_takeSlots_5 rfl ?_
  refine z_getR hO (o + 1) fl_X2_9 ho.1 rfl dX2_takeSlots_6 ?_
  refine z_iconst hO dX2_takeSlots_9 ?_
  refine z_bipush hO dX2_takeSlots_10 (by decide) ?_
  refine z_copyI hO ac_X2_35 (by decide) hq.2.1 ho.2.1 (by decide) (by decide) (by omega) (by omega) (by omega) (by omega) (by omega) (Nat.le_of_ble_eq_true rfl) dX2_takeSlots_12 ?_
  refine z_aload_n hO 1 dX2_takeSlots_15 rfl ?_
  refine z_getR hO (q + 2) fl_X2_15 hq.1 rfl dX2_takeSlots_16 ?_
  refine z_iconst hO dX2_takeSlots_19 ?_
  refine z_aload_n hO 0 dX2_takeSlots_20 rfl ?_
  refine z_getR hO (o + 2) fl_X2_15 ho.1 rfl dX2_takeSlots_21 ?_
  refine z_iconst hO dX2_takeSlots_24 ?_
  refine z_bipush hO dX2_takeSlots_25 (by decide) ?_
  refine z_copyI hO ac_X2_35 (by decide) hq.2.2.1 ho.2.2.1 (by decide) (by decide) (by omega) (by omega) (by omega) (by omega) (by omega) (Nat.le_of_ble_eq_true rfl) dX2_takeSlots_27 ?_
  refine z_aload_n hO 1 dX2_takeSlots_30 rfl ?_
  refine z_getR hO (q + 3) fl_X2_18 hq.1 rfl dX2_takeSlots_31 ?_
  refine z_iconst hO dX2_takeSlots_34 ?_
  refine z_aload_n hO 0 dX2_takeSlots_35 rfl ?_
  refine z_getR hO (o + 3) fl_X2_18 ho.1 rfl dX2_takeSlots_36 ?_
  refine z_iconst hO dX2_takeSlots_39 ?_
  refine z_bipush hO dX2_takeSlots_40 (by decide) ?_
  refine z_copyI hO ac_X2_35 (by decide) hq.2.2.2 ho.2.2.2 (by decide) (by decide) (by omega) (by omega) (by omega) (by omega) (by omega) (Nat.le_of_ble_eq_true rfl) dX2_takeSlots_42 ?_
  refine z_aload_n hO 0 dX2_takeSlots_45 rfl ?_
  refine z_aload_n hO 1 dX2_takeSlots_46 rfl ?_
  refine z_getI hO 3 fl_X2_41 hq.1 rfl rfl dX2_takeSlots_47 (fun r47 => ?_)
  try simp (disch := omega) only [fl_row_ne, fl_ne, up_row_ne, up_ne, up_eq, up_nk, up_up, up_self, ne_eq, Nat.reduceEqDiff, Int.reduceEq, reduceCtorEq, not_false_eq_true, not_true_eq_false, cp_row_ne, cp_ne] at r47 ⊢
  refine z_putI hO 3 fp_X2_41 ho.1 rfl rfl (by omega) rfl rfl dX2_takeSlots_50 ?_
  exact z_retV hO hR dX2_takeSlots_53 (rfl)

theorem tkSl_q {σ : Sg} {o q c : Nat} {k : Int} (h : c < o ∨ o + 4 ≤ c) : tkSl σ o q c k = σ c k := by
  unfold tkSl; rw [up_ne (by omega), cp_ne (by omega), cp_ne (by omega), cp_ne (by omega)]

set_option maxHeartbeats 4000000 in
set_option maxRecDepth 100000 in
theorem t_X2_take {g : G} {σ : Sg} {o : Nat} (ho : Hd o) {q : Nat} (hq : Hd q) (hap : q + 4 ≤ o ∨ o + 4 ≤ q) : MM g mX2_take [.ref (g.2.2.1 o), .ref (g.2.2.1 q)] σ (pV (fun σ' => σ' = tkS σ o q)) := by
  refine mm_of rfl (by decide) rfl rfl (Nat.le_of_ble_eq_true rfl) (fun x hO hR => ?_)
  refine z_aload_n hO 0 dX2_take_0 rfl ?_
  refine z_aload_n hO 1 dX2_take_1 rfl ?_
  refine z_cvV hO (t_X2_takeSlots ho hq hap) cv_X2_25 ho.1 rfl rfl rfl (by decide) (Nat.le_of_ble_eq_true rfl) dX2_take_2 (fun s2 p2 => ?_)
  subst p2
  refine z_aload_n hO 0 dX2_take_5 rfl ?_
  refine z_aload_n hO 1 dX2_take_6 rfl ?_
  refine z_getI hO 4 fl_X2_29 hq.1 rfl rfl dX2_take_7 (fun r7 => ?_)
  try simp (disch := omega) only [fl_row_ne, fl_ne, up_row_ne, up_ne, up_eq, up_nk, up_up, up_self, ne_eq, Nat.reduceEqDiff, Int.reduceEq, reduceCtorEq, not_false_eq_true, not_true_eq_false, tkSl_q] at r7 ⊢
  refine z_putI hO 4 fp_X2_29 ho.1 rfl rfl (by omega) rfl rfl dX2_take_10 ?_
  refine z_aload_n hO 0 dX2_take_13 rfl ?_
  refine z_aload_n hO 1 dX2_take_14 rfl ?_
  refine z_getI hO 5 fl_X2_32 hq.1 rfl rfl dX2_take_15 (fun r15 => ?_)
  try simp (disch := omega) only [fl_row_ne, fl_ne, up_row_ne, up_ne, up_eq, up_nk, up_up, up_self, ne_eq, Nat.reduceEqDiff, Int.reduceEq, reduceCtorEq, not_false_eq_true, not_true_eq_false, tkSl_q] at r15 ⊢
  refine z_putI hO 5 fp_X2_32 ho.1 rfl rfl (by omega) rfl rfl dX2_take_18 ?_
  refine z_aload_n hO 0 dX2_take_21 rfl ?_
  refine z_aload_n hO 1 dX2_take_22 rfl ?_
  refine z_getI hO 6 fl_X2_21 hq.1 rfl rfl dX2_take_23 (fun r23 => ?_)
  try simp (disch := omega) only [fl_row_ne, fl_ne, up_row_ne, up_ne, up_eq, up_nk, up_up, up_self, ne_eq, Nat.reduceEqDiff, Int.reduceEq, reduceCtorEq, not_false_eq_true, not_true_eq_false, tkSl_q] at r23 ⊢
  refine z_putI hO 6 fp_X2_21 ho.1 rfl rfl (by omega) rfl rfl dX2_take_26 ?_
  exact z_retV hO hR dX2_take_29 (rfl)

def cutS (σ : Sg) (o : Nat) (s : Int) : Sg := up (cp (cp (cp σ (o + 1) (s + 1) (o + 1) s (σ o 3 - 1 - s)) (o + 2) (s * 4 + 4) (o + 2) (s * 4) ((σ o 3 - 1 - s) * 4)) (o + 3) (s * 4 + 4) (o + 3) (s * 4) ((σ o 3 - 1 - s) * 4)) o 3 (σ o 3 - 1)

set_option maxHeartbeats 4000000 in
set_option maxRecDepth 100000 in
theorem t_X2_cut {g : G} {σ : Sg} {o : Nat} (ho : Hd o) {s : Int} (rs : -2147483648 ≤ s ∧ s ≤ 2147483647) (hn : σ o 3 ≤ 8) : MM g mX2_cut [.ref (g.2.2.1 o), vI s] σ (pV (fun σ' => ((0 ≤ s ∧ s < σ o 3) → σ' = cutS σ o s) ∧ (¬ (0 ≤ s ∧ s < σ o 3) → σ' = σ))) := by
  refine mm_of rfl (by decide) rfl rfl (Nat.le_of_ble_eq_true rfl) (fun x hO hR => ?_)
  refine z_aload_n hO 0 dX2_cut_0 rfl ?_
  refine z_iload_n hO 1 dX2_cut_1 rfl ?_
  refine z_cvQ hO (t_X2_isSlot ho (by omega)) cv_X2_44 ho.1 rfl rfl rfl (by decide) (Nat.le_of_ble_eq_true rfl) dX2_cut_2 (fun c2 => ?_) (fun c2 => ?_)
  ·
    refine z_if_ne hO 9 dX2_cut_5 (by decide) (by decide) (fun c5 => ?_) (fun c5 => absurd c5 (by omega))
    refine z_aload_n hO 0 dX2_cut_9 rfl ?_
    refine z_getI hO 3 fl_X2_41 ho.1 rfl rfl dX2_cut_10 (fun r10 => ?_)
    refine z_iconst hO dX2_cut_13 ?_
    refine z_isub hO dX2_cut_14 ?_
    refine z_iload_n hO 1 dX2_cut_15 rfl ?_
    refine z_isub hO dX2_cut_16 ?_
    refine z_istore_n hO (L' := [(2, _), (0, _), (1, _)]) dX2_cut_17 (by decide) rfl ?_
    refine z_iload_n hO 2 dX2_cut_18 rfl ?_
    refine z_iconst hO dX2_cut_19 ?_
    refine z_imul hO dX2_cut_20 ?_
    refine z_istore_n hO (L' := [(3, _), (2, _), (0, _), (1, _)]) dX2_cut_21 (by decide) rfl ?_
    refine z_aload_n hO 2 dX2_cut_22 rfl ?_
    refine z_getR hO (o + 1) fl_X2_9 ho.1 rfl dX2_cut_23 ?_
    refine z_iload_n hO 3 dX2_cut_26 rfl ?_
    refine z_iconst hO dX2_cut_27 ?_
    refine z_iadd hO dX2_cut_28 ?_
    refine z_aload_n hO 2 dX2_cut_29 rfl ?_
    refine z_getR hO (o + 1) fl_X2_9 ho.1 rfl dX2_cut_30 ?_
    refine z_iload_n hO 3 dX2_cut_33 rfl ?_
    refine z_iload_n hO 1 dX2_cut_34 rfl ?_
    refine z_copyI hO ac_X2_35 (by decide) ho.2.1 ho.2.1 (by decide) (by decide) (by omega) (by omega) (by omega) (by omega) (by omega) (Nat.le_of_ble_eq_true rfl) dX2_cut_35 ?_
    refine z_aload_n hO 2 dX2_cut_38 rfl ?_
    refine z_getR hO (o + 2) fl_X2_15 ho.1 rfl dX2_cut_39 ?_
    refine z_iload_n hO 0 dX2_cut_42 rfl ?_
    refine z_iconst hO dX2_cut_43 ?_
    refine z_iadd hO dX2_cut_44 ?_
    refine z_aload_n hO 2 dX2_cut_45 rfl ?_
    refine z_getR hO (o + 2) fl_X2_15 ho.1 rfl dX2_cut_46 ?_
    refine z_iload_n hO 0 dX2_cut_49 rfl ?_
    refine z_iload_n hO 1 dX2_cut_50 rfl ?_
    refine z_iconst hO dX2_cut_51 ?_
    refine z_imul hO dX2_cut_52 ?_
    refine z_copyI hO ac_X2_35 (by decide) ho.2.2.1 ho.2.2.1 (by decide) (by decide) (by omega) (by omega) (by omega) (by omega) (by omega) (Nat.le_of_ble_eq_true rfl) dX2_cut_53 ?_
    refine z_aload_n hO 2 dX2_cut_56 rfl ?_
    refine z_getR hO (o + 3) fl_X2_18 ho.1 rfl dX2_cut_57 ?_
    refine z_iload_n hO 0 dX2_cut_60 rfl ?_
    refine z_iconst hO dX2_cut_61 ?_
    refine z_iadd hO dX2_cut_62 ?_
    refine z_aload_n hO 2 dX2_cut_63 rfl ?_
    refine z_getR hO (o + 3) fl_X2_18 ho.1 rfl dX2_cut_64 ?_
    refine z_iload_n hO 0 dX2_cut_67 rfl ?_
    refine z_iload_n hO 1 dX2_cut_68 rfl ?_
    refine z_iconst hO dX2_cut_69 ?_
    refine z_imul hO dX2_cut_70 ?_
    refine z_copyI hO ac_X2_35 (by decide) ho.2.2.2 ho.2.2.2 (by decide) (by decide) (by omega) (by omega) (by omega) (by omega) (by omega) (Nat.le_of_ble_eq_true rfl) dX2_cut_71 ?_
    refine z_aload_n hO 2 dX2_cut_74 rfl ?_
    refine z_dup hO dX2_cut_75 rfl ?_
    refine z_getI hO 3 fl_X2_41 ho.1 rfl rfl dX2_cut_76 (fun r76 => ?_)
    try simp (disch := omega) only [fl_row_ne, fl_ne, up_row_ne, up_ne, up_eq, up_nk, up_up, up_self, ne_eq, Nat.reduceEqDiff, Int.reduceEq, reduceCtorEq, not_false_eq_true, not_true_eq_false, cp_row_ne, cp_ne] at r76 ⊢
    refine z_iconst hO dX2_cut_79 ?_
    refine z_isub hO dX2_cut_80 ?_
    refine z_putI hO 3 fp_X2_41 ho.1 rfl rfl (by omega) rfl rfl dX2_cut_81 ?_
    exact z_retV hO hR dX2_cut_84 (⟨fun _ => rfl, fun z => absurd z (by omega)⟩)
  ·
    refine z_if_ne hO 9 dX2_cut_5 (by decide) (by decide) (fun c5 => absurd c5 (by omega)) (fun c5 => ?_)
    exact z_retV hO hR dX2_cut_8 (⟨fun z => absurd z (by omega), fun _ => rfl⟩)

def narS (σ : Sg) (o : Nat) (s k : Int) : Sg := up (up (up σ (o + 2) (s * 4) (σ (o + 2) (s * 4 + k))) (o + 3) (s * 4) (σ (o + 3) (s * 4 + k))) (o + 1) s 1

set_option maxHeartbeats 4000000 in
set_option maxRecDepth 100000 in
theorem t_X2_narrowTo {g : G} {σ : Sg} {o : Nat} (ho : Hd o) {s k : Int} (rs : -2147483648 ≤ s ∧ s ≤ 2147483647) (rk : -2147483648 ≤ k ∧ k ≤ 2147483647) (hn : σ o 3 ≤ 8) (hc : ∀ i, 0 ≤ i → i < σ o 3 → 0 ≤ σ (o + 1) i ∧ σ (o + 1) i ≤ 4) : MM g mX2_narrowTo [.ref (g.2.2.1 o), vI s, vI k] σ (pV (fun σ' => ((0 ≤ s ∧ s < σ o 3 ∧ 0 ≤ k ∧ k < σ (o + 1) s) → σ' = narS σ o s k) ∧ (¬ (0 ≤ s ∧ s < σ o 3 ∧ 0 ≤ k ∧ k < σ (o + 1) s) → σ' = σ))) := by
  refine mm_of rfl (by decide) rfl rfl (Nat.le_of_ble_eq_true rfl) (fun x hO hR => ?_)
  refine z_aload_n hO 0 dX2_narrowTo_0 rfl ?_
  refine z_iload_n hO 1 dX2_narrowTo_1 rfl ?_
  refine z_cvQ hO (t_X2_isSlot ho (by omega)) cv_X2_44 ho.1 rfl rfl rfl (by decide) (Nat.le_of_ble_eq_true rfl) dX2_narrowTo_2 (fun c2 => ?_) (fun c2 => ?_)
  ·
    have hcs := hc s (by omega) (by omega)
    refine z_if_eq hO 22 dX2_narrowTo_5 (by decide) (by decide) (fun c5 => absurd c5 (by omega)) (fun c5 => ?_)
    refine z_iload_n hO 2 dX2_narrowTo_8 rfl ?_
    refine z_if_lt hO 22 dX2_narrowTo_9 (by decide) (by omega) (fun c9 => ?_) (fun c9 => ?_)
    ·
      exact z_retV hO hR dX2_narrowTo_22 (⟨fun z => absurd z (by omega), fun _ => rfl⟩)
    ·
      refine z_iload_n hO 2 dX2_narrowTo_12 rfl ?_
      refine z_aload_n hO 0 dX2_narrowTo_13 rfl ?_
      refine z_getR hO (o + 1) fl_X2_9 ho.1 rfl dX2_narrowTo_14 ?_
      refine z_iload_n hO 1 dX2_narrowTo_17 rfl ?_
      refine z_iald hO ho.2.1 (by omega) (by decide) dX2_narrowTo_18 (fun r18 => ?_)
      refine z_icmp_lt hO 23 dX2_narrowTo_19 (by decide) (by omega) (by omega) (fun c19 => ?_) (fun c19 => ?_)
      ·
        refine z_iload_n hO 1 dX2_narrowTo_23 rfl ?_
        refine z_iconst hO dX2_narrowTo_24 ?_
        refine z_imul hO dX2_narrowTo_25 ?_
        refine z_istore_n hO (L' := [(3, _), (0, _), (1, _), (2, _)]) dX2_narrowTo_26 (by decide) rfl ?_
        refine z_aload_n hO 1 dX2_narrowTo_27 rfl ?_
        refine z_getR hO (o + 2) fl_X2_15 ho.1 rfl dX2_narrowTo_28 ?_
        refine z_iload_n hO 0 dX2_narrowTo_31 rfl ?_
        refine z_aload_n hO 1 dX2_narrowTo_32 rfl ?_
        refine z_getR hO (o + 2) fl_X2_15 ho.1 rfl dX2_narrowTo_33 ?_
        refine z_iload_n hO 0 dX2_narrowTo_36 rfl ?_
        refine z_iload_n hO 3 dX2_narrowTo_37 rfl ?_
        refine z_iadd hO dX2_narrowTo_38 ?_
        refine z_iald hO ho.2.2.1 (by omega) (by decide) dX2_narrowTo_39 (fun r39 => ?_)
        refine z_iast hO ho.2.2.1 (by omega) (by decide) (by omega) dX2_narrowTo_40 ?_
        refine z_aload_n hO 1 dX2_narrowTo_41 rfl ?_
        refine z_getR hO (o + 3) fl_X2_18 ho.1 rfl dX2_narrowTo_42 ?_
        refine z_iload_n hO 0 dX2_narrowTo_45 rfl ?_
        refine z_aload_n hO 1 dX2_narrowTo_46 rfl ?_
        refine z_getR hO (o + 3) fl_X2_18 ho.1 rfl dX2_narrowTo_47 ?_
        refine z_iload_n hO 0 dX2_narrowTo_50 rfl ?_
        refine z_iload_n hO 3 dX2_narrowTo_51 rfl ?_
        refine z_iadd hO dX2_narrowTo_52 ?_
        refine z_iald hO ho.2.2.2 (by omega) (by decide) dX2_narrowTo_53 (fun r53 => ?_)
        try simp (disch := omega) only [fl_row_ne, fl_ne, up_row_ne, up_ne, up_eq, up_nk, up_up, up_self, ne_eq, Nat.reduceEqDiff, Int.reduceEq, reduceCtorEq, not_false_eq_true, not_true_eq_false] at r53 ⊢
        refine z_iast hO ho.2.2.2 (by omega) (by decide) (by omega) dX2_narrowTo_54 ?_
        refine z_aload_n hO 1 dX2_narrowTo_55 rfl ?_
        refine z_getR hO (o + 1) fl_X2_9 ho.1 rfl dX2_narrowTo_56 ?_
        refine z_iload_n hO 2 dX2_narrowTo_59 rfl ?_
        refine z_iconst hO dX2_narrowTo_60 ?_
        refine z_iast hO ho.2.1 (by omega) (by decide) (by omega) dX2_narrowTo_61 ?_
        exact z_retV hO hR dX2_narrowTo_62 (⟨fun _ => rfl, fun z => absurd z (by omega)⟩)
      ·
        exact z_retV hO hR dX2_narrowTo_22 (⟨fun z => absurd z (by omega), fun _ => rfl⟩)
  ·
    refine z_if_eq hO 22 dX2_narrowTo_5 (by decide) (by decide) (fun c5 => ?_) (fun c5 => absurd c5 (by omega))
    exact z_retV hO hR dX2_narrowTo_22 (⟨fun z => absurd z (by omega), fun _ => rfl⟩)

theorem i_bv (a : Int) : (Int32.ofInt a).toBitVec = BitVec.ofInt 32 a := Int32.toBitVec_ofInt a
theorem and31 (a : Int) : Int32.ofInt a &&& Int32.ofInt 2147483647 = Int32.ofInt (a % 2147483648) := by
  apply Int32.toBitVec_inj.mp
  rw [Int32.toBitVec_and, i_bv, i_bv, i_bv]
  apply BitVec.eq_of_toNat_eq
  have e : (BitVec.ofInt 32 2147483647).toNat = 2 ^ 31 - 1 := by decide
  rw [BitVec.toNat_and, e, Nat.and_two_pow_sub_one_eq_mod, BitVec.toNat_ofInt, BitVec.toNat_ofInt]
  omega
noncomputable def ctrS (σ : Sg) (o : Nat) : Sg := @ite _ (0 < σ o 3 ∧ σ (o + 1) (drw (σ o 6) / 65536 % σ o 3) < 4 ∧ ∀ k, 0 ≤ k → k < σ (o + 1) (drw (σ o 6) / 65536 % σ o 3) → σ (o + 2) (drw (σ o 6) / 65536 % σ o 3 * 4 + k) ≠ drw (σ o 6) / 65536 / 8 % 32) (Classical.propDecidable _) (widS (up σ o 6 (drw (σ o 6))) o (drw (σ o 6) / 65536 % σ o 3) (drw (σ o 6) / 65536 / 8 % 32) (drw (σ o 6) / 65536 / 256 % 10)) (up σ o 6 (drw (σ o 6)))

set_option maxHeartbeats 4000000 in
set_option maxRecDepth 100000 in
theorem t_X2_turn {g : G} {σ : Sg} {o : Nat} (ho : Hd o) (hV : WV (cv σ o)) (hd0 : 0 ≤ σ o 6) : MM g mX2_turn [.ref (g.2.2.1 o)] σ (pV (fun σ' => σ' = ctrS σ o)) := by
  refine mm_of rfl (by decide) rfl rfl (Nat.le_of_ble_eq_true rfl) (fun x hO hR => ?_)
  have hn0 := hV.1
  have hn8 := hV.2.1
  rw [cv_n] at hn0 hn8
  refine z_aload_n hO 0 dX2_turn_0 rfl ?_
  refine z_aload_n hO 0 dX2_turn_1 rfl ?_
  refine z_getI hO 6 fl_X2_21 ho.1 rfl rfl dX2_turn_2 (fun r2 => ?_)
  refine z_ldc hO k_X2_52 dX2_turn_5 ?_
  refine z_imul hO dX2_turn_7 ?_
  refine z_sipush hO dX2_turn_8 (by decide) ?_
  refine z_iadd hO dX2_turn_11 ?_
  refine z_ldc hO k_X2_53 dX2_turn_12 ?_
  refine z_iand hO (drw (σ o 6)) dX2_turn_14 (and31 _) ?_
  have hd := drw_r (σ o 6)
  refine z_putI hO 6 fp_X2_21 ho.1 rfl rfl (by omega) rfl rfl dX2_turn_15 ?_
  refine z_aload_n hO 0 dX2_turn_18 rfl ?_
  refine z_getI hO 3 fl_X2_41 ho.1 rfl rfl dX2_turn_19 (fun r19 => ?_)
  try simp (disch := omega) only [fl_row_ne, fl_ne, up_row_ne, up_ne, up_eq, up_nk, up_up, up_self, ne_eq, Nat.reduceEqDiff, Int.reduceEq, reduceCtorEq, not_false_eq_true, not_true_eq_false] at r19 ⊢
  refine z_if_ne hO 26 dX2_turn_22 (by decide) (by omega) (fun c22 => ?_) (fun c22 => ?_)
  ·
    have hx0 : 0 ≤ (drw (σ o 6) / 65536) % σ o 3 ∧ (drw (σ o 6) / 65536) % σ o 3 < σ o 3 := ⟨Int.emod_nonneg _ (by omega), Int.emod_lt_of_pos _ (by omega)⟩
    have hW := hV.2.2 _ hx0.1 (show (drw (σ o 6) / 65536) % σ o 3 < (cv σ o).1 from hx0.2)
    rw [cv_c] at hW
    refine z_aload_n hO 0 dX2_turn_26 rfl ?_
    refine z_getI hO 6 fl_X2_21 ho.1 rfl rfl dX2_turn_27 (fun r27 => ?_)
    try simp (disch := omega) only [fl_row_ne, fl_ne, up_row_ne, up_ne, up_eq, up_nk, up_up, up_self, ne_eq, Nat.reduceEqDiff, Int.reduceEq, reduceCtorEq, not_false_eq_true, not_true_eq_false] at r27 ⊢
    refine z_ldc hO k_X2_54 dX2_turn_30 ?_
    refine z_idiv hO dX2_turn_32 (by omega) (by omega) ?_
    refine z_istore_n hO (L' := [(1, _), (0, _)]) dX2_turn_33 (by decide) rfl ?_
    refine z_iload_n hO 0 dX2_turn_34 rfl ?_
    refine z_aload_n hO 1 dX2_turn_35 rfl ?_
    refine z_getI hO 3 fl_X2_41 ho.1 rfl rfl dX2_turn_36 (fun r36 => ?_)
    try simp (disch := omega) only [fl_row_ne, fl_ne, up_row_ne, up_ne, up_eq, up_nk, up_up, up_self, ne_eq, Nat.reduceEqDiff, Int.reduceEq, reduceCtorEq, not_false_eq_true, not_true_eq_false] at r36 ⊢
    refine z_irem hO dX2_turn_39 (by omega) (by omega) ?_
    refine z_istore_n hO (L' := [(2, _), (1, _), (0, _)]) dX2_turn_40 (by decide) rfl ?_
    refine z_iload_n hO 1 dX2_turn_41 rfl ?_
    refine z_bipush hO dX2_turn_42 (by decide) ?_
    refine z_idiv hO dX2_turn_44 (by omega) (by omega) ?_
    refine z_bipush hO dX2_turn_45 (by decide) ?_
    refine z_irem hO dX2_turn_47 (by omega) (by omega) ?_
    refine z_istore_n hO (L' := [(3, _), (2, _), (1, _), (0, _)]) dX2_turn_48 (by decide) rfl ?_
    refine z_aload_n hO 3 dX2_turn_49 rfl ?_
    refine z_iload_n hO 1 dX2_turn_50 rfl ?_
    refine z_iload_n hO 0 dX2_turn_51 rfl ?_
    refine z_cvI hO (t_X2_find ho (s := (drw (σ o 6) / 65536) % σ o 3) (w := (drw (σ o 6) / 65536) / 8 % 32) (by omega) (by omega) (by simp (disch := omega) only [fl_row_ne, fl_ne, up_row_ne, up_ne, up_eq, up_nk, up_up, up_self, ne_eq, Nat.reduceEqDiff, Int.reduceEq, reduceCtorEq, not_false_eq_true, not_true_eq_false]; omega) (fun i i0 i1 => by simp (disch := omega) only [fl_row_ne, fl_ne, up_row_ne, up_ne, up_eq, up_nk, up_up, up_self, ne_eq, Nat.reduceEqDiff, Int.reduceEq, reduceCtorEq, not_false_eq_true, not_true_eq_false] at i1 ⊢; have := hV.2.2 i i0 i1; rw [cv_c] at this; omega)) cv_X2_55 ho.1 rfl rfl rfl (by decide) (Nat.le_of_ble_eq_true rfl) dX2_turn_52 (fun v52 s52 p52 => ?_)
    obtain ⟨pq, e52⟩ := p52
    rw [e52]
    have pq : fnQ (cv (up σ o 6 (drw (σ o 6))) o) ((drw (σ o 6) / 65536) % σ o 3) ((drw (σ o 6) / 65536) / 8 % 32) v52 := by rcases pq with z | z; (exfalso; apply z.1; simp (disch := omega) only [fl_row_ne, fl_ne, up_row_ne, up_ne, up_eq, up_nk, up_up, up_self, ne_eq, Nat.reduceEqDiff, Int.reduceEq, reduceCtorEq, not_false_eq_true, not_true_eq_false]; exact hx0); exact z.2
    have ec : (cv (up σ o 6 (drw (σ o 6))) o).2.1 ((drw (σ o 6) / 65536) % σ o 3) = σ (o + 1) ((drw (σ o 6) / 65536) % σ o 3) := by rw [cv_c]; simp (disch := omega) only [fl_row_ne, fl_ne, up_row_ne, up_ne, up_eq, up_nk, up_up, up_self, ne_eq, Nat.reduceEqDiff, Int.reduceEq, reduceCtorEq, not_false_eq_true, not_true_eq_false]
    have ew : ∀ k, (cv (up σ o 6 (drw (σ o 6))) o).2.2.1 ((drw (σ o 6) / 65536) % σ o 3) k = σ (o + 2) ((drw (σ o 6) / 65536) % σ o 3 * 4 + k) := fun k => by rw [cv_w]; simp (disch := omega) only [fl_row_ne, fl_ne, up_row_ne, up_ne, up_eq, up_nk, up_up, up_self, ne_eq, Nat.reduceEqDiff, Int.reduceEq, reduceCtorEq, not_false_eq_true, not_true_eq_false]
    have hvr : -1 ≤ v52 ∧ v52 ≤ 4 := by rcases pq with q | q; omega; (rw [ec] at q; omega)
    refine z_if_ge hO 73 dX2_turn_55 (by decide) (by omega) (fun c55 => ?_) (fun c55 => ?_)
    ·
      have hfin : (up σ o 6 (drw (σ o 6))) = ctrS σ o := by unfold ctrS; rw [if_neg (fun z => by rcases pq with q | q; omega; exact z.2.2 _ q.1 (by rw [← ec]; exact q.2.1) (by rw [← ew]; exact q.2.2.1))]
      exact z_retV hO hR dX2_turn_73 (hfin)
    ·
      refine z_aload_n hO 3 dX2_turn_58 rfl ?_
      refine z_iload_n hO 1 dX2_turn_59 rfl ?_
      refine z_iload_n hO 0 dX2_turn_60 rfl ?_
      refine z_iload_n hO 2 dX2_turn_61 rfl ?_
      refine z_sipush hO dX2_turn_62 (by decide) ?_
      refine z_idiv hO dX2_turn_65 (by omega) (by omega) ?_
      refine z_bipush hO dX2_turn_66 (by decide) ?_
      refine z_irem hO dX2_turn_68 (by omega) (by omega) ?_
      refine z_cvB hO (t_X2_widen ho (by omega) (by omega) (by omega) (by simp (disch := omega) only [fl_row_ne, fl_ne, up_row_ne, up_ne, up_eq, up_nk, up_up, up_self, ne_eq, Nat.reduceEqDiff, Int.reduceEq, reduceCtorEq, not_false_eq_true, not_true_eq_false]; omega) (fun i i0 i1 => by simp (disch := omega) only [fl_row_ne, fl_ne, up_row_ne, up_ne, up_eq, up_nk, up_up, up_self, ne_eq, Nat.reduceEqDiff, Int.reduceEq, reduceCtorEq, not_false_eq_true, not_true_eq_false] at i1 ⊢; have := hV.2.2 i i0 i1; rw [cv_c] at this; omega)) cv_X2_48 ho.1 rfl rfl rfl (by decide) (Nat.le_of_ble_eq_true rfl) dX2_turn_69 (fun s69 p69 => ?_) (fun s69 p69 => ?_)
      ·
        obtain ⟨h1, e69⟩ := p69.1 rfl
        simp (disch := omega) only [fl_row_ne, fl_ne, up_row_ne, up_ne, up_eq, up_nk, up_up, up_self, ne_eq, Nat.reduceEqDiff, Int.reduceEq, reduceCtorEq, not_false_eq_true, not_true_eq_false] at h1
        rw [e69]
        have hfin : widS (up σ o 6 (drw (σ o 6))) o ((drw (σ o 6) / 65536) % σ o 3) ((drw (σ o 6) / 65536) / 8 % 32) ((drw (σ o 6) / 65536) / 256 % 10) = ctrS σ o := by unfold ctrS; rw [if_pos ⟨by omega, h1.2.2, fun k k0 k1 => by rcases pq with q | q; (rw [← ew]; exact q.2 k k0 (by rw [ec]; exact k1)); omega⟩]
        refine z_pop hO dX2_turn_72 rfl ?_
        exact z_retV hO hR dX2_turn_73 (hfin)
      ·
        obtain ⟨h1, e69⟩ := p69.2 rfl
        simp (disch := omega) only [fl_row_ne, fl_ne, up_row_ne, up_ne, up_eq, up_nk, up_up, up_self, ne_eq, Nat.reduceEqDiff, Int.reduceEq, reduceCtorEq, not_false_eq_true, not_true_eq_false] at h1
        rw [e69]
        have hfin : (up σ o 6 (drw (σ o 6))) = ctrS σ o := by unfold ctrS; rw [if_neg (fun z => h1 ⟨hx0.1, hx0.2, z.2.1⟩)]
        refine z_pop hO dX2_turn_72 rfl ?_
        exact z_retV hO hR dX2_turn_73 (hfin)
  ·
    exact z_retV hO hR dX2_turn_25 (by unfold ctrS; rw [if_neg (fun z => by have := z.1; omega)])
