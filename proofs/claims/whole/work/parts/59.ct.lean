theorem shs {i : Int} (h : 0 ≤ i ∧ i ≤ 3) : ([105, 107, 109, 111] : List Nat)[i.toNat]? = some (105 + 2 * i.toNat) := by
  rcases (show i = 0 ∨ i = 1 ∨ i = 2 ∨ i = 3 by omega) with rfl | rfl | rfl | rfl <;> rfl
/-- sizes of sheets are in their range -/
def SZ (σ : Sg) : Prop := ∀ s : Int, 0 ≤ s → s ≤ 3 → (0 ≤ σ (105 + 2 * s.toNat) 2 ∧ σ (105 + 2 * s.toNat) 2 ≤ 24) ∧ (-1 ≤ σ (105 + 2 * s.toNat) 1 ∧ σ (105 + 2 * s.toNat) 1 ≤ 3)

set_option maxHeartbeats 4000000 in
set_option maxRecDepth 100000 in
theorem t_X8_sheet {g : G} {σ : Sg} {s lane n : Int} (rs : -2147483648 ≤ s ∧ s ≤ 2147483647) (rl : -2147483648 ≤ lane ∧ lane ≤ 2147483647) (rn : -2147483648 ≤ n ∧ n ≤ 2147483647) (hZ : SZ σ) : MM g mX8_sheet [.ref (g.2.2.1 0), vI s, vI lane, vI n] σ (pI (fun r σ' => (r, σ') = if ¬ (0 ≤ s ∧ s ≤ 3) ∨ ¬ (0 ≤ lane ∧ lane ≤ 3) ∨ 24 < n then (-1, σ) else if n < 0 then (-14, σ) else (n, renS σ (105 + 2 * s.toNat) lane n))) := by
  refine mm_of rfl (by decide) rfl rfl (Nat.le_of_ble_eq_true rfl) (fun x hO hR => ?_)
  refine z_iload_n hO 1 dX8_sheet_0 rfl ?_
  refine z_csQ hO (t_X8_isSheet (by omega)) cs_X8_197 rfl rfl (by decide) (Nat.le_of_ble_eq_true rfl) dX8_sheet_1 (fun c1 => ?_) (fun c1 => ?_)
  ·
    refine z_if_eq hO 20 dX8_sheet_4 (by decide) (by decide) (fun c4 => absurd c4 (by omega)) (fun c4 => ?_)
    refine z_iload_n hO 2 dX8_sheet_7 rfl ?_
    refine z_csQ hO (t_X8_isLane (by omega)) cs_X8_200 rfl rfl (by decide) (Nat.le_of_ble_eq_true rfl) dX8_sheet_8 (fun c8 => ?_) (fun c8 => ?_)
    ·
      refine z_if_eq hO 20 dX8_sheet_11 (by decide) (by decide) (fun c11 => absurd c11 (by omega)) (fun c11 => ?_)
      refine z_iload_n hO 3 dX8_sheet_14 rfl ?_
      refine z_bipush hO dX8_sheet_15 (by decide) ?_
      refine z_icmp_le hO 22 dX8_sheet_17 (by decide) (by omega) (by decide) (fun c17 => ?_) (fun c17 => ?_)
      ·
        refine z_iload_n hO 3 dX8_sheet_22 rfl ?_
        refine z_if_ge hO 29 dX8_sheet_23 (by decide) (by omega) (fun c23 => ?_) (fun c23 => ?_)
        ·
          refine z_aload_n hO 0 dX8_sheet_29 rfl ?_
          refine z_getR hO (104) fl_X8_50 rfl rfl dX8_sheet_30 ?_
          refine z_iload_n hO 1 dX8_sheet_33 rfl ?_
          have hds := sd_i s.toNat (by omega)
          have hzs := hZ s (by omega) (by omega)
          refine z_aald hO (105 + 2 * s.toNat) rfl (by decide) (by simp only [List.length_cons, List.length_nil]; omega) (by decide) (shs (by omega)) dX8_sheet_34 ?_
          refine z_iload_n hO 2 dX8_sheet_35 rfl ?_
          refine z_iload_n hO 3 dX8_sheet_36 rfl ?_
          refine z_cvV hO (t_X5_renew hds (by omega) (by omega)) cv_X8_215 hds.1 rfl rfl rfl (by decide) (Nat.le_of_ble_eq_true rfl) dX8_sheet_37 (fun s37 p37 => ?_)
          subst p37
          refine z_iload_n hO 3 dX8_sheet_40 rfl ?_
          exact z_retI hO hR dX8_sheet_41 (by (repeat' split) <;> first | rfl | (exfalso; omega))
        ·
          refine z_bipush hO dX8_sheet_26 (by decide) ?_
          exact z_retI hO hR dX8_sheet_28 (by (repeat' split) <;> first | rfl | (exfalso; omega))
      ·
        refine z_iconst hO dX8_sheet_20 ?_
        exact z_retI hO hR dX8_sheet_21 (by (repeat' split) <;> first | rfl | (exfalso; omega))
    ·
      refine z_if_eq hO 20 dX8_sheet_11 (by decide) (by decide) (fun c11 => ?_) (fun c11 => absurd c11 (by omega))
      refine z_iconst hO dX8_sheet_20 ?_
      exact z_retI hO hR dX8_sheet_21 (by (repeat' split) <;> first | rfl | (exfalso; omega))
  ·
    refine z_if_eq hO 20 dX8_sheet_4 (by decide) (by decide) (fun c4 => ?_) (fun c4 => absurd c4 (by omega))
    refine z_iconst hO dX8_sheet_20 ?_
    exact z_retI hO hR dX8_sheet_21 (by (repeat' split) <;> first | rfl | (exfalso; omega))

set_option maxHeartbeats 4000000 in
set_option maxRecDepth 100000 in
theorem t_X8_drop {g : G} {σ : Sg} {s : Int} (rs : -2147483648 ≤ s ∧ s ≤ 2147483647) (hZ : SZ σ) : MM g mX8_drop [.ref (g.2.2.1 0), vI s] σ (pI (fun r σ' => (r, σ') = if ¬ (0 ≤ s ∧ s ≤ 3) then (-1, σ) else if σ (105 + 2 * s.toNat) 1 < 0 then (-11, σ) else (σ (105 + 2 * s.toNat) 2, renS σ (105 + 2 * s.toNat) (-1) 0))) := by
  refine mm_of rfl (by decide) rfl rfl (Nat.le_of_ble_eq_true rfl) (fun x hO hR => ?_)
  refine z_iload_n hO 1 dX8_drop_0 rfl ?_
  refine z_csQ hO (t_X8_isSheet (by omega)) cs_X8_197 rfl rfl (by decide) (Nat.le_of_ble_eq_true rfl) dX8_drop_1 (fun c1 => ?_) (fun c1 => ?_)
  ·
    refine z_if_ne hO 9 dX8_drop_4 (by decide) (by decide) (fun c4 => ?_) (fun c4 => absurd c4 (by omega))
    refine z_aload_n hO 0 dX8_drop_9 rfl ?_
    refine z_getR hO (104) fl_X8_50 rfl rfl dX8_drop_10 ?_
    refine z_iload_n hO 1 dX8_drop_13 rfl ?_
    have hds := sd_i s.toNat (by omega)
    have hzs := hZ s (by omega) (by omega)
    refine z_aald hO (105 + 2 * s.toNat) rfl (by decide) (by simp only [List.length_cons, List.length_nil]; omega) (by decide) (shs (by omega)) dX8_drop_14 ?_
    refine z_astore_n hO (L' := [(2, _), (0, _), (1, _)]) dX8_drop_15 (by decide) rfl ?_
    refine z_aload_n hO 0 dX8_drop_16 rfl ?_
    refine z_getI hO 1 fl_X8_218 hds.1 rfl rfl dX8_drop_17 (fun r17 => ?_)
    refine z_if_ge hO 26 dX8_drop_20 (by decide) (by omega) (fun c20 => ?_) (fun c20 => ?_)
    ·
      refine z_aload_n hO 0 dX8_drop_26 rfl ?_
      refine z_getI hO 2 fl_X8_221 hds.1 rfl rfl dX8_drop_27 (fun r27 => ?_)
      refine z_istore_n hO (L' := [(3, _), (2, _), (0, _), (1, _)]) dX8_drop_30 (by decide) rfl ?_
      refine z_aload_n hO 1 dX8_drop_31 rfl ?_
      refine z_iconst hO dX8_drop_32 ?_
      refine z_iconst hO dX8_drop_33 ?_
      refine z_cvV hO (t_X5_renew hds (by omega) (by omega)) cv_X8_215 hds.1 rfl rfl rfl (by decide) (Nat.le_of_ble_eq_true rfl) dX8_drop_34 (fun s34 p34 => ?_)
      subst p34
      refine z_iload_n hO 0 dX8_drop_37 rfl ?_
      exact z_retI hO hR dX8_drop_38 (by (repeat' split) <;> first | rfl | (exfalso; omega))
    ·
      refine z_bipush hO dX8_drop_23 (by decide) ?_
      exact z_retI hO hR dX8_drop_25 (by (repeat' split) <;> first | rfl | (exfalso; omega))
  ·
    refine z_if_ne hO 9 dX8_drop_4 (by decide) (by decide) (fun c4 => absurd c4 (by omega)) (fun c4 => ?_)
    refine z_iconst hO dX8_drop_7 ?_
    exact z_retI hO hR dX8_drop_8 (by (repeat' split) <;> first | rfl | (exfalso; omega))

set_option maxHeartbeats 4000000 in
set_option maxRecDepth 100000 in
theorem t_X8_item {g : G} {σ : Sg} {s lane i v : Int} (rs : -2147483648 ≤ s ∧ s ≤ 2147483647) (rl : -2147483648 ≤ lane ∧ lane ≤ 2147483647) (ri : -2147483648 ≤ i ∧ i ≤ 2147483647) (rv : -9223372036854775808 ≤ v ∧ v ≤ 9223372036854775807) (hZ : SZ σ) : MM g mX8_item [.ref (g.2.2.1 0), vI s, vI lane, vI i, vL v] σ (pI (fun r σ' => (r, σ') = if ¬ (0 ≤ s ∧ s ≤ 3) ∨ ¬ (0 ≤ lane ∧ lane ≤ 3) then (-1, σ) else if σ (105 + 2 * s.toNat) 1 < 0 then (-11, σ) else if σ (105 + 2 * s.toNat) 1 ≠ lane then (-12, σ) else if i < 0 ∨ σ (105 + 2 * s.toNat) 2 - 1 < i then (-13, σ) else (1, up σ (105 + 2 * s.toNat + 1) i (cutF v (σ (105 + 2 * s.toNat) 1))))) := by
  refine mm_of rfl (by decide) rfl rfl (Nat.le_of_ble_eq_true rfl) (fun x hO hR => ?_)
  refine z_iload_n hO 1 dX8_item_0 rfl ?_
  refine z_csQ hO (t_X8_isSheet (by omega)) cs_X8_197 rfl rfl (by decide) (Nat.le_of_ble_eq_true rfl) dX8_item_1 (fun c1 => ?_) (fun c1 => ?_)
  ·
    refine z_if_eq hO 14 dX8_item_4 (by decide) (by decide) (fun c4 => absurd c4 (by omega)) (fun c4 => ?_)
    refine z_iload_n hO 2 dX8_item_7 rfl ?_
    refine z_csQ hO (t_X8_isLane (by omega)) cs_X8_200 rfl rfl (by decide) (Nat.le_of_ble_eq_true rfl) dX8_item_8 (fun c8 => ?_) (fun c8 => ?_)
    ·
      refine z_if_ne hO 16 dX8_item_11 (by decide) (by decide) (fun c11 => ?_) (fun c11 => absurd c11 (by omega))
      refine z_aload_n hO 0 dX8_item_16 rfl ?_
      refine z_getR hO (104) fl_X8_50 rfl rfl dX8_item_17 ?_
      refine z_iload_n hO 1 dX8_item_20 rfl ?_
      have hds := sd_i s.toNat (by omega)
      have hzs := hZ s (by omega) (by omega)
      refine z_aald hO (105 + 2 * s.toNat) rfl (by decide) (by simp only [List.length_cons, List.length_nil]; omega) (by decide) (shs (by omega)) dX8_item_21 ?_
      refine z_astore hO (L' := [(6, _), (0, _), (1, _), (2, _), (3, _), (4, _)]) dX8_item_22 (by decide) rfl ?_
      refine z_aload hO 0 dX8_item_24 rfl ?_
      refine z_iload_n hO 3 dX8_item_26 rfl ?_
      refine z_iload_n hO 4 dX8_item_27 rfl ?_
      refine z_iconst hO dX8_item_28 ?_
      refine z_cvE hO (t_X5_refusal hds (by omega) (by omega) (by omega) hzs.1) cv_X8_203 hds.1 rfl rfl rfl (by decide) (Nat.le_of_ble_eq_true rfl) dX8_item_29 ?_
      refine z_istore hO (L' := [(7, _), (6, _), (0, _), (1, _), (2, _), (3, _), (4, _)]) dX8_item_32 (by decide) rfl ?_
      refine z_iload hO 0 dX8_item_34 rfl ?_
      refine z_if_eq hO 42 dX8_item_36 (by decide) (by (repeat' split) <;> omega) (fun c36 => ?_) (fun c36 => ?_)
      ·
        refine z_aload hO 1 dX8_item_42 rfl ?_
        refine z_iload_n hO 5 dX8_item_44 rfl ?_
        refine z_lload hO 6 dX8_item_45 rfl ?_
        refine z_cvV hO (t_X5_put hds (by omega) (by omega) hzs.1) cv_X8_211 hds.1 rfl rfl rfl (by decide) (Nat.le_of_ble_eq_true rfl) dX8_item_47 (fun s47 p47 => ?_)
        subst p47
        refine z_iconst hO dX8_item_50 ?_
        exact z_retI hO hR dX8_item_51 (by (repeat' split) <;> first | rfl | (exfalso; omega) | (exfalso; simp_all; done) | (simp_all; omega))
      ·
        refine z_iload hO 0 dX8_item_39 rfl ?_
        exact z_retI hO hR dX8_item_41 (by (repeat' split) <;> first | rfl | (exfalso; omega) | (exfalso; simp_all; done) | (simp_all; omega))
    ·
      refine z_if_ne hO 16 dX8_item_11 (by decide) (by decide) (fun c11 => absurd c11 (by omega)) (fun c11 => ?_)
      refine z_iconst hO dX8_item_14 ?_
      exact z_retI hO hR dX8_item_15 (by (repeat' split) <;> first | rfl | (exfalso; omega) | (exfalso; simp_all; done) | (simp_all; omega))
  ·
    refine z_if_eq hO 14 dX8_item_4 (by decide) (by decide) (fun c4 => ?_) (fun c4 => absurd c4 (by omega))
    refine z_iconst hO dX8_item_14 ?_
    exact z_retI hO hR dX8_item_15 (by (repeat' split) <;> first | rfl | (exfalso; omega) | (exfalso; simp_all; done) | (simp_all; omega))

set_option maxHeartbeats 4000000 in
set_option maxRecDepth 100000 in
theorem t_X8_copy {g : G} {σ : Sg} {a i b j n : Int} (ra : -2147483648 ≤ a ∧ a ≤ 2147483647) (ri : -2147483648 ≤ i ∧ i ≤ 2147483647) (rb : -2147483648 ≤ b ∧ b ≤ 2147483647) (rj : -2147483648 ≤ j ∧ j ≤ 2147483647) (rn : -2147483648 ≤ n ∧ n ≤ 2147483647) (hZ : SZ σ) : MM g mX8_copy [.ref (g.2.2.1 0), vI a, vI i, vI b, vI j, vI n] σ (pI (fun r σ' => (r, σ') = if ¬ (0 ≤ a ∧ a ≤ 3) ∨ ¬ (0 ≤ b ∧ b ≤ 3) then (-1, σ) else if σ (105 + 2 * a.toNat) 1 < 0 ∨ σ (105 + 2 * b.toNat) 1 < 0 then (-11, σ) else if σ (105 + 2 * a.toNat) 1 ≠ σ (105 + 2 * b.toNat) 1 then (-12, σ) else if n < 0 ∨ i < 0 ∨ j < 0 ∨ σ (105 + 2 * a.toNat) 2 - n < i ∨ σ (105 + 2 * b.toNat) 2 - n < j then (-13, σ) else (n, cp σ (105 + 2 * a.toNat + 1) i (105 + 2 * b.toNat + 1) j n))) := by
  refine mm_of rfl (by decide) rfl rfl (Nat.le_of_ble_eq_true rfl) (fun x hO hR => ?_)
  refine z_iload_n hO 1 dX8_copy_0 rfl ?_
  refine z_csQ hO (t_X8_isSheet (by omega)) cs_X8_197 rfl rfl (by decide) (Nat.le_of_ble_eq_true rfl) dX8_copy_1 (fun c1 => ?_) (fun c1 => ?_)
  ·
    refine z_if_eq hO 14 dX8_copy_4 (by decide) (by decide) (fun c4 => absurd c4 (by omega)) (fun c4 => ?_)
    refine z_iload_n hO 3 dX8_copy_7 rfl ?_
    refine z_csQ hO (t_X8_isSheet (by omega)) cs_X8_197 rfl rfl (by decide) (Nat.le_of_ble_eq_true rfl) dX8_copy_8 (fun c8 => ?_) (fun c8 => ?_)
    ·
      refine z_if_ne hO 16 dX8_copy_11 (by decide) (by decide) (fun c11 => ?_) (fun c11 => absurd c11 (by omega))
      refine z_aload_n hO 0 dX8_copy_16 rfl ?_
      refine z_getR hO (104) fl_X8_50 rfl rfl dX8_copy_17 ?_
      refine z_iload_n hO 1 dX8_copy_20 rfl ?_
      have hda := sd_i a.toNat (by omega)
      have hza := hZ a (by omega) (by omega)
      refine z_aald hO (105 + 2 * a.toNat) rfl (by decide) (by simp only [List.length_cons, List.length_nil]; omega) (by decide) (shs (by omega)) dX8_copy_21 ?_
      refine z_astore hO (L' := [(6, _), (0, _), (1, _), (2, _), (3, _), (4, _), (5, _)]) dX8_copy_22 (by decide) rfl ?_
      refine z_aload_n hO 1 dX8_copy_24 rfl ?_
      refine z_getR hO (104) fl_X8_50 rfl rfl dX8_copy_25 ?_
      refine z_iload_n hO 4 dX8_copy_28 rfl ?_
      have hdb := sd_i b.toNat (by omega)
      have hzb := hZ b (by omega) (by omega)
      refine z_aald hO (105 + 2 * b.toNat) rfl (by decide) (by simp only [List.length_cons, List.length_nil]; omega) (by decide) (shs (by omega)) dX8_copy_29 ?_
      refine z_astore hO (L' := [(7, _), (6, _), (0, _), (1, _), (2, _), (3, _), (4, _), (5, _)]) dX8_copy_30 (by decide) rfl ?_
      refine z_aload hO 1 dX8_copy_32 rfl ?_
      refine z_getI hO 1 fl_X8_218 hda.1 rfl rfl dX8_copy_34 (fun r34 => ?_)
      refine z_if_lt hO 48 dX8_copy_37 (by decide) (by omega) (fun c37 => ?_) (fun c37 => ?_)
      ·
        refine z_bipush hO dX8_copy_48 (by decide) ?_
        exact z_retI hO hR dX8_copy_50 (by (repeat' split) <;> first | rfl | (exfalso; omega))
      ·
        refine z_aload hO 0 dX8_copy_40 rfl ?_
        refine z_getI hO 1 fl_X8_218 hdb.1 rfl rfl dX8_copy_42 (fun r42 => ?_)
        refine z_if_ge hO 51 dX8_copy_45 (by decide) (by omega) (fun c45 => ?_) (fun c45 => ?_)
        ·
          refine z_aload hO 1 dX8_copy_51 rfl ?_
          refine z_getI hO 1 fl_X8_218 hda.1 rfl rfl dX8_copy_53 (fun r53 => ?_)
          refine z_aload hO 0 dX8_copy_56 rfl ?_
          refine z_getI hO 1 fl_X8_218 hdb.1 rfl rfl dX8_copy_58 (fun r58 => ?_)
          refine z_icmp_eq hO 67 dX8_copy_61 (by decide) (by omega) (by omega) (fun c61 => ?_) (fun c61 => ?_)
          ·
            refine z_aload hO 1 dX8_copy_67 rfl ?_
            refine z_iload_n hO 4 dX8_copy_69 rfl ?_
            refine z_iload hO 7 dX8_copy_70 rfl ?_
            refine z_cvQ hO (t_X5_lacks hda (by omega) (by omega) hza.1) cv_X8_222 hda.1 rfl rfl rfl (by decide) (Nat.le_of_ble_eq_true rfl) dX8_copy_72 (fun c72 => ?_) (fun c72 => ?_)
            ·
              refine z_if_ne hO 90 dX8_copy_75 (by decide) (by decide) (fun c75 => ?_) (fun c75 => absurd c75 (by omega))
              refine z_bipush hO dX8_copy_90 (by decide) ?_
              exact z_retI hO hR dX8_copy_92 (by (repeat' split) <;> first | rfl | (exfalso; omega))
            ·
              refine z_if_ne hO 90 dX8_copy_75 (by decide) (by decide) (fun c75 => absurd c75 (by omega)) (fun c75 => ?_)
              refine z_aload hO 0 dX8_copy_78 rfl ?_
              refine z_iload hO 6 dX8_copy_80 rfl ?_
              refine z_iload hO 7 dX8_copy_82 rfl ?_
              refine z_cvQ hO (t_X5_lacks hdb (by omega) (by omega) hzb.1) cv_X8_222 hdb.1 rfl rfl rfl (by decide) (Nat.le_of_ble_eq_true rfl) dX8_copy_84 (fun c84 => ?_) (fun c84 => ?_)
              ·
                refine z_if_eq hO 93 dX8_copy_87 (by decide) (by decide) (fun c87 => absurd c87 (by omega)) (fun c87 => ?_)
                refine z_bipush hO dX8_copy_90 (by decide) ?_
                exact z_retI hO hR dX8_copy_92 (by (repeat' split) <;> first | rfl | (exfalso; omega))
              ·
                refine z_if_eq hO 93 dX8_copy_87 (by decide) (by decide) (fun c87 => ?_) (fun c87 => absurd c87 (by omega))
                refine z_aload hO 1 dX8_copy_93 rfl ?_
                refine z_getR hO (105 + 2 * a.toNat + 1) fl_X8_225 hda.1 rfl dX8_copy_95 ?_
                refine z_iload_n hO 4 dX8_copy_98 rfl ?_
                refine z_aload hO 0 dX8_copy_99 rfl ?_
                refine z_getR hO (105 + 2 * b.toNat + 1) fl_X8_225 hdb.1 rfl dX8_copy_101 ?_
                refine z_iload hO 6 dX8_copy_104 rfl ?_
                refine z_iload hO 7 dX8_copy_106 rfl ?_
                refine z_copyL hO ac_X8_229 (by decide) hda.2 hdb.2 (by decide) (by decide) (by omega) (by omega) (by omega) (by omega) (by omega) (Nat.le_of_ble_eq_true rfl) dX8_copy_108 ?_
                refine z_iload hO 7 dX8_copy_111 rfl ?_
                exact z_retI hO hR dX8_copy_113 (by (repeat' split) <;> first | rfl | (exfalso; omega))
          ·
            refine z_bipush hO dX8_copy_64 (by decide) ?_
            exact z_retI hO hR dX8_copy_66 (by (repeat' split) <;> first | rfl | (exfalso; omega))
        ·
          refine z_bipush hO dX8_copy_48 (by decide) ?_
          exact z_retI hO hR dX8_copy_50 (by (repeat' split) <;> first | rfl | (exfalso; omega))
    ·
      refine z_if_ne hO 16 dX8_copy_11 (by decide) (by decide) (fun c11 => absurd c11 (by omega)) (fun c11 => ?_)
      refine z_iconst hO dX8_copy_14 ?_
      exact z_retI hO hR dX8_copy_15 (by (repeat' split) <;> first | rfl | (exfalso; omega))
  ·
    refine z_if_eq hO 14 dX8_copy_4 (by decide) (by decide) (fun c4 => ?_) (fun c4 => absurd c4 (by omega))
    refine z_iconst hO dX8_copy_14 ?_
    exact z_retI hO hR dX8_copy_15 (by (repeat' split) <;> first | rfl | (exfalso; omega))
