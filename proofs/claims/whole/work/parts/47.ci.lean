set_option maxHeartbeats 4000000 in
set_option maxRecDepth 100000 in
theorem t_X4_wordOfLetter {g : G} {σ : Sg} {l : Int} (rl : -2147483648 ≤ l ∧ l ≤ 2147483647) : MM g mX4_wordOfLetter [vI l] σ (pI (pE (ltC l) σ)) := by
  refine mm_of rfl (by decide) rfl rfl (Nat.le_of_ble_eq_true rfl) (fun x hO hR => ?_)
  refine z_iload_n hO 0 dX4_wordOfLetter_0 rfl ?_
  rcases (show l = 97 ∨ l = 104 ∨ l = 110 ∨ l = 115 ∨ l = 116 ∨ (l ≠ 97 ∧ l ≠ 104 ∧ l ≠ 110 ∧ l ≠ 115 ∧ l ≠ 116) by omega) with h1 | h1 | h1 | h1 | h1 | h1
  ·
    refine z_lsw hO 58 dX4_wordOfLetter_1 (by decide) (by omega) (by rw [h1]; first | done | rfl) (by decide) ?_
    refine z_bipush hO dX4_wordOfLetter_58 (by decide) ?_
    exact z_retE hO hR dX4_wordOfLetter_60 (by unfold ltC; (repeat' split) <;> omega) rfl
  ·
    refine z_lsw hO 52 dX4_wordOfLetter_1 (by decide) (by omega) (by rw [h1]; first | done | rfl) (by decide) ?_
    refine z_bipush hO dX4_wordOfLetter_52 (by decide) ?_
    exact z_retE hO hR dX4_wordOfLetter_54 (by unfold ltC; (repeat' split) <;> omega) rfl
  ·
    refine z_lsw hO 64 dX4_wordOfLetter_1 (by decide) (by omega) (by rw [h1]; first | done | rfl) (by decide) ?_
    refine z_iconst hO dX4_wordOfLetter_64 ?_
    exact z_retE hO hR dX4_wordOfLetter_65 (by unfold ltC; (repeat' split) <;> omega) rfl
  ·
    refine z_lsw hO 61 dX4_wordOfLetter_1 (by decide) (by omega) (by rw [h1]; first | done | rfl) (by decide) ?_
    refine z_bipush hO dX4_wordOfLetter_61 (by decide) ?_
    exact z_retE hO hR dX4_wordOfLetter_63 (by unfold ltC; (repeat' split) <;> omega) rfl
  ·
    refine z_lsw hO 55 dX4_wordOfLetter_1 (by decide) (by omega) (by rw [h1]; first | done | rfl) (by decide) ?_
    refine z_bipush hO dX4_wordOfLetter_55 (by decide) ?_
    exact z_retE hO hR dX4_wordOfLetter_57 (by unfold ltC; (repeat' split) <;> omega) rfl
  ·
    refine z_lsw hO (off := 65) 66 dX4_wordOfLetter_1 (by decide) (by omega) (by obtain ⟨a1, a2, a3, a4, a5⟩ := h1; simp [Op.lookupswitch.offset, a1, a2, a3, a4, a5, Ne.symm a1, Ne.symm a2, Ne.symm a3, Ne.symm a4, Ne.symm a5]) (by decide) ?_
    refine z_iconst hO dX4_wordOfLetter_66 ?_
    exact z_retE hO hR dX4_wordOfLetter_67 (by unfold ltC; (repeat' split) <;> omega) rfl

def vlC (v : Int) : Int := if 1 ≤ v ∧ v ≤ 19 then v else if 19 < v ∧ v % 10 = 0 then 18 + v / 10 else -1
theorem ltC_eq (l : Int) : ltC l = if ltW l = -4 then -1 else ltW l := by unfold ltC ltW; (repeat' split) <;> omega
theorem vlC_eq {v : Int} (h : 0 ≤ v ∧ v ≤ 99) : vlC v = if vlW v = -4 then -1 else vlW v := by unfold vlC vlW; (repeat' split) <;> omega

set_option maxHeartbeats 4000000 in
set_option maxRecDepth 100000 in
theorem t_X4_wordOfValue {g : G} {σ : Sg} {v : Int} (hv : 0 ≤ v ∧ v ≤ 99) : MM g mX4_wordOfValue [vI v] σ (pI (pE (vlC v) σ)) := by
  refine mm_of rfl (by decide) rfl rfl (Nat.le_of_ble_eq_true rfl) (fun x hO hR => ?_)
  refine z_iload_n hO 0 dX4_wordOfValue_0 rfl ?_
  refine z_iconst hO dX4_wordOfValue_1 ?_
  refine z_icmp_lt hO 13 dX4_wordOfValue_2 (by decide) (by omega) (by decide) (fun c2 => ?_) (fun c2 => ?_)
  ·
    refine z_iload_n hO 0 dX4_wordOfValue_13 rfl ?_
    refine z_bipush hO dX4_wordOfValue_14 (by decide) ?_
    refine z_icmp_lt hO 33 dX4_wordOfValue_16 (by decide) (by omega) (by decide) (fun c16 => ?_) (fun c16 => ?_)
    ·
      refine z_iconst hO dX4_wordOfValue_33 ?_
      exact z_retE hO hR dX4_wordOfValue_34 (by unfold vlC; (repeat' split) <;> omega) rfl
    ·
      refine z_iload_n hO 0 dX4_wordOfValue_19 rfl ?_
      refine z_bipush hO dX4_wordOfValue_20 (by decide) ?_
      refine z_irem hO dX4_wordOfValue_22 (by omega) (by omega) ?_
      refine z_if_ne hO 33 dX4_wordOfValue_23 (by decide) (by omega) (fun c23 => ?_) (fun c23 => ?_)
      ·
        refine z_iconst hO dX4_wordOfValue_33 ?_
        exact z_retE hO hR dX4_wordOfValue_34 (by unfold vlC; (repeat' split) <;> omega) rfl
      ·
        refine z_iload_n hO 0 dX4_wordOfValue_26 rfl ?_
        refine z_csE hO (t_X4_tensWord (by omega)) cs_X4_64 rfl rfl (by decide) (Nat.le_of_ble_eq_true rfl) dX4_wordOfValue_27 ?_
        refine z_goto hO 34 dX4_wordOfValue_30 (by decide) ?_
        exact z_retE hO hR dX4_wordOfValue_34 (by unfold vlC; (repeat' split) <;> omega) rfl
  ·
    refine z_iload_n hO 0 dX4_wordOfValue_5 rfl ?_
    refine z_bipush hO dX4_wordOfValue_6 (by decide) ?_
    refine z_icmp_gt hO 13 dX4_wordOfValue_8 (by decide) (by omega) (by decide) (fun c8 => ?_) (fun c8 => ?_)
    ·
      refine z_iload_n hO 0 dX4_wordOfValue_13 rfl ?_
      refine z_bipush hO dX4_wordOfValue_14 (by decide) ?_
      refine z_icmp_lt hO 33 dX4_wordOfValue_16 (by decide) (by omega) (by decide) (fun c16 => ?_) (fun c16 => ?_)
      ·
        refine z_iconst hO dX4_wordOfValue_33 ?_
        exact z_retE hO hR dX4_wordOfValue_34 (by unfold vlC; (repeat' split) <;> omega) rfl
      ·
        refine z_iload_n hO 0 dX4_wordOfValue_19 rfl ?_
        refine z_bipush hO dX4_wordOfValue_20 (by decide) ?_
        refine z_irem hO dX4_wordOfValue_22 (by omega) (by omega) ?_
        refine z_if_ne hO 33 dX4_wordOfValue_23 (by decide) (by omega) (fun c23 => ?_) (fun c23 => ?_)
        ·
          refine z_iconst hO dX4_wordOfValue_33 ?_
          exact z_retE hO hR dX4_wordOfValue_34 (by unfold vlC; (repeat' split) <;> omega) rfl
        ·
          refine z_iload_n hO 0 dX4_wordOfValue_26 rfl ?_
          refine z_csE hO (t_X4_tensWord (by omega)) cs_X4_64 rfl rfl (by decide) (Nat.le_of_ble_eq_true rfl) dX4_wordOfValue_27 ?_
          refine z_goto hO 34 dX4_wordOfValue_30 (by decide) ?_
          exact z_retE hO hR dX4_wordOfValue_34 (by unfold vlC; (repeat' split) <;> omega) rfl
    ·
      refine z_iload_n hO 0 dX4_wordOfValue_11 rfl ?_
      exact z_retE hO hR dX4_wordOfValue_12 (by unfold vlC; (repeat' split) <;> omega) rfl

set_option maxHeartbeats 4000000 in
set_option maxRecDepth 100000 in
theorem t_X4_valueFrom {g : G} {σ : Sg} {f : Int} (hf : 0 ≤ f ∧ f ≤ 9) (hT : TW (σ 82) (σ 81 1)) (hp : 0 ≤ σ 81 2 ∧ σ 81 2 ≤ σ 81 1) : MM g mX4_valueFrom [.ref (g.2.2.1 81), vI f] σ (pI (fun r σ' => (r, σ') = if σ 81 2 < σ 81 1 ∧ 48 ≤ σ 82 (σ 81 2) ∧ σ 82 (σ 81 2) ≤ 57 then (f * 10 + σ 82 (σ 81 2) - 48, up σ 81 2 (σ 81 2 + 1)) else (f, σ))) := by
  refine mm_of rfl (by decide) rfl rfl (Nat.le_of_ble_eq_true rfl) (fun x hO hR => ?_)
  have hn := hT.1
  refine z_aload_n hO 0 dX4_valueFrom_0 rfl ?_
  refine z_getI hO 2 fl_X4_24 rfl rfl rfl dX4_valueFrom_1 (fun r1 => ?_)
  refine z_aload_n hO 0 dX4_valueFrom_4 rfl ?_
  refine z_getI hO 1 fl_X4_15 rfl rfl rfl dX4_valueFrom_5 (fun r5 => ?_)
  refine z_icmp_ge hO 26 dX4_valueFrom_8 (by decide) (by omega) (by omega) (fun c8 => ?_) (fun c8 => ?_)
  ·
    refine z_iload_n hO 1 dX4_valueFrom_26 rfl ?_
    exact z_retI hO hR dX4_valueFrom_27 (by rw [if_neg (by omega)])
  ·
    refine z_aload_n hO 0 dX4_valueFrom_11 rfl ?_
    refine z_getR hO (82) fl_X4_9 rfl rfl dX4_valueFrom_12 ?_
    refine z_aload_n hO 0 dX4_valueFrom_15 rfl ?_
    refine z_getI hO 2 fl_X4_24 rfl rfl rfl dX4_valueFrom_16 (fun r16 => ?_)
    refine z_cald hO rfl (by have := hT.1; omega) (by decide) dX4_valueFrom_19 (fun r19 => ?_)
    refine z_csQ hO (t_X4_isDigit (by omega)) cs_X4_38 rfl rfl (by decide) (Nat.le_of_ble_eq_true rfl) dX4_valueFrom_20 (fun c20 => ?_) (fun c20 => ?_)
    ·
      refine z_if_ne hO 28 dX4_valueFrom_23 (by decide) (by decide) (fun c23 => ?_) (fun c23 => absurd c23 (by omega))
      refine z_iload_n hO 1 dX4_valueFrom_28 rfl ?_
      refine z_bipush hO dX4_valueFrom_29 (by decide) ?_
      refine z_imul hO dX4_valueFrom_31 ?_
      refine z_aload_n hO 0 dX4_valueFrom_32 rfl ?_
      refine z_getR hO (82) fl_X4_9 rfl rfl dX4_valueFrom_33 ?_
      refine z_aload_n hO 0 dX4_valueFrom_36 rfl ?_
      refine z_getI hO 2 fl_X4_24 rfl rfl rfl dX4_valueFrom_37 (fun r37 => ?_)
      refine z_cald hO rfl (by have := hT.1; omega) (by decide) dX4_valueFrom_40 (fun r40 => ?_)
      refine z_iadd hO dX4_valueFrom_41 ?_
      refine z_bipush hO dX4_valueFrom_42 (by decide) ?_
      refine z_isub hO dX4_valueFrom_44 ?_
      refine z_istore_n hO (L' := [(2, _), (0, _), (1, _)]) dX4_valueFrom_45 (by decide) rfl ?_
      refine z_aload_n hO 1 dX4_valueFrom_46 rfl ?_
      refine z_dup hO dX4_valueFrom_47 rfl ?_
      refine z_getI hO 2 fl_X4_24 rfl rfl rfl dX4_valueFrom_48 (fun r48 => ?_)
      refine z_iconst hO dX4_valueFrom_51 ?_
      refine z_iadd hO dX4_valueFrom_52 ?_
      refine z_putI hO 2 fp_X4_24 rfl rfl rfl (by omega) rfl rfl dX4_valueFrom_53 ?_
      refine z_iload_n hO 0 dX4_valueFrom_56 rfl ?_
      exact z_retI hO hR dX4_valueFrom_57 (by rw [if_pos (by omega)])
    ·
      refine z_if_ne hO 28 dX4_valueFrom_23 (by decide) (by decide) (fun c23 => absurd c23 (by omega)) (fun c23 => ?_)
      refine z_iload_n hO 1 dX4_valueFrom_26 rfl ?_
      exact z_retI hO hR dX4_valueFrom_27 (by rw [if_neg (by omega)])
