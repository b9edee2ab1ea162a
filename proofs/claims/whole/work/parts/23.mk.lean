set_option maxHeartbeats 4000000 in
set_option maxRecDepth 100000 in
theorem lp_sheet {g : G} {x : Cx} {σ : Sg} {s n : Int} (hO : Ok g x RX9 cX9_sheet 5 3) (hs : 0 ≤ s ∧ s ≤ 3) (hE : Z g x 5 77 [(0, .ref (g.2.2.1 113)), (1, vI s), (3, vI n), (4, vI (24))] [] (fl σ 132 (24 * s) (24 * s + (24 - 0)) (fun _ => 0))) : ∀ (k : Nat) (i : Int), 0 ≤ i → i ≤ 24 → 24 - i < k → Z g x 5 51 [(0, .ref (g.2.2.1 113)), (1, vI s), (3, vI n), (4, vI i)] [] (fl σ 132 (24 * s) (24 * s + (i - 0)) (fun _ => 0)) := by
  intro k
  induction k with
  | zero => intro i h0 h1 h2; exact absurd h2 (by omega)
  | succ k ih =>
    intro i h0 h1 h2
    refine z_iload hO 3 dX9_sheet_51 rfl ?_
    refine z_bipush hO dX9_sheet_53 (by decide) ?_
    refine z_icmp_ge hO 77 dX9_sheet_55 (by decide) (by omega) (by decide) (fun c55 => ?_) (fun c55 => ?_)
    ·
      have ei : i = 24 := by omega
      rw [ei]
      exact z_pick [0, 1, 2, 3] rfl hE
    ·
      refine z_aload_n hO 0 dX9_sheet_58 rfl ?_
      refine z_getR hO (132) fl_X9_69 rfl rfl dX9_sheet_59 ?_
      refine z_bipush hO dX9_sheet_62 (by decide) ?_
      refine z_iload_n hO 1 dX9_sheet_64 rfl ?_
      refine z_imul hO dX9_sheet_65 ?_
      refine z_iload hO 3 dX9_sheet_66 rfl ?_
      refine z_iadd hO dX9_sheet_68 ?_
      refine z_lconst hO 0 dX9_sheet_69 (by decide) ?_
      refine z_last hO rfl (by omega) (by decide) (by omega) dX9_sheet_70 ?_
      refine z_iinc hO (L' := [(4, _), (0, _), (1, _), (3, _)]) 3 dX9_sheet_71 rfl (by decide) rfl ?_
      refine z_goto hO 51 dX9_sheet_74 (by decide) ?_
      refine z_sg (fl_s (by omega) (by omega) (by first | rfl | (congr 1; omega) | (dsimp only; congr 1; omega) | (simp only []; omega)) (show 24 * s + (i + 1 - 0) = _ by omega)) ?_
      exact z_pick [1, 2, 3, 0] rfl (ih (i + 1) (by omega) (by omega) (by omega))

set_option maxHeartbeats 4000000 in
set_option maxRecDepth 100000 in
theorem t_X9_sheet {g : G} {σ : Sg} {s lane n : Int} (rs : -2147483648 ≤ s ∧ s ≤ 2147483647) (rl : -2147483648 ≤ lane ∧ lane ≤ 2147483647) (rn : -2147483648 ≤ n ∧ n ≤ 2147483647) : MM g mX9_sheet [.ref (g.2.2.1 113), vI s, vI lane, vI n] σ (pI (fun r σ' => (r, σ') = if ¬ (0 ≤ s ∧ s ≤ 3) ∨ ¬ (0 ≤ lane ∧ lane ≤ 3) ∨ 24 < n then (-1, σ) else if n < 0 then (-14, σ) else (n, fl (up (up σ 130 s lane) 131 s n) 132 (24 * s) (24 * s + (24 - 0)) (fun _ => 0)))) := by
  refine mm_of rfl (by decide) rfl rfl (Nat.le_of_ble_eq_true rfl) (fun x hO hR => ?_)
  refine z_iload_n hO 1 dX9_sheet_0 rfl ?_
  refine z_csQ hO (t_X9_isSheet (by omega)) cs_X9_282 rfl rfl (by decide) (Nat.le_of_ble_eq_true rfl) dX9_sheet_1 (fun c1 => ?_) (fun c1 => ?_)
  ·
    refine z_if_eq hO 25 dX9_sheet_4 (by decide) (by decide) (fun c4 => absurd c4 (by omega)) (fun c4 => ?_)
    refine z_iload_n hO 2 dX9_sheet_7 rfl ?_
    refine z_i2l hO dX9_sheet_8 (by omega) ?_
    refine z_lconst hO 0 dX9_sheet_9 (by decide) ?_
    refine z_ldc2 hO k_X9_280 dX9_sheet_10 ?_
    refine z_csQ hO (t_X9_in (by omega) (by omega) (by omega)) cs_X9_75 rfl rfl (by decide) (Nat.le_of_ble_eq_true rfl) dX9_sheet_13 (fun c13 => ?_) (fun c13 => ?_)
    ·
      refine z_if_eq hO 25 dX9_sheet_16 (by decide) (by decide) (fun c16 => absurd c16 (by omega)) (fun c16 => ?_)
      refine z_iload_n hO 3 dX9_sheet_19 rfl ?_
      refine z_bipush hO dX9_sheet_20 (by decide) ?_
      refine z_icmp_le hO 27 dX9_sheet_22 (by decide) (by omega) (by decide) (fun c22 => ?_) (fun c22 => ?_)
      ·
        refine z_iload_n hO 3 dX9_sheet_27 rfl ?_
        refine z_if_ge hO 34 dX9_sheet_28 (by decide) (by omega) (fun c28 => ?_) (fun c28 => ?_)
        ·
          refine z_aload_n hO 0 dX9_sheet_34 rfl ?_
          refine z_getR hO (130) fl_X9_63 rfl rfl dX9_sheet_35 ?_
          refine z_iload_n hO 1 dX9_sheet_38 rfl ?_
          refine z_iload_n hO 2 dX9_sheet_39 rfl ?_
          refine z_iast hO rfl (by omega) (by decide) (by omega) dX9_sheet_40 ?_
          refine z_aload_n hO 0 dX9_sheet_41 rfl ?_
          refine z_getR hO (131) fl_X9_66 rfl rfl dX9_sheet_42 ?_
          refine z_iload_n hO 1 dX9_sheet_45 rfl ?_
          refine z_iload_n hO 3 dX9_sheet_46 rfl ?_
          refine z_iast hO rfl (by omega) (by decide) (by omega) dX9_sheet_47 ?_
          refine z_iconst hO dX9_sheet_48 ?_
          refine z_istore hO (L' := [(4, _), (0, _), (1, _), (2, _), (3, _)]) dX9_sheet_49 (by decide) rfl ?_
          refine z_sg (fl_0 (c := 132) (lo := 24 * s) (hi := 24 * s + (0 - 0)) (f := fun _ => 0) (by omega)).symm ?_
          refine z_pick [1, 2, 4, 0] rfl (lp_sheet hO (by omega) ?_ 25 0 (by decide) (by decide) (by decide))
          refine z_iload_n hO 2 dX9_sheet_77 rfl ?_
          exact z_retI hO hR dX9_sheet_78 (by rw [if_neg (by omega), if_neg (by omega)])
        ·
          refine z_bipush hO dX9_sheet_31 (by decide) ?_
          exact z_retI hO hR dX9_sheet_33 (by rw [if_neg (by omega), if_pos (by omega)])
      ·
        refine z_iconst hO dX9_sheet_25 ?_
        exact z_retI hO hR dX9_sheet_26 (by rw [if_pos (by omega)])
    ·
      refine z_if_eq hO 25 dX9_sheet_16 (by decide) (by decide) (fun c16 => ?_) (fun c16 => absurd c16 (by omega))
      refine z_iconst hO dX9_sheet_25 ?_
      exact z_retI hO hR dX9_sheet_26 (by rw [if_pos (by omega)])
  ·
    refine z_if_eq hO 25 dX9_sheet_4 (by decide) (by decide) (fun c4 => ?_) (fun c4 => absurd c4 (by omega))
    refine z_iconst hO dX9_sheet_25 ?_
    exact z_retI hO hR dX9_sheet_26 (by rw [if_pos (by omega)])

set_option maxHeartbeats 4000000 in
set_option maxRecDepth 100000 in
theorem lp_copy1 {g : G} {x : Cx} {σ : Sg} {a i0 b j0 n : Int} (hO : Ok g x RX9 cX9_copy 7 3) (ha : 0 ≤ a ∧ a ≤ 3) (hb : 0 ≤ b ∧ b ≤ 3) (hi : 0 ≤ i0 ∧ i0 + n ≤ 24) (hj : 0 ≤ j0 ∧ j0 + n ≤ 24) (hn : 0 ≤ n) (hE : Z g x 7 144 [(0, .ref (g.2.2.1 113)), (1, vI a), (2, vI i0), (3, vI b), (4, vI j0), (5, vI n), (6, vI (n))] [] (fl σ 133 (0) (0 + (n - 0)) (fun k => σ 132 (24 * a + i0 + k)))) : ∀ (k : Nat) (i : Int), 0 ≤ i → i ≤ n → n - i < k → Z g x 7 110 [(0, .ref (g.2.2.1 113)), (1, vI a), (2, vI i0), (3, vI b), (4, vI j0), (5, vI n), (6, vI i)] [] (fl σ 133 (0) (0 + (i - 0)) (fun k => σ 132 (24 * a + i0 + k))) := by
  intro k
  induction k with
  | zero => intro i h0 h1 h2; exact absurd h2 (by omega)
  | succ k ih =>
    intro i h0 h1 h2
    refine z_iload hO 6 dX9_copy_110 rfl ?_
    refine z_iload hO 5 dX9_copy_112 rfl ?_
    refine z_icmp_ge hO 144 dX9_copy_114 (by decide) (by omega) (by omega) (fun c114 => ?_) (fun c114 => ?_)
    ·
      have ei : i = n := by omega
      rw [ei]
      exact z_pick [0, 1, 2, 3, 4, 5, 6] rfl hE
    ·
      refine z_aload_n hO 0 dX9_copy_117 rfl ?_
      refine z_getR hO (133) fl_X9_72 rfl rfl dX9_copy_118 ?_
      refine z_iload hO 6 dX9_copy_121 rfl ?_
      refine z_aload_n hO 0 dX9_copy_123 rfl ?_
      refine z_getR hO (132) fl_X9_69 rfl rfl dX9_copy_124 ?_
      refine z_bipush hO dX9_copy_127 (by decide) ?_
      refine z_iload_n hO 1 dX9_copy_129 rfl ?_
      refine z_imul hO dX9_copy_130 ?_
      refine z_iload_n hO 2 dX9_copy_131 rfl ?_
      refine z_iadd hO dX9_copy_132 ?_
      refine z_iload hO 6 dX9_copy_133 rfl ?_
      refine z_iadd hO dX9_copy_135 ?_
      refine z_lald hO rfl (by omega) (by decide) dX9_copy_136 (fun r136 => ?_)
      try simp (disch := omega) only [fl_row_ne, fl_ne, up_row_ne, up_ne, up_eq, up_nk, up_up, up_self, ne_eq, Nat.reduceEqDiff, Int.reduceEq, reduceCtorEq, not_false_eq_true, not_true_eq_false, fl_out] at r136 ⊢
      refine z_last hO rfl (by omega) (by decide) (by omega) dX9_copy_137 ?_
      refine z_iinc hO (L' := [(6, _), (0, _), (1, _), (2, _), (3, _), (4, _), (5, _)]) 6 dX9_copy_138 rfl (by decide) rfl ?_
      refine z_goto hO 110 dX9_copy_141 (by decide) ?_
      refine z_sg (fl_s (by omega) (by omega) (by first | rfl | (congr 1; omega) | (dsimp only; congr 1; omega) | (simp only []; omega)) (show 0 + (i + 1 - 0) = _ by omega)) ?_
      exact z_pick [1, 2, 3, 4, 5, 6, 0] rfl (ih (i + 1) (by omega) (by omega) (by omega))

set_option maxHeartbeats 4000000 in
set_option maxRecDepth 100000 in
theorem lp_copy2 {g : G} {x : Cx} {σ : Sg} {a i0 b j0 n : Int} (hO : Ok g x RX9 cX9_copy 7 3) (ha : 0 ≤ a ∧ a ≤ 3) (hb : 0 ≤ b ∧ b ≤ 3) (hi : 0 ≤ i0 ∧ i0 + n ≤ 24) (hj : 0 ≤ j0 ∧ j0 + n ≤ 24) (hn : 0 ≤ n) (hE : Z g x 7 182 [(0, .ref (g.2.2.1 113)), (1, vI a), (2, vI i0), (3, vI b), (4, vI j0), (5, vI n), (6, vI (n))] [] (fl σ 132 (24 * b + j0) (24 * b + j0 + (n - 0)) (fun k => σ 133 (k - (24 * b + j0))))) : ∀ (k : Nat) (i : Int), 0 ≤ i → i ≤ n → n - i < k → Z g x 7 147 [(0, .ref (g.2.2.1 113)), (1, vI a), (2, vI i0), (3, vI b), (4, vI j0), (5, vI n), (6, vI i)] [] (fl σ 132 (24 * b + j0) (24 * b + j0 + (i - 0)) (fun k => σ 133 (k - (24 * b + j0)))) := by
  intro k
  induction k with
  | zero => intro i h0 h1 h2; exact absurd h2 (by omega)
  | succ k ih =>
    intro i h0 h1 h2
    refine z_iload hO 6 dX9_copy_147 rfl ?_
    refine z_iload hO 5 dX9_copy_149 rfl ?_
    refine z_icmp_ge hO 182 dX9_copy_151 (by decide) (by omega) (by omega) (fun c151 => ?_) (fun c151 => ?_)
    ·
      have ei : i = n := by omega
      rw [ei]
      exact z_pick [0, 1, 2, 3, 4, 5, 6] rfl hE
    ·
      refine z_aload_n hO 0 dX9_copy_154 rfl ?_
      refine z_getR hO (132) fl_X9_69 rfl rfl dX9_copy_155 ?_
      refine z_bipush hO dX9_copy_158 (by decide) ?_
      refine z_iload_n hO 3 dX9_copy_160 rfl ?_
      refine z_imul hO dX9_copy_161 ?_
      refine z_iload hO 4 dX9_copy_162 rfl ?_
      refine z_iadd hO dX9_copy_164 ?_
      refine z_iload hO 6 dX9_copy_165 rfl ?_
      refine z_iadd hO dX9_copy_167 ?_
      refine z_aload_n hO 0 dX9_copy_168 rfl ?_
      refine z_getR hO (133) fl_X9_72 rfl rfl dX9_copy_169 ?_
      refine z_iload hO 6 dX9_copy_172 rfl ?_
      refine z_lald hO rfl (by omega) (by decide) dX9_copy_174 (fun r174 => ?_)
      try simp (disch := omega) only [fl_row_ne, fl_ne, up_row_ne, up_ne, up_eq, up_nk, up_up, up_self, ne_eq, Nat.reduceEqDiff, Int.reduceEq, reduceCtorEq, not_false_eq_true, not_true_eq_false, fl_out] at r174 ⊢
      refine z_last hO rfl (by omega) (by decide) (by omega) dX9_copy_175 ?_
      refine z_iinc hO (L' := [(6, _), (0, _), (1, _), (2, _), (3, _), (4, _), (5, _)]) 6 dX9_copy_176 rfl (by decide) rfl ?_
      refine z_goto hO 147 dX9_copy_179 (by decide) ?_
      refine z_sg (fl_s (by omega) (by omega) (by first | rfl | (congr 1; omega) | (dsimp only; congr 1; omega) | (simp only []; omega)) (show 24 * b + j0 + (i + 1 - 0) = _ by omega)) ?_
      exact z_pick [1, 2, 3, 4, 5, 6, 0] rfl (ih (i + 1) (by omega) (by omega) (by omega))

def cpyS (σ : Sg) (a i0 b j0 n : Int) : Sg := (fl (fl σ 133 0 (0 + (n - 0)) (fun k => σ 132 (24 * a + i0 + k))) 132 (24 * b + j0) (24 * b + j0 + (n - 0)) (fun k => (fl σ 133 0 (0 + (n - 0)) (fun k => σ 132 (24 * a + i0 + k))) 133 (k - (24 * b + j0))))

set_option maxHeartbeats 4000000 in
set_option maxRecDepth 100000 in
theorem t_X9_copy {g : G} {σ : Sg} {a i0 b j0 n : Int} (ra : -2147483648 ≤ a ∧ a ≤ 2147483647) (ri : -2147483648 ≤ i0 ∧ i0 ≤ 2147483647) (rb : -2147483648 ≤ b ∧ b ≤ 2147483647) (rj : -2147483648 ≤ j0 ∧ j0 ≤ 2147483647) (rn : -2147483648 ≤ n ∧ n ≤ 2147483647) (hz : ∀ s, 0 ≤ s → s ≤ 3 → 0 ≤ σ 131 s ∧ σ 131 s ≤ 24) : MM g mX9_copy [.ref (g.2.2.1 113), vI a, vI i0, vI b, vI j0, vI n] σ (pI (fun r σ' => (r, σ') = if ¬ (0 ≤ a ∧ a ≤ 3) ∨ ¬ (0 ≤ b ∧ b ≤ 3) then (-1, σ) else if σ 130 a < 0 ∨ σ 130 b < 0 then (-11, σ) else if σ 130 a ≠ σ 130 b then (-12, σ) else if n < 0 ∨ i0 < 0 ∨ j0 < 0 ∨ σ 131 a < i0 + n ∨ σ 131 b < j0 + n then (-13, σ) else (n, cpyS σ a i0 b j0 n))) := by
  refine mm_of rfl (by decide) rfl rfl (Nat.le_of_ble_eq_true rfl) (fun x hO hR => ?_)
  refine z_iload_n hO 1 dX9_copy_0 rfl ?_
  refine z_csQ hO (t_X9_isSheet (by omega)) cs_X9_282 rfl rfl (by decide) (Nat.le_of_ble_eq_true rfl) dX9_copy_1 (fun c1 => ?_) (fun c1 => ?_)
  ·
    refine z_if_eq hO 14 dX9_copy_4 (by decide) (by decide) (fun c4 => absurd c4 (by omega)) (fun c4 => ?_)
    refine z_iload_n hO 3 dX9_copy_7 rfl ?_
    refine z_csQ hO (t_X9_isSheet (by omega)) cs_X9_282 rfl rfl (by decide) (Nat.le_of_ble_eq_true rfl) dX9_copy_8 (fun c8 => ?_) (fun c8 => ?_)
    ·
      refine z_if_ne hO 16 dX9_copy_11 (by decide) (by decide) (fun c11 => ?_) (fun c11 => absurd c11 (by omega))
      refine z_aload_n hO 0 dX9_copy_16 rfl ?_
      refine z_getR hO (130) fl_X9_63 rfl rfl dX9_copy_17 ?_
      refine z_iload_n hO 1 dX9_copy_20 rfl ?_
      refine z_iald hO rfl (by omega) (by decide) dX9_copy_21 (fun r21 => ?_)
      refine z_if_lt hO 34 dX9_copy_22 (by decide) (by omega) (fun c22 => ?_) (fun c22 => ?_)
      ·
        refine z_bipush hO dX9_copy_34 (by decide) ?_
        exact z_retI hO hR dX9_copy_36 (by rw [if_neg (by omega), if_pos (by omega)])
      ·
        refine z_aload_n hO 0 dX9_copy_25 rfl ?_
        refine z_getR hO (130) fl_X9_63 rfl rfl dX9_copy_26 ?_
        refine z_iload_n hO 3 dX9_copy_29 rfl ?_
        refine z_iald hO rfl (by omega) (by decide) dX9_copy_30 (fun r30 => ?_)
        refine z_if_ge hO 37 dX9_copy_31 (by decide) (by omega) (fun c31 => ?_) (fun c31 => ?_)
        ·
          refine z_aload_n hO 0 dX9_copy_37 rfl ?_
          refine z_getR hO (130) fl_X9_63 rfl rfl dX9_copy_38 ?_
          refine z_iload_n hO 1 dX9_copy_41 rfl ?_
          refine z_iald hO rfl (by omega) (by decide) dX9_copy_42 (fun r42 => ?_)
          refine z_aload_n hO 0 dX9_copy_43 rfl ?_
          refine z_getR hO (130) fl_X9_63 rfl rfl dX9_copy_44 ?_
          refine z_iload_n hO 3 dX9_copy_47 rfl ?_
          refine z_iald hO rfl (by omega) (by decide) dX9_copy_48 (fun r48 => ?_)
          refine z_icmp_eq hO 55 dX9_copy_49 (by decide) (by omega) (by omega) (fun c49 => ?_) (fun c49 => ?_)
          ·
            refine z_iload hO 5 dX9_copy_55 rfl ?_
            refine z_if_lt hO 104 dX9_copy_57 (by decide) (by omega) (fun c57 => ?_) (fun c57 => ?_)
            ·
              refine z_bipush hO dX9_copy_104 (by decide) ?_
              exact z_retI hO hR dX9_copy_106 (by rw [if_neg (by omega), if_neg (by omega), if_neg (by omega), if_pos (by omega)])
            ·
              refine z_iload_n hO 2 dX9_copy_60 rfl ?_
              refine z_if_lt hO 104 dX9_copy_61 (by decide) (by omega) (fun c61 => ?_) (fun c61 => ?_)
              ·
                refine z_bipush hO dX9_copy_104 (by decide) ?_
                exact z_retI hO hR dX9_copy_106 (by rw [if_neg (by omega), if_neg (by omega), if_neg (by omega), if_pos (by omega)])
              ·
                refine z_iload hO 4 dX9_copy_64 rfl ?_
                refine z_if_lt hO 104 dX9_copy_66 (by decide) (by omega) (fun c66 => ?_) (fun c66 => ?_)
                ·
                  refine z_bipush hO dX9_copy_104 (by decide) ?_
                  exact z_retI hO hR dX9_copy_106 (by rw [if_neg (by omega), if_neg (by omega), if_neg (by omega), if_pos (by omega)])
                ·
                  refine z_iload_n hO 2 dX9_copy_69 rfl ?_
                  refine z_i2l hO dX9_copy_70 (by omega) ?_
                  refine z_iload hO 5 dX9_copy_71 rfl ?_
                  refine z_i2l hO dX9_copy_73 (by omega) ?_
                  refine z_ladd hO dX9_copy_74 ?_
                  refine z_aload_n hO 0 dX9_copy_75 rfl ?_
                  refine z_getR hO (131) fl_X9_66 rfl rfl dX9_copy_76 ?_
                  refine z_iload_n hO 1 dX9_copy_79 rfl ?_
                  refine z_iald hO rfl (by omega) (by decide) dX9_copy_80 (fun r80 => ?_)
                  refine z_i2l hO dX9_copy_81 (by omega) ?_
                  refine z_lcmp hO dX9_copy_82 (by omega) (by omega) (fun c82 => ?_) (fun c82 => ?_) (fun c82 => ?_)
                  ·
                    refine z_if_gt hO 104 dX9_copy_83 (by decide) (by decide) (fun c83 => ?_) (fun c83 => absurd c83 (by omega))
                    refine z_bipush hO dX9_copy_104 (by decide) ?_
                    exact z_retI hO hR dX9_copy_106 (by rw [if_neg (by omega), if_neg (by omega), if_neg (by omega), if_pos (by omega)])
                  ·
                    refine z_if_gt hO 104 dX9_copy_83 (by decide) (by decide) (fun c83 => absurd c83 (by omega)) (fun c83 => ?_)
                    refine z_iload hO 4 dX9_copy_86 rfl ?_
                    refine z_i2l hO dX9_copy_88 (by omega) ?_
                    refine z_iload hO 5 dX9_copy_89 rfl ?_
                    refine z_i2l hO dX9_copy_91 (by omega) ?_
                    refine z_ladd hO dX9_copy_92 ?_
                    refine z_aload_n hO 0 dX9_copy_93 rfl ?_
                    refine z_getR hO (131) fl_X9_66 rfl rfl dX9_copy_94 ?_
                    refine z_iload_n hO 3 dX9_copy_97 rfl ?_
                    refine z_iald hO rfl (by omega) (by decide) dX9_copy_98 (fun r98 => ?_)
                    refine z_i2l hO dX9_copy_99 (by omega) ?_
                    refine z_lcmp hO dX9_copy_100 (by omega) (by omega) (fun c100 => ?_) (fun c100 => ?_) (fun c100 => ?_)
                    ·
                      refine z_if_le hO 107 dX9_copy_101 (by decide) (by decide) (fun c101 => absurd c101 (by omega)) (fun c101 => ?_)
                      refine z_bipush hO dX9_copy_104 (by decide) ?_
                      exact z_retI hO hR dX9_copy_106 (by rw [if_neg (by omega), if_neg (by omega), if_neg (by omega), if_pos (by omega)])
                    ·
                      refine z_if_le hO 107 dX9_copy_101 (by decide) (by decide) (fun c101 => ?_) (fun c101 => absurd c101 (by omega))
                      refine z_iconst hO dX9_copy_107 ?_
                      refine z_istore hO (L' := [(6, _), (0, _), (1, _), (2, _), (3, _), (4, _), (5, _)]) dX9_copy_108 (by decide) rfl ?_
                      refine z_sg (fl_0 (c := 133) (lo := 0) (hi := 0 + (0 - 0)) (f := fun k => σ 132 (24 * a + i0 + k)) (by omega)).symm ?_
                      have hza := hz a (by omega) (by omega)
                      have hzb := hz b (by omega) (by omega)
                      refine z_pick [1, 2, 3, 4, 5, 6, 0] rfl (lp_copy1 hO (by omega) (by omega) (by omega) (by omega) (by omega) ?_ 26 0 (by omega) (by omega) (by omega))
                      refine z_iconst hO dX9_copy_144 ?_
                      refine z_istore hO (L' := [(6, _), (0, _), (1, _), (2, _), (3, _), (4, _), (5, _)]) dX9_copy_145 (by decide) rfl ?_
                      refine z_sg (fl_0 (c := 132) (lo := 24 * b + j0) (hi := 24 * b + j0 + (0 - 0)) (f := fun k => (fl σ 133 0 (0 + (n - 0)) (fun k => σ 132 (24 * a + i0 + k))) 133 (k - (24 * b + j0))) (by omega)).symm ?_
                      refine z_pick [1, 2, 3, 4, 5, 6, 0] rfl (lp_copy2 hO (by omega) (by omega) (by omega) (by omega) (by omega) ?_ 26 0 (by omega) (by omega) (by omega))
                      refine z_iload hO 5 dX9_copy_182 rfl ?_
                      exact z_retI hO hR dX9_copy_184 (by rw [if_neg (by omega), if_neg (by omega), if_neg (by omega), if_neg (by omega)]; rfl)
                    ·
                      refine z_if_le hO 107 dX9_copy_101 (by decide) (by decide) (fun c101 => ?_) (fun c101 => absurd c101 (by omega))
                      refine z_iconst hO dX9_copy_107 ?_
                      refine z_istore hO (L' := [(6, _), (0, _), (1, _), (2, _), (3, _), (4, _), (5, _)]) dX9_copy_108 (by decide) rfl ?_
                      refine z_sg (fl_0 (c := 133) (lo := 0) (hi := 0 + (0 - 0)) (f := fun k => σ 132 (24 * a + i0 + k)) (by omega)).symm ?_
                      have hza := hz a (by omega) (by omega)
                      have hzb := hz b (by omega) (by omega)
                      refine z_pick [1, 2, 3, 4, 5, 6, 0] rfl (lp_copy1 hO (by omega) (by omega) (by omega) (by omega) (by omega) ?_ 26 0 (by omega) (by omega) (by omega))
                      refine z_iconst hO dX9_copy_144 ?_
                      refine z_istore hO (L' := [(6, _), (0, _), (1, _), (2, _), (3, _), (4, _), (5, _)]) dX9_copy_145 (by decide) rfl ?_
                      refine z_sg (fl_0 (c := 132) (lo := 24 * b + j0) (hi := 24 * b + j0 + (0 - 0)) (f := fun k => (fl σ 133 0 (0 + (n - 0)) (fun k => σ 132 (24 * a + i0 + k))) 133 (k - (24 * b + j0))) (by omega)).symm ?_
                      refine z_pick [1, 2, 3, 4, 5, 6, 0] rfl (lp_copy2 hO (by omega) (by omega) (by omega) (by omega) (by omega) ?_ 26 0 (by omega) (by omega) (by omega))
                      refine z_iload hO 5 dX9_copy_182 rfl ?_
                      exact z_retI hO hR dX9_copy_184 (by rw [if_neg (by omega), if_neg (by omega), if_neg (by omega), if_neg (by omega)]; rfl)
                  ·
                    refine z_if_gt hO 104 dX9_copy_83 (by decide) (by decide) (fun c83 => absurd c83 (by omega)) (fun c83 => ?_)
                    refine z_iload hO 4 dX9_copy_86 rfl ?_
                    refine z_i2l hO dX9_copy_88 (by omega) ?_
                    refine z_iload hO 5 dX9_copy_89 rfl ?_
                    refine z_i2l hO dX9_copy_91 (by omega) ?_
                    refine z_ladd hO dX9_copy_92 ?_
                    refine z_aload_n hO 0 dX9_copy_93 rfl ?_
                    refine z_getR hO (131) fl_X9_66 rfl rfl dX9_copy_94 ?_
                    refine z_iload_n hO 3 dX9_copy_97 rfl ?_
                    refine z_iald hO rfl (by omega) (by decide) dX9_copy_98 (fun r98 => ?_)
                    refine z_i2l hO dX9_copy_99 (by omega) ?_
                    refine z_lcmp hO dX9_copy_100 (by omega) (by omega) (fun c100 => ?_) (fun c100 => ?_) (fun c100 => ?_)
                    ·
                      refine z_if_le hO 107 dX9_copy_101 (by decide) (by decide) (fun c101 => absurd c101 (by omega)) (fun c101 => ?_)
                      refine z_bipush hO dX9_copy_104 (by decide) ?_
                      exact z_retI hO hR dX9_copy_106 (by rw [if_neg (by omega), if_neg (by omega), if_neg (by omega), if_pos (by omega)])
                    ·
                      refine z_if_le hO 107 dX9_copy_101 (by decide) (by decide) (fun c101 => ?_) (fun c101 => absurd c101 (by omega))
                      refine z_iconst hO dX9_copy_107 ?_
                      refine z_istore hO (L' := [(6, _), (0, _), (1, _), (2, _), (3, _), (4, _), (5, _)]) dX9_copy_108 (by decide) rfl ?_
                      refine z_sg (fl_0 (c := 133) (lo := 0) (hi := 0 + (0 - 0)) (f := fun k => σ 132 (24 * a + i0 + k)) (by omega)).symm ?_
                      have hza := hz a (by omega) (by omega)
                      have hzb := hz b (by omega) (by omega)
                      refine z_pick [1, 2, 3, 4, 5, 6, 0] rfl (lp_copy1 hO (by omega) (by omega) (by omega) (by omega) (by omega) ?_ 26 0 (by omega) (by omega) (by omega))
                      refine z_iconst hO dX9_copy_144 ?_
                      refine z_istore hO (L' := [(6, _), (0, _), (1, _), (2, _), (3, _), (4, _), (5, _)]) dX9_copy_145 (by decide) rfl ?_
                      refine z_sg (fl_0 (c := 132) (lo := 24 * b + j0) (hi := 24 * b + j0 + (0 - 0)) (f := fun k => (fl σ 133 0 (0 + (n - 0)) (fun k => σ 132 (24 * a + i0 + k))) 133 (k - (24 * b + j0))) (by omega)).symm ?_
                      refine z_pick [1, 2, 3, 4, 5, 6, 0] rfl (lp_copy2 hO (by omega) (by omega) (by omega) (by omega) (by omega) ?_ 26 0 (by omega) (by omega) (by omega))
                      refine z_iload hO 5 dX9_copy_182 rfl ?_
                      exact z_retI hO hR dX9_copy_184 (by rw [if_neg (by omega), if_neg (by omega), if_neg (by omega), if_neg (by omega)]; rfl)
                    ·
                      refine z_if_le hO 107 dX9_copy_101 (by decide) (by decide) (fun c101 => ?_) (fun c101 => absurd c101 (by omega))
                      refine z_iconst hO dX9_copy_107 ?_
                      refine z_istore hO (L' := [(6, _), (0, _), (1, _), (2, _), (3, _), (4, _), (5, _)]) dX9_copy_108 (by decide) rfl ?_
                      refine z_sg (fl_0 (c := 133) (lo := 0) (hi := 0 + (0 - 0)) (f := fun k => σ 132 (24 * a + i0 + k)) (by omega)).symm ?_
                      have hza := hz a (by omega) (by omega)
                      have hzb := hz b (by omega) (by omega)
                      refine z_pick [1, 2, 3, 4, 5, 6, 0] rfl (lp_copy1 hO (by omega) (by omega) (by omega) (by omega) (by omega) ?_ 26 0 (by omega) (by omega) (by omega))
                      refine z_iconst hO dX9_copy_144 ?_
                      refine z_istore hO (L' := [(6, _), (0, _), (1, _), (2, _), (3, _), (4, _), (5, _)]) dX9_copy_145 (by decide) rfl ?_
                      refine z_sg (fl_0 (c := 132) (lo := 24 * b + j0) (hi := 24 * b + j0 + (0 - 0)) (f := fun k => (fl σ 133 0 (0 + (n - 0)) (fun k => σ 132 (24 * a + i0 + k))) 133 (k - (24 * b + j0))) (by omega)).symm ?_
                      refine z_pick [1, 2, 3, 4, 5, 6, 0] rfl (lp_copy2 hO (by omega) (by omega) (by omega) (by omega) (by omega) ?_ 26 0 (by omega) (by omega) (by omega))
                      refine z_iload hO 5 dX9_copy_182 rfl ?_
                      exact z_retI hO hR dX9_copy_184 (by rw [if_neg (by omega), if_neg (by omega), if_neg (by omega), if_neg (by omega)]; rfl)
          ·
            refine z_bipush hO dX9_copy_52 (by decide) ?_
            exact z_retI hO hR dX9_copy_54 (by rw [if_neg (by omega), if_neg (by omega), if_pos (by omega)])
        ·
          refine z_bipush hO dX9_copy_34 (by decide) ?_
          exact z_retI hO hR dX9_copy_36 (by rw [if_neg (by omega), if_pos (by omega)])
    ·
      refine z_if_ne hO 16 dX9_copy_11 (by decide) (by decide) (fun c11 => absurd c11 (by omega)) (fun c11 => ?_)
      refine z_iconst hO dX9_copy_14 ?_
      exact z_retI hO hR dX9_copy_15 (by rw [if_pos (by omega)])
  ·
    refine z_if_eq hO 14 dX9_copy_4 (by decide) (by decide) (fun c4 => ?_) (fun c4 => absurd c4 (by omega))
    refine z_iconst hO dX9_copy_14 ?_
    exact z_retI hO hR dX9_copy_15 (by rw [if_pos (by omega)])

noncomputable def bR (V : Hv) (K : Int) : Int := (bst V K (rdN V).toNat).1
noncomputable def bC (V : Hv) (K : Int) : Int := (bst V K (rdN V).toNat).2
theorem bR_r {V : Hv} (hV : WV V) (K : Int) : (bR V K = -4 ∧ bC V K = 9999) ∨ (0 ≤ bR V K ∧ bR V K < rdN V ∧ bC V K = cst V (bR V K) ∧ snd V K (bR V K) = true) := by
  have r := rdN_r hV
  unfold bR bC
  rcases bst_r hV K (rdN V).toNat with h | h
  · exact Or.inl h
  · refine Or.inr ⟨h.1, ?_, h.2.2.1, h.2.2.2⟩
    have := h.2.1
    rw [Int.toNat_of_nonneg r.1] at this; exact this

noncomputable def bestF (V : Hv) (K k : Int) : Int := if k < -2 then -1 else if bR V K = -4 then -4 else if k = -1 then bC V K else if k = -2 then (nm V (bR V K)).length else if k < (nm V (bR V K)).length then lrow (nm V (bR V K)) k else -4
noncomputable def takenF (V : Hv) (K s : Int) : Int := if ¬ (0 ≤ s ∧ s < V.1) then -1 else if bR V K = -4 then -4 else V.2.2.1 s (pk V (bR V K) s)

set_option maxHeartbeats 4000000 in
set_option maxRecDepth 100000 in
theorem t_X9_best {g : G} {σ : Sg} {k : Int} (rk : -2147483648 ≤ k ∧ k ≤ 2147483647) (hV : WV (mv (σ 114))) : MM g mX9_best [.ref (g.2.2.1 113), vI k] σ (pI (fun r σ' => r = bestF (mv (σ 114)) (σ 114 1) k ∧ Fm fFd σ σ')) := by
  refine mm_of rfl (by decide) rfl rfl (Nat.le_of_ble_eq_true rfl) (fun x hO hR => ?_)
  refine z_iload_n hO 1 dX9_best_0 rfl ?_
  refine z_bipush hO dX9_best_1 (by decide) ?_
  refine z_icmp_ge hO 8 dX9_best_3 (by decide) (by omega) (by decide) (fun c3 => ?_) (fun c3 => ?_)
  ·
    refine z_aload_n hO 0 dX9_best_8 rfl ?_
    refine z_cvV hO (t_X9_finds hV) cv_X9_154 rfl rfl rfl rfl (by decide) (Nat.le_of_ble_eq_true rfl) dX9_best_9 (fun s9 p9 => ?_)
    obtain ⟨⟨f8, f9, f10, f11, f13, f14⟩, hFm⟩ := p9
    have f114 : s9 114 = σ 114 := hFm.row 114 (fun _ => rfl)
    have hbr := bR_r hV (σ 114 1)
    have f10 : s9 113 10 = bR (mv (σ 114)) (σ 114 1) := f10
    have f11 : s9 113 11 = bC (mv (σ 114)) (σ 114 1) := f11
    have f13 : bR (mv (σ 114)) (σ 114 1) = -4 → s9 113 13 = 0 := f13
    have f14 : bR (mv (σ 114)) (σ 114 1) ≠ -4 → s9 113 13 = (nm (mv (σ 114)) (bR (mv (σ 114)) (σ 114 1))).length ∧ rowIs (s9 118) (nm (mv (σ 114)) (bR (mv (σ 114)) (σ 114 1))) := f14
    have hrd := rdN_r hV
    have hcs := cst_r hV (bR (mv (σ 114)) (σ 114 1))
    have hlen : bR (mv (σ 114)) (σ 114 1) ≠ -4 → 1 ≤ (nm (mv (σ 114)) (bR (mv (σ 114)) (σ 114 1))).length ∧ (nm (mv (σ 114)) (bR (mv (σ 114)) (σ 114 1))).length ≤ 4 ∧ ∀ v ∈ nm (mv (σ 114)) (bR (mv (σ 114)) (σ 114 1)), 0 < v ∧ v ≤ 999999 := fun q => said_r hV (snd_said (by rcases hbr with z | z; exact absurd z.1 q; exact z.2.2.2))
    refine z_aload_n hO 0 dX9_best_12 rfl ?_
    refine z_getI hO 10 fl_X9_135 rfl rfl rfl dX9_best_13 (fun r13 => ?_)
    try simp only [fl_row_ne, fl_ne, up_row_ne, up_ne, up_eq, up_nk, up_up, up_self, ne_eq, Nat.reduceEqDiff, Int.reduceEq, reduceCtorEq, not_false_eq_true, not_true_eq_false, f114, f10, f11, f8, f9] at r13 ⊢
    refine z_bipush hO dX9_best_16 (by decide) ?_
    refine z_icmp_ne hO 24 dX9_best_18 (by decide) (by omega) (by decide) (fun c18 => ?_) (fun c18 => ?_)
    ·
      have h14 := f14 (by omega)
      have hl := hlen (by omega)
      have h13 := h14.1
      refine z_iload_n hO 1 dX9_best_24 rfl ?_
      refine z_iconst hO dX9_best_25 ?_
      refine z_icmp_ne hO 36 dX9_best_26 (by decide) (by omega) (by decide) (fun c26 => ?_) (fun c26 => ?_)
      ·
        refine z_iload_n hO 1 dX9_best_36 rfl ?_
        refine z_bipush hO dX9_best_37 (by decide) ?_
        refine z_icmp_ne hO 49 dX9_best_39 (by decide) (by omega) (by decide) (fun c39 => ?_) (fun c39 => ?_)
        ·
          refine z_iload_n hO 1 dX9_best_49 rfl ?_
          refine z_aload_n hO 0 dX9_best_50 rfl ?_
          refine z_getI hO 13 fl_X9_151 rfl rfl rfl dX9_best_51 (fun r51 => ?_)
          try simp only [fl_row_ne, fl_ne, up_row_ne, up_ne, up_eq, up_nk, up_up, up_self, ne_eq, Nat.reduceEqDiff, Int.reduceEq, reduceCtorEq, not_false_eq_true, not_true_eq_false, f114, f10, f11, f8, f9] at r51 ⊢
          refine z_icmp_ge hO 66 dX9_best_54 (by decide) (by omega) (by omega) (fun c54 => ?_) (fun c54 => ?_)
          ·
            refine z_bipush hO dX9_best_66 (by decide) ?_
            exact z_retI hO hR dX9_best_68 (⟨by unfold bestF; first | (rw [if_pos (by omega)]; done) | (rw [if_neg (by omega)]; first | (rw [if_pos (by omega)]; done) | (rw [if_neg (by omega)]; first | (rw [if_pos (by omega)]; done) | (rw [if_neg (by omega)]; first | (rw [if_pos (by omega)]; omega) | (rw [if_neg (by omega)]; first | (rw [if_pos (by omega)]; exact row_lrow h14.2 (by omega) (by omega)) | (rw [if_neg (by omega)]; done))))), by first | exact hFm | exact Fm.rf⟩)
          ·
            refine z_aload_n hO 0 dX9_best_57 rfl ?_
            refine z_getR hO (118) fl_X9_22 rfl rfl dX9_best_58 ?_
            refine z_iload_n hO 1 dX9_best_61 rfl ?_
            refine z_iald hO rfl (by omega) (by decide) dX9_best_62 (fun r62 => ?_)
            try simp only [fl_row_ne, fl_ne, up_row_ne, up_ne, up_eq, up_nk, up_up, up_self, ne_eq, Nat.reduceEqDiff, Int.reduceEq, reduceCtorEq, not_false_eq_true, not_true_eq_false, f114, f10, f11, f8, f9] at r62 ⊢
            refine z_goto hO 68 dX9_best_63 (by decide) ?_
            exact z_retI hO hR dX9_best_68 (⟨by unfold bestF; first | (rw [if_pos (by omega)]; done) | (rw [if_neg (by omega)]; first | (rw [if_pos (by omega)]; done) | (rw [if_neg (by omega)]; first | (rw [if_pos (by omega)]; done) | (rw [if_neg (by omega)]; first | (rw [if_pos (by omega)]; omega) | (rw [if_neg (by omega)]; first | (rw [if_pos (by omega)]; exact row_lrow h14.2 (by omega) (by omega)) | (rw [if_neg (by omega)]; done))))), by first | exact hFm | exact Fm.rf⟩)
        ·
          refine z_aload_n hO 0 dX9_best_42 rfl ?_
          refine z_getI hO 13 fl_X9_151 rfl rfl rfl dX9_best_43 (fun r43 => ?_)
          try simp only [fl_row_ne, fl_ne, up_row_ne, up_ne, up_eq, up_nk, up_up, up_self, ne_eq, Nat.reduceEqDiff, Int.reduceEq, reduceCtorEq, not_false_eq_true, not_true_eq_false, f114, f10, f11, f8, f9] at r43 ⊢
          refine z_goto hO 68 dX9_best_46 (by decide) ?_
          exact z_retI hO hR dX9_best_68 (⟨by unfold bestF; first | (rw [if_pos (by omega)]; done) | (rw [if_neg (by omega)]; first | (rw [if_pos (by omega)]; done) | (rw [if_neg (by omega)]; first | (rw [if_pos (by omega)]; done) | (rw [if_neg (by omega)]; first | (rw [if_pos (by omega)]; omega) | (rw [if_neg (by omega)]; first | (rw [if_pos (by omega)]; exact row_lrow h14.2 (by omega) (by omega)) | (rw [if_neg (by omega)]; done))))), by first | exact hFm | exact Fm.rf⟩)
      ·
        refine z_aload_n hO 0 dX9_best_29 rfl ?_
        refine z_getI hO 11 fl_X9_138 rfl rfl rfl dX9_best_30 (fun r30 => ?_)
        try simp only [fl_row_ne, fl_ne, up_row_ne, up_ne, up_eq, up_nk, up_up, up_self, ne_eq, Nat.reduceEqDiff, Int.reduceEq, reduceCtorEq, not_false_eq_true, not_true_eq_false, f114, f10, f11, f8, f9] at r30 ⊢
        refine z_goto hO 68 dX9_best_33 (by decide) ?_
        exact z_retI hO hR dX9_best_68 (⟨by unfold bestF; first | (rw [if_pos (by omega)]; done) | (rw [if_neg (by omega)]; first | (rw [if_pos (by omega)]; done) | (rw [if_neg (by omega)]; first | (rw [if_pos (by omega)]; done) | (rw [if_neg (by omega)]; first | (rw [if_pos (by omega)]; omega) | (rw [if_neg (by omega)]; first | (rw [if_pos (by omega)]; exact row_lrow h14.2 (by omega) (by omega)) | (rw [if_neg (by omega)]; done))))), by first | exact hFm | exact Fm.rf⟩)
    ·
      refine z_bipush hO dX9_best_21 (by decide) ?_
      exact z_retI hO hR dX9_best_23 (⟨by unfold bestF; first | (rw [if_pos (by omega)]; done) | (rw [if_neg (by omega)]; first | (rw [if_pos (by omega)]; done) | (rw [if_neg (by omega)]; first | (rw [if_pos (by omega)]; done) | (rw [if_neg (by omega)]; first | (rw [if_pos (by omega)]; omega) | (rw [if_neg (by omega)]; first | (rw [if_pos (by omega)]; exact row_lrow h14.2 (by omega) (by omega)) | (rw [if_neg (by omega)]; done))))), by first | exact hFm | exact Fm.rf⟩)
  ·
    refine z_iconst hO dX9_best_6 ?_
    exact z_retI hO hR dX9_best_7 (⟨by unfold bestF; first | (rw [if_pos (by omega)]; done) | (rw [if_neg (by omega)]; first | (rw [if_pos (by omega)]; done) | (rw [if_neg (by omega)]; first | (rw [if_pos (by omega)]; done) | (rw [if_neg (by omega)]; first | (rw [if_pos (by omega)]; omega) | (rw [if_neg (by omega)]; first | (rw [if_pos (by omega)]; exact row_lrow h14.2 (by omega) (by omega)) | (rw [if_neg (by omega)]; done))))), by first | exact hFm | exact Fm.rf⟩)

set_option maxHeartbeats 4000000 in
set_option maxRecDepth 100000 in
theorem t_X9_taken {g : G} {σ : Sg} {s : Int} (rs : -2147483648 ≤ s ∧ s ≤ 2147483647) (hn : 0 ≤ σ 114 0 ∧ σ 114 0 ≤ 8) (hV : WV (mv (σ 114))) : MM g mX9_taken [.ref (g.2.2.1 113), vI s] σ (pI (fun r σ' => r = takenF (mv (σ 114)) (σ 114 1) s ∧ Fm fFd σ σ')) := by
  refine mm_of rfl (by decide) rfl rfl (Nat.le_of_ble_eq_true rfl) (fun x hO hR => ?_)
  refine z_aload_n hO 0 dX9_taken_0 rfl ?_
  refine z_iload_n hO 1 dX9_taken_1 rfl ?_
  refine z_cvQ hO (t_X9_isSlot (by omega) (by omega)) cv_X9_183 rfl rfl rfl rfl (by decide) (Nat.le_of_ble_eq_true rfl) dX9_taken_2 (fun c2 => ?_) (fun c2 => ?_)
  ·
    refine z_if_ne hO 10 dX9_taken_5 (by decide) (by decide) (fun c5 => ?_) (fun c5 => absurd c5 (by omega))
    refine z_aload_n hO 0 dX9_taken_10 rfl ?_
    refine z_cvV hO (t_X9_finds hV) cv_X9_154 rfl rfl rfl rfl (by decide) (Nat.le_of_ble_eq_true rfl) dX9_taken_11 (fun s11 p11 => ?_)
    obtain ⟨⟨f8, f9, f10, f11, f13, f14⟩, hFm⟩ := p11
    have f114 : s11 114 = σ 114 := hFm.row 114 (fun _ => rfl)
    have hbr := bR_r hV (σ 114 1)
    have f10 : s11 113 10 = bR (mv (σ 114)) (σ 114 1) := f10
    have f11 : s11 113 11 = bC (mv (σ 114)) (σ 114 1) := f11
    have f13 : bR (mv (σ 114)) (σ 114 1) = -4 → s11 113 13 = 0 := f13
    have f14 : bR (mv (σ 114)) (σ 114 1) ≠ -4 → s11 113 13 = (nm (mv (σ 114)) (bR (mv (σ 114)) (σ 114 1))).length ∧ rowIs (s11 118) (nm (mv (σ 114)) (bR (mv (σ 114)) (σ 114 1))) := f14
    have hrd := rdN_r hV
    have hcs := cst_r hV (bR (mv (σ 114)) (σ 114 1))
    have hlen : bR (mv (σ 114)) (σ 114 1) ≠ -4 → 1 ≤ (nm (mv (σ 114)) (bR (mv (σ 114)) (σ 114 1))).length ∧ (nm (mv (σ 114)) (bR (mv (σ 114)) (σ 114 1))).length ≤ 4 ∧ ∀ v ∈ nm (mv (σ 114)) (bR (mv (σ 114)) (σ 114 1)), 0 < v ∧ v ≤ 999999 := fun q => said_r hV (snd_said (by rcases hbr with z | z; exact absurd z.1 q; exact z.2.2.2))
    refine z_aload_n hO 0 dX9_taken_14 rfl ?_
    refine z_getI hO 10 fl_X9_135 rfl rfl rfl dX9_taken_15 (fun r15 => ?_)
    try simp only [fl_row_ne, fl_ne, up_row_ne, up_ne, up_eq, up_nk, up_up, up_self, ne_eq, Nat.reduceEqDiff, Int.reduceEq, reduceCtorEq, not_false_eq_true, not_true_eq_false, f114, f10, f11, f8, f9] at r15 ⊢
    refine z_bipush hO dX9_taken_18 (by decide) ?_
    refine z_icmp_eq hO 56 dX9_taken_20 (by decide) (by omega) (by decide) (fun c20 => ?_) (fun c20 => ?_)
    ·
      refine z_bipush hO dX9_taken_56 (by decide) ?_
      exact z_retI hO hR dX9_taken_58 (⟨by unfold takenF; rw [mv_n, if_neg (show ¬ ¬ (0 ≤ s ∧ s < σ 114 0) by omega)]; first | rw [if_pos (by omega)] | (rw [if_neg (by omega)]; rfl), by first | exact hfm2 | exact hFm⟩)
    ·
      have hsn : snd (mv (σ 114)) (σ 114 1) (bR (mv (σ 114)) (σ 114 1)) = true := by rcases hbr with z | z; exact absurd z.1 c20; exact z.2.2.2
      refine z_aload_n hO 0 dX9_taken_23 rfl ?_
      refine z_aload_n hO 0 dX9_taken_24 rfl ?_
      refine z_getI hO 10 fl_X9_135 rfl rfl rfl dX9_taken_25 (fun r25 => ?_)
      try simp only [fl_row_ne, fl_ne, up_row_ne, up_ne, up_eq, up_nk, up_up, up_self, ne_eq, Nat.reduceEqDiff, Int.reduceEq, reduceCtorEq, not_false_eq_true, not_true_eq_false, f114, f10, f11, f8, f9] at r25 ⊢
      refine z_cvB hO (t_X9_takes (r := bR (mv (σ 114)) (σ 114 1)) (by rw [f114]; exact hV) (by omega)) cv_X9_144 rfl rfl rfl rfl (by decide) (Nat.le_of_ble_eq_true rfl) dX9_taken_28 (fun s28 p28 => ?_) (fun s28 p28 => ?_)
      ·
        rw [f114] at p28
        have q114 : s28 114 = σ 114 := (p28.2.2.row 114 (fun _ => rfl)).trans f114
        have q115 := p28.2.1 s (by omega) (by omega)
        have hfm2 := hFm.trans (p28.2.2.mono fTk_Fd)
        have hwp := pk_WP hV (bR (mv (σ 114)) (σ 114 1)) s (by omega) (show s < σ 114 0 by omega)
        have hW := hV.2.2 s (by omega) (show s < σ 114 0 by omega)
        rw [mv_c] at hW hwp
        refine z_if_eq hO 56 dX9_taken_31 (by decide) (by decide) (fun c31 => absurd c31 (by omega)) (fun c31 => ?_)
        refine z_aload_n hO 0 dX9_taken_34 rfl ?_
        refine z_getR hO (114) fl_X9_7 rfl rfl dX9_taken_35 ?_
        refine z_aload_n hO 0 dX9_taken_38 rfl ?_
        refine z_iload_n hO 1 dX9_taken_39 rfl ?_
        refine z_cvE hO (t_X9_at) cv_X9_79 rfl rfl rfl rfl (by decide) (Nat.le_of_ble_eq_true rfl) dX9_taken_40 ?_
        try simp only [fl_row_ne, fl_ne, up_row_ne, up_ne, up_eq, up_nk, up_up, up_self, ne_eq, Nat.reduceEqDiff, Int.reduceEq, reduceCtorEq, not_false_eq_true, not_true_eq_false, f114, f10, f11, f8, f9, q114, q115]
        refine z_iconst hO dX9_taken_43 ?_
        refine z_iadd hO dX9_taken_44 ?_
        refine z_aload_n hO 0 dX9_taken_45 rfl ?_
        refine z_getR hO (115) fl_X9_13 rfl rfl dX9_taken_46 ?_
        refine z_iload_n hO 1 dX9_taken_49 rfl ?_
        refine z_iald hO rfl (by omega) (by decide) dX9_taken_50 (fun r50 => ?_)
        try simp only [fl_row_ne, fl_ne, up_row_ne, up_ne, up_eq, up_nk, up_up, up_self, ne_eq, Nat.reduceEqDiff, Int.reduceEq, reduceCtorEq, not_false_eq_true, not_true_eq_false, f114, f10, f11, f8, f9, q114, q115] at r50 ⊢
        refine z_iadd hO dX9_taken_51 ?_
        refine z_iald hO rfl (by omega) (by decide) dX9_taken_52 (fun r52 => ?_)
        try simp only [fl_row_ne, fl_ne, up_row_ne, up_ne, up_eq, up_nk, up_up, up_self, ne_eq, Nat.reduceEqDiff, Int.reduceEq, reduceCtorEq, not_false_eq_true, not_true_eq_false, f114, f10, f11, f8, f9, q114, q115] at r52 ⊢
        refine z_goto hO 58 dX9_taken_53 (by decide) ?_
        exact z_retI hO hR dX9_taken_58 (⟨by unfold takenF; rw [mv_n, if_neg (show ¬ ¬ (0 ≤ s ∧ s < σ 114 0) by omega)]; first | rw [if_pos (by omega)] | (rw [if_neg (by omega)]; rfl), by first | exact hfm2 | exact hFm⟩)
      ·
        rw [f114] at p28
        have q114 : s28 114 = σ 114 := (p28.2.2.row 114 (fun _ => rfl)).trans f114
        have q115 := p28.2.1 s (by omega) (by omega)
        have hfm2 := hFm.trans (p28.2.2.mono fTk_Fd)
        exfalso; have h1 := snd_said hsn; have h2 : said (mv (σ 114)) (bR (mv (σ 114)) (σ 114 1)) = false := p28.1.1.symm; rw [h1] at h2; cases h2
  ·
    refine z_if_ne hO 10 dX9_taken_5 (by decide) (by decide) (fun c5 => absurd c5 (by omega)) (fun c5 => ?_)
    refine z_iconst hO dX9_taken_8 ?_
    exact z_retI hO hR dX9_taken_9 (⟨by unfold takenF; rw [mv_n, if_pos (show ¬ (0 ≤ s ∧ s < σ 114 0) by omega)], Fm.rf⟩)
