/-- the rows behind a candidate taken, before its word is looked at -/
def entS (σ : Sg) (d k : Int) : Sg := up (up (up (up (up (up σ 90 (d + 1) (σ 90 d)) 91 (d + 1) (σ 91 d)) 92 (d + 1) (σ 92 d)) 93 (d + 1) (σ 93 d)) 94 (d + 1) (σ 94 d + σ 4 (d * 4 + k))) 95 (d + 1) (σ 95 d * (10 - σ 4 (d * 4 + k)))
def stpS (σ : Sg) (t : Int) : Sg := up (up (up (up (up σ 96 (σ 93 t) (σ 91 t + σ 92 t)) 93 t (σ 93 t + 1)) 90 t 0) 91 t 0) 92 t 0
def thoS (σ : Sg) (t : Int) : Sg := up (up (up σ 91 t (σ 92 t * 1000)) 92 t 0) 90 t 6
def hunS (σ : Sg) (t : Int) : Sg := up (up σ 92 t (σ 92 t * 100)) 90 t 4
def entOk (σ : Sg) (d w : Int) : Prop := if w = 0 then True else if w = 31 then (σ 90 d ≠ 0 ∧ σ 90 d ≠ 5) ∧ σ 93 d < 4 else if w = 30 then σ 90 d = 4 ∨ σ 90 d = 6 else if w = 28 then σ 90 d = 1 else if w = 29 then (σ 90 d ≠ 0 ∧ σ 90 d ≠ 5) ∧ σ 91 d = 0 else lowOk (σ 90 d) w
def entR (σ : Sg) (d k w : Int) : Sg := if w = 0 then entS σ d k else if w = 31 then stpS (entS σ d k) (d + 1) else if w = 30 then up (entS σ d k) 90 (d + 1) 5 else if w = 28 then hunS (entS σ d k) (d + 1) else if w = 29 then thoS (entS σ d k) (d + 1) else lowS (entS σ d k) (d + 1) w

set_option maxHeartbeats 4000000 in
set_option maxRecDepth 100000 in
theorem t_X7_enter {g : G} {σ : Sg} {d k : Int} (hd : 0 ≤ d ∧ d ≤ 7) (hk : 0 ≤ k ∧ k ≤ 3) (hw : 0 ≤ σ 3 (d * 4 + k) ∧ σ 3 (d * 4 + k) ≤ 31) (hq : 0 ≤ σ 4 (d * 4 + k) ∧ σ 4 (d * 4 + k) ≤ 9) (he : 0 ≤ σ 93 d) (h1 : 0 ≤ σ 91 d ∧ σ 91 d ≤ 999000) (h2 : 0 ≤ σ 92 d ∧ σ 92 d ≤ 999) (h94 : 0 ≤ σ 94 d ∧ σ 94 d ≤ 100) (h95 : 0 ≤ σ 95 d ∧ σ 95 d ≤ 10000000000) : MM g mX7_enter [.ref (g.2.2.1 88), vI d, vI k] σ (pB (fun b σ' => (b = true → entOk σ d (σ 3 (d * 4 + k)) ∧ σ' = entR σ d k (σ 3 (d * 4 + k))) ∧ (b = false → ¬ entOk σ d (σ 3 (d * 4 + k)) ∧ σ' = entS σ d k))) := by
  refine mm_of rfl (by decide) rfl rfl (Nat.le_of_ble_eq_true rfl) (fun x hO hR => ?_)
  refine z_iload_n hO 1 dX7_enter_0 rfl ?_
  refine z_iconst hO dX7_enter_1 ?_
  refine z_imul hO dX7_enter_2 ?_
  refine z_iload_n hO 2 dX7_enter_3 rfl ?_
  refine z_iadd hO dX7_enter_4 ?_
  refine z_istore_n hO (L' := [(3, _), (0, _), (1, _), (2, _)]) dX7_enter_5 (by decide) rfl ?_
  refine z_iload_n hO 2 dX7_enter_6 rfl ?_
  refine z_iconst hO dX7_enter_7 ?_
  refine z_iadd hO dX7_enter_8 ?_
  refine z_istore hO (L' := [(4, _), (3, _), (0, _), (1, _), (2, _)]) dX7_enter_9 (by decide) rfl ?_
  refine z_aload_n hO 2 dX7_enter_11 rfl ?_
  refine z_getR hO (90) fl_X7_15 rfl rfl dX7_enter_12 ?_
  refine z_iload hO 0 dX7_enter_15 rfl ?_
  refine z_aload_n hO 2 dX7_enter_17 rfl ?_
  refine z_getR hO (90) fl_X7_15 rfl rfl dX7_enter_18 ?_
  refine z_iload_n hO 3 dX7_enter_21 rfl ?_
  refine z_iald hO rfl (by omega) (by decide) dX7_enter_22 (fun r22 => ?_)
  refine z_iast hO rfl (by omega) (by decide) (by omega) dX7_enter_23 ?_
  refine z_aload_n hO 2 dX7_enter_24 rfl ?_
  refine z_getR hO (91) fl_X7_18 rfl rfl dX7_enter_25 ?_
  refine z_iload hO 0 dX7_enter_28 rfl ?_
  refine z_aload_n hO 2 dX7_enter_30 rfl ?_
  refine z_getR hO (91) fl_X7_18 rfl rfl dX7_enter_31 ?_
  refine z_iload_n hO 3 dX7_enter_34 rfl ?_
  refine z_iald hO rfl (by omega) (by decide) dX7_enter_35 (fun r35 => ?_)
  try simp (disch := omega) only [fl_row_ne, fl_ne, up_row_ne, up_ne, up_eq, up_nk, up_up, up_self, ne_eq, Nat.reduceEqDiff, Int.reduceEq, reduceCtorEq, not_false_eq_true, not_true_eq_false] at r35 ⊢
  refine z_iast hO rfl (by omega) (by decide) (by omega) dX7_enter_36 ?_
  refine z_aload_n hO 2 dX7_enter_37 rfl ?_
  refine z_getR hO (92) fl_X7_21 rfl rfl dX7_enter_38 ?_
  refine z_iload hO 0 dX7_enter_41 rfl ?_
  refine z_aload_n hO 2 dX7_enter_43 rfl ?_
  refine z_getR hO (92) fl_X7_21 rfl rfl dX7_enter_44 ?_
  refine z_iload_n hO 3 dX7_enter_47 rfl ?_
  refine z_iald hO rfl (by omega) (by decide) dX7_enter_48 (fun r48 => ?_)
  try simp (disch := omega) only [fl_row_ne, fl_ne, up_row_ne, up_ne, up_eq, up_nk, up_up, up_self, ne_eq, Nat.reduceEqDiff, Int.reduceEq, reduceCtorEq, not_false_eq_true, not_true_eq_false] at r48 ⊢
  refine z_iast hO rfl (by omega) (by decide) (by omega) dX7_enter_49 ?_
  refine z_aload_n hO 2 dX7_enter_50 rfl ?_
  refine z_getR hO (93) fl_X7_24 rfl rfl dX7_enter_51 ?_
  refine z_iload hO 0 dX7_enter_54 rfl ?_
  refine z_aload_n hO 2 dX7_enter_56 rfl ?_
  refine z_getR hO (93) fl_X7_24 rfl rfl dX7_enter_57 ?_
  refine z_iload_n hO 3 dX7_enter_60 rfl ?_
  refine z_iald hO rfl (by omega) (by decide) dX7_enter_61 (fun r61 => ?_)
  try simp (disch := omega) only [fl_row_ne, fl_ne, up_row_ne, up_ne, up_eq, up_nk, up_up, up_self, ne_eq, Nat.reduceEqDiff, Int.reduceEq, reduceCtorEq, not_false_eq_true, not_true_eq_false] at r61 ⊢
  refine z_iast hO rfl (by omega) (by decide) (by omega) dX7_enter_62 ?_
  refine z_aload_n hO 2 dX7_enter_63 rfl ?_
  refine z_getR hO (94) fl_X7_27 rfl rfl dX7_enter_64 ?_
  refine z_iload hO 0 dX7_enter_67 rfl ?_
  refine z_aload_n hO 2 dX7_enter_69 rfl ?_
  refine z_getR hO (94) fl_X7_27 rfl rfl dX7_enter_70 ?_
  refine z_iload_n hO 3 dX7_enter_73 rfl ?_
  refine z_iald hO rfl (by omega) (by decide) dX7_enter_74 (fun r74 => ?_)
  try simp (disch := omega) only [fl_row_ne, fl_ne, up_row_ne, up_ne, up_eq, up_nk, up_up, up_self, ne_eq, Nat.reduceEqDiff, Int.reduceEq, reduceCtorEq, not_false_eq_true, not_true_eq_false] at r74 ⊢
  refine z_aload_n hO 2 dX7_enter_75 rfl ?_
  refine z_getR hO (1) fl_X7_37 rfl rfl dX7_enter_76 ?_
  refine z_getR hO (4) fl_X7_78 rfl rfl dX7_enter_79 ?_
  refine z_iload_n hO 1 dX7_enter_82 rfl ?_
  refine z_iald hO rfl (by omega) (by decide) dX7_enter_83 (fun r83 => ?_)
  try simp (disch := omega) only [fl_row_ne, fl_ne, up_row_ne, up_ne, up_eq, up_nk, up_up, up_self, ne_eq, Nat.reduceEqDiff, Int.reduceEq, reduceCtorEq, not_false_eq_true, not_true_eq_false] at r83 ⊢
  refine z_iadd hO dX7_enter_84 ?_
  refine z_iast hO rfl (by omega) (by decide) (by omega) dX7_enter_85 ?_
  refine z_aload_n hO 2 dX7_enter_86 rfl ?_
  refine z_getR hO (95) fl_X7_30 rfl rfl dX7_enter_87 ?_
  refine z_iload hO 0 dX7_enter_90 rfl ?_
  refine z_aload_n hO 2 dX7_enter_92 rfl ?_
  refine z_getR hO (95) fl_X7_30 rfl rfl dX7_enter_93 ?_
  refine z_iload_n hO 3 dX7_enter_96 rfl ?_
  refine z_lald hO rfl (by omega) (by decide) dX7_enter_97 (fun r97 => ?_)
  try simp (disch := omega) only [fl_row_ne, fl_ne, up_row_ne, up_ne, up_eq, up_nk, up_up, up_self, ne_eq, Nat.reduceEqDiff, Int.reduceEq, reduceCtorEq, not_false_eq_true, not_true_eq_false] at r97 ⊢
  refine z_bipush hO dX7_enter_98 (by decide) ?_
  refine z_aload_n hO 2 dX7_enter_100 rfl ?_
  refine z_getR hO (1) fl_X7_37 rfl rfl dX7_enter_101 ?_
  refine z_getR hO (4) fl_X7_78 rfl rfl dX7_enter_104 ?_
  refine z_iload_n hO 1 dX7_enter_107 rfl ?_
  refine z_iald hO rfl (by omega) (by decide) dX7_enter_108 (fun r108 => ?_)
  try simp (disch := omega) only [fl_row_ne, fl_ne, up_row_ne, up_ne, up_eq, up_nk, up_up, up_self, ne_eq, Nat.reduceEqDiff, Int.reduceEq, reduceCtorEq, not_false_eq_true, not_true_eq_false] at r108 ⊢
  refine z_isub hO dX7_enter_109 ?_
  refine z_i2l hO dX7_enter_110 (by omega) ?_
  refine z_lmul hO dX7_enter_111 ?_
  refine z_last hO rfl (by omega) (by decide) (⟨by have := Int.mul_nonneg h95.1 (show (0 : Int) ≤ 10 - σ 4 (d * 4 + k) by omega); omega, by have := Int.mul_le_mul h95.2 (show 10 - σ 4 (d * 4 + k) ≤ 10 by omega) (by omega) (by decide); omega⟩) dX7_enter_112 ?_
  refine z_sg (show _ = entS σ d k from rfl) ?_
  have x90 : (entS σ d k) 90 (d + 1) = σ 90 d := by unfold entS; simp (disch := omega) only [fl_row_ne, fl_ne, up_row_ne, up_ne, up_eq, up_nk, up_up, up_self, ne_eq, Nat.reduceEqDiff, Int.reduceEq, reduceCtorEq, not_false_eq_true, not_true_eq_false]
  have x91 : (entS σ d k) 91 (d + 1) = σ 91 d := by unfold entS; simp (disch := omega) only [fl_row_ne, fl_ne, up_row_ne, up_ne, up_eq, up_nk, up_up, up_self, ne_eq, Nat.reduceEqDiff, Int.reduceEq, reduceCtorEq, not_false_eq_true, not_true_eq_false]
  have x92 : (entS σ d k) 92 (d + 1) = σ 92 d := by unfold entS; simp (disch := omega) only [fl_row_ne, fl_ne, up_row_ne, up_ne, up_eq, up_nk, up_up, up_self, ne_eq, Nat.reduceEqDiff, Int.reduceEq, reduceCtorEq, not_false_eq_true, not_true_eq_false]
  have x93 : (entS σ d k) 93 (d + 1) = σ 93 d := by unfold entS; simp (disch := omega) only [fl_row_ne, fl_ne, up_row_ne, up_ne, up_eq, up_nk, up_up, up_self, ne_eq, Nat.reduceEqDiff, Int.reduceEq, reduceCtorEq, not_false_eq_true, not_true_eq_false]
  have y90 : (entS σ d k) 90 d = σ 90 d := by unfold entS; simp (disch := omega) only [fl_row_ne, fl_ne, up_row_ne, up_ne, up_eq, up_nk, up_up, up_self, ne_eq, Nat.reduceEqDiff, Int.reduceEq, reduceCtorEq, not_false_eq_true, not_true_eq_false]
  have x3 : (entS σ d k) 3 = σ 3 := by unfold entS; simp (disch := omega) only [fl_row_ne, fl_ne, up_row_ne, up_ne, up_eq, up_nk, up_up, up_self, ne_eq, Nat.reduceEqDiff, Int.reduceEq, reduceCtorEq, not_false_eq_true, not_true_eq_false]
  refine z_aload_n hO 2 dX7_enter_113 rfl ?_
  refine z_getR hO (1) fl_X7_37 rfl rfl dX7_enter_114 ?_
  refine z_getR hO (3) fl_X7_80 rfl rfl dX7_enter_117 ?_
  refine z_iload_n hO 1 dX7_enter_120 rfl ?_
  refine z_iald hO rfl (by omega) (by decide) dX7_enter_121 (fun r121 => ?_)
  try simp (disch := omega) only [fl_row_ne, fl_ne, up_row_ne, up_ne, up_eq, up_nk, up_up, up_self, ne_eq, Nat.reduceEqDiff, Int.reduceEq, reduceCtorEq, not_false_eq_true, not_true_eq_false, x90, x91, x92, x93, y90, x3] at r121 ⊢
  rcases (show σ 3 (d * 4 + k) = 0 ∨ σ 3 (d * 4 + k) = 28 ∨ σ 3 (d * 4 + k) = 29 ∨ σ 3 (d * 4 + k) = 30 ∨ σ 3 (d * 4 + k) = 31 ∨ (σ 3 (d * 4 + k) ≠ 0 ∧ σ 3 (d * 4 + k) ≠ 28 ∧ σ 3 (d * 4 + k) ≠ 29 ∧ σ 3 (d * 4 + k) ≠ 30 ∧ σ 3 (d * 4 + k) ≠ 31) by omega) with h122 | h122 | h122 | h122 | h122 | h122
  ·
    refine z_lsw hO 172 dX7_enter_122 (by decide) (by omega) (by rw [h122]; first | done | rfl) (by decide) ?_
    refine z_iconst hO dX7_enter_172 ?_
    exact z_retT hO hR dX7_enter_173 ⟨fun _ => ⟨by unfold entOk; rw [if_pos (by omega)]; trivial, by unfold entR; rw [if_pos (by omega)]⟩, fun z => absurd z (by decide)⟩
  ·
    refine z_lsw hO 204 dX7_enter_122 (by decide) (by omega) (by rw [h122]; first | done | rfl) (by decide) ?_
    refine z_aload_n hO 2 dX7_enter_204 rfl ?_
    refine z_iload hO 0 dX7_enter_205 rfl ?_
    refine z_cvB hO (t_X7_passHundred (by omega) (by rw [x92]; exact h2)) cv_X7_89 rfl rfl rfl rfl (by decide) (Nat.le_of_ble_eq_true rfl) dX7_enter_207 (fun s207 p207 => ?_) (fun s207 p207 => ?_)
    ·
      simp only [x90, x91, x92, x93] at p207
      obtain ⟨k207, e207⟩ := p207.1 (by trivial)
      exact z_retT hO hR dX7_enter_210 ⟨fun _ => ⟨by unfold entOk; rw [if_neg (by omega), if_neg (by omega), if_neg (by omega), if_pos (by omega)]; exact k207, by unfold entR; rw [if_neg (by omega), if_neg (by omega), if_neg (by omega), if_pos (by omega), e207]; first | done | rfl | (unfold stpS; rw [x93, x91, x92]; done) | (unfold thoS; rw [x92]; done) | (unfold hunS; rw [x92]; done)⟩, fun z => absurd z (by decide)⟩
    ·
      simp only [x90, x91, x92, x93] at p207
      obtain ⟨k207, e207⟩ := p207.2 (by trivial)
      exact z_retF hO hR dX7_enter_210 ⟨fun z => absurd z (by decide), fun _ => by unfold entOk; rw [if_neg (by omega), if_neg (by omega), if_neg (by omega), if_pos (by omega)]; exact ⟨k207, e207⟩⟩
  ·
    refine z_lsw hO 211 dX7_enter_122 (by decide) (by omega) (by rw [h122]; first | done | rfl) (by decide) ?_
    refine z_aload_n hO 2 dX7_enter_211 rfl ?_
    refine z_iload_n hO 3 dX7_enter_212 rfl ?_
    refine z_cvQ hO (t_X7_isWhole (by omega)) cv_X7_65 rfl rfl rfl rfl (by decide) (Nat.le_of_ble_eq_true rfl) dX7_enter_213 (fun c213 => ?_) (fun c213 => ?_)
    ·
      try simp (disch := omega) only [fl_row_ne, fl_ne, up_row_ne, up_ne, up_eq, up_nk, up_up, up_self, ne_eq, Nat.reduceEqDiff, Int.reduceEq, reduceCtorEq, not_false_eq_true, not_true_eq_false, x90, x91, x92, x93, y90, x3] at c213 ⊢
      refine z_if_eq hO 232 dX7_enter_216 (by decide) (by decide) (fun c216 => absurd c216 (by omega)) (fun c216 => ?_)
      refine z_aload_n hO 2 dX7_enter_219 rfl ?_
      refine z_iload hO 0 dX7_enter_220 rfl ?_
      refine z_cvB hO (t_X7_passThousand (by omega) (by rw [x92]; exact h2)) cv_X7_92 rfl rfl rfl rfl (by decide) (Nat.le_of_ble_eq_true rfl) dX7_enter_222 (fun s222 p222 => ?_) (fun s222 p222 => ?_)
      ·
        simp only [x90, x91, x92, x93] at p222
        obtain ⟨k222, e222⟩ := p222.1 (by trivial)
        refine z_if_eq hO 232 dX7_enter_225 (by decide) (by decide) (fun c225 => absurd c225 (by omega)) (fun c225 => ?_)
        refine z_iconst hO dX7_enter_228 ?_
        refine z_goto hO 233 dX7_enter_229 (by decide) ?_
        exact z_retT hO hR dX7_enter_233 ⟨fun _ => ⟨by unfold entOk; rw [if_neg (by omega), if_neg (by omega), if_neg (by omega), if_neg (by omega), if_pos (by omega)]; exact ⟨c213, k222⟩, by unfold entR; rw [if_neg (by omega), if_neg (by omega), if_neg (by omega), if_neg (by omega), if_pos (by omega), e222]; first | done | rfl | (unfold stpS; rw [x93, x91, x92]; done) | (unfold thoS; rw [x92]; done) | (unfold hunS; rw [x92]; done)⟩, fun z => absurd z (by decide)⟩
      ·
        simp only [x90, x91, x92, x93] at p222
        obtain ⟨k222, e222⟩ := p222.2 (by trivial)
        refine z_if_eq hO 232 dX7_enter_225 (by decide) (by decide) (fun c225 => ?_) (fun c225 => absurd c225 (by omega))
        refine z_iconst hO dX7_enter_232 ?_
        exact z_retF hO hR dX7_enter_233 ⟨fun z => absurd z (by decide), fun _ => by unfold entOk; rw [if_neg (by omega), if_neg (by omega), if_neg (by omega), if_neg (by omega), if_pos (by omega)]; first | exact ⟨fun z => k222 z.2, e222⟩ | exact ⟨fun z => c213 z.1, rfl⟩⟩
    ·
      try simp (disch := omega) only [fl_row_ne, fl_ne, up_row_ne, up_ne, up_eq, up_nk, up_up, up_self, ne_eq, Nat.reduceEqDiff, Int.reduceEq, reduceCtorEq, not_false_eq_true, not_true_eq_false, x90, x91, x92, x93, y90, x3] at c213 ⊢
      refine z_if_eq hO 232 dX7_enter_216 (by decide) (by decide) (fun c216 => ?_) (fun c216 => absurd c216 (by omega))
      refine z_iconst hO dX7_enter_232 ?_
      exact z_retF hO hR dX7_enter_233 ⟨fun z => absurd z (by decide), fun _ => by unfold entOk; rw [if_neg (by omega), if_neg (by omega), if_neg (by omega), if_neg (by omega), if_pos (by omega)]; first | exact ⟨fun z => k222 z.2, e222⟩ | exact ⟨fun z => c213 z.1, rfl⟩⟩
  ·
    refine z_lsw hO 197 dX7_enter_122 (by decide) (by omega) (by rw [h122]; first | done | rfl) (by decide) ?_
    refine z_aload_n hO 2 dX7_enter_197 rfl ?_
    refine z_iload hO 0 dX7_enter_198 rfl ?_
    refine z_cvB hO (t_X7_passAnd (by omega)) cv_X7_86 rfl rfl rfl rfl (by decide) (Nat.le_of_ble_eq_true rfl) dX7_enter_200 (fun s200 p200 => ?_) (fun s200 p200 => ?_)
    ·
      simp only [x90, x91, x92, x93] at p200
      obtain ⟨k200, e200⟩ := p200.1 (by trivial)
      exact z_retT hO hR dX7_enter_203 ⟨fun _ => ⟨by unfold entOk; rw [if_neg (by omega), if_neg (by omega), if_pos (by omega)]; exact k200, by unfold entR; rw [if_neg (by omega), if_neg (by omega), if_pos (by omega), e200]; first | done | rfl | (unfold stpS; rw [x93, x91, x92]; done) | (unfold thoS; rw [x92]; done) | (unfold hunS; rw [x92]; done)⟩, fun z => absurd z (by decide)⟩
    ·
      simp only [x90, x91, x92, x93] at p200
      obtain ⟨k200, e200⟩ := p200.2 (by trivial)
      exact z_retF hO hR dX7_enter_203 ⟨fun z => absurd z (by decide), fun _ => by unfold entOk; rw [if_neg (by omega), if_neg (by omega), if_pos (by omega)]; exact ⟨k200, e200⟩⟩
  ·
    refine z_lsw hO 174 dX7_enter_122 (by decide) (by omega) (by rw [h122]; first | done | rfl) (by decide) ?_
    refine z_aload_n hO 2 dX7_enter_174 rfl ?_
    refine z_iload_n hO 3 dX7_enter_175 rfl ?_
    refine z_cvQ hO (t_X7_isWhole (by omega)) cv_X7_65 rfl rfl rfl rfl (by decide) (Nat.le_of_ble_eq_true rfl) dX7_enter_176 (fun c176 => ?_) (fun c176 => ?_)
    ·
      try simp (disch := omega) only [fl_row_ne, fl_ne, up_row_ne, up_ne, up_eq, up_nk, up_up, up_self, ne_eq, Nat.reduceEqDiff, Int.reduceEq, reduceCtorEq, not_false_eq_true, not_true_eq_false, x90, x91, x92, x93, y90, x3] at c176 ⊢
      refine z_if_eq hO 195 dX7_enter_179 (by decide) (by decide) (fun c179 => absurd c179 (by omega)) (fun c179 => ?_)
      refine z_aload_n hO 2 dX7_enter_182 rfl ?_
      refine z_iload hO 0 dX7_enter_183 rfl ?_
      refine z_cvB hO (t_X7_passStop (by omega) (by rw [x93]; exact he) (by rw [x91]; exact h1) (by rw [x92]; exact h2)) cv_X7_83 rfl rfl rfl rfl (by decide) (Nat.le_of_ble_eq_true rfl) dX7_enter_185 (fun s185 p185 => ?_) (fun s185 p185 => ?_)
      ·
        simp only [x90, x91, x92, x93] at p185
        obtain ⟨k185, e185⟩ := p185.1 (by trivial)
        refine z_if_eq hO 195 dX7_enter_188 (by decide) (by decide) (fun c188 => absurd c188 (by omega)) (fun c188 => ?_)
        refine z_iconst hO dX7_enter_191 ?_
        refine z_goto hO 196 dX7_enter_192 (by decide) ?_
        exact z_retT hO hR dX7_enter_196 ⟨fun _ => ⟨by unfold entOk; rw [if_neg (by omega), if_pos (by omega)]; exact ⟨c176, k185⟩, by unfold entR; rw [if_neg (by omega), if_pos (by omega), e185]; first | done | rfl | (unfold stpS; rw [x93, x91, x92]; done) | (unfold thoS; rw [x92]; done) | (unfold hunS; rw [x92]; done)⟩, fun z => absurd z (by decide)⟩
      ·
        simp only [x90, x91, x92, x93] at p185
        obtain ⟨k185, e185⟩ := p185.2 (by trivial)
        refine z_if_eq hO 195 dX7_enter_188 (by decide) (by decide) (fun c188 => ?_) (fun c188 => absurd c188 (by omega))
        refine z_iconst hO dX7_enter_195 ?_
        exact z_retF hO hR dX7_enter_196 ⟨fun z => absurd z (by decide), fun _ => by unfold entOk; rw [if_neg (by omega), if_pos (by omega)]; first | exact ⟨fun z => k185 z.2, e185⟩ | exact ⟨fun z => c176 z.1, rfl⟩⟩
    ·
      try simp (disch := omega) only [fl_row_ne, fl_ne, up_row_ne, up_ne, up_eq, up_nk, up_up, up_self, ne_eq, Nat.reduceEqDiff, Int.reduceEq, reduceCtorEq, not_false_eq_true, not_true_eq_false, x90, x91, x92, x93, y90, x3] at c176 ⊢
      refine z_if_eq hO 195 dX7_enter_179 (by decide) (by decide) (fun c179 => ?_) (fun c179 => absurd c179 (by omega))
      refine z_iconst hO dX7_enter_195 ?_
      exact z_retF hO hR dX7_enter_196 ⟨fun z => absurd z (by decide), fun _ => by unfold entOk; rw [if_neg (by omega), if_pos (by omega)]; first | exact ⟨fun z => k185 z.2, e185⟩ | exact ⟨fun z => c176 z.1, rfl⟩⟩
  ·
    refine z_lsw hO (off := 112) 234 dX7_enter_122 (by decide) (by omega) (by obtain ⟨a1, a2, a3, a4, a5⟩ := h122; simp [Op.lookupswitch.offset, a1, a2, a3, a4, a5, Ne.symm a1, Ne.symm a2, Ne.symm a3, Ne.symm a4, Ne.symm a5]) (by decide) ?_
    refine z_aload_n hO 2 dX7_enter_234 rfl ?_
    refine z_iload hO 0 dX7_enter_235 rfl ?_
    refine z_aload_n hO 2 dX7_enter_237 rfl ?_
    refine z_getR hO (1) fl_X7_37 rfl rfl dX7_enter_238 ?_
    refine z_getR hO (3) fl_X7_80 rfl rfl dX7_enter_241 ?_
    refine z_iload_n hO 1 dX7_enter_244 rfl ?_
    refine z_iald hO rfl (by omega) (by decide) dX7_enter_245 (fun r245 => ?_)
    try simp (disch := omega) only [fl_row_ne, fl_ne, up_row_ne, up_ne, up_eq, up_nk, up_up, up_self, ne_eq, Nat.reduceEqDiff, Int.reduceEq, reduceCtorEq, not_false_eq_true, not_true_eq_false, x90, x91, x92, x93, y90, x3] at r245 ⊢
    refine z_cvB hO (t_X7_passLow (by omega) (by omega) (by rw [x92]; exact h2)) cv_X7_95 rfl rfl rfl rfl (by decide) (Nat.le_of_ble_eq_true rfl) dX7_enter_246 (fun s246 p246 => ?_) (fun s246 p246 => ?_)
    ·
      simp only [x90] at p246
      obtain ⟨k246, e246⟩ := p246.1 (by trivial)
      exact z_retT hO hR dX7_enter_249 ⟨fun _ => ⟨by unfold entOk; rw [if_neg (by omega), if_neg (by omega), if_neg (by omega), if_neg (by omega), if_neg (by omega)]; exact k246, by unfold entR; rw [if_neg (by omega), if_neg (by omega), if_neg (by omega), if_neg (by omega), if_neg (by omega), e246]; first | done | rfl | (unfold stpS; rw [x93, x91, x92]; done) | (unfold thoS; rw [x92]; done) | (unfold hunS; rw [x92]; done)⟩, fun z => absurd z (by decide)⟩
    ·
      simp only [x90] at p246
      obtain ⟨k246, e246⟩ := p246.2 (by trivial)
      exact z_retF hO hR dX7_enter_249 ⟨fun z => absurd z (by decide), fun _ => by unfold entOk; rw [if_neg (by omega), if_neg (by omega), if_neg (by omega), if_neg (by omega), if_neg (by omega)]; exact ⟨k246, e246⟩⟩
