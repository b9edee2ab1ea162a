def imgS (σ : Sg) : Sg := up (pastS (tkS σ 9 1) 47 13) 0 8 1
def rstS (σ : Sg) : Sg := fgtS (pastS (tkS σ 1 9) 13 47)

set_option maxHeartbeats 4000000 in
set_option maxRecDepth 100000 in
theorem t_X8_image {g : G} {σ : Sg}  : MM g mX8_image [.ref (g.2.2.1 0)] σ (pI (fun r σ' => r = 1 ∧ σ' = imgS σ)) := by
  refine mm_of rfl (by decide) rfl rfl (Nat.le_of_ble_eq_true rfl) (fun x hO hR => ?_)
  refine z_aload_n hO 0 dX8_image_0 rfl ?_
  refine z_getR hO (9) fl_X8_26 rfl rfl dX8_image_1 ?_
  refine z_aload_n hO 0 dX8_image_4 rfl ?_
  refine z_getR hO (1) fl_X8_12 rfl rfl dX8_image_5 ?_
  refine z_cvV hO (t_X2_take hd_9 hd_1 (by omega)) cv_X8_187 rfl rfl rfl rfl (by decide) (Nat.le_of_ble_eq_true rfl) dX8_image_8 (fun s8 p8 => ?_)
  subst p8
  refine z_aload_n hO 0 dX8_image_11 rfl ?_
  refine z_getR hO (47) fl_X8_29 rfl rfl dX8_image_12 ?_
  refine z_aload_n hO 0 dX8_image_15 rfl ?_
  refine z_getR hO (13) fl_X8_22 rfl rfl dX8_image_16 ?_
  refine z_cvV hO (t_X3_take47) cv_X8_190 rfl rfl rfl rfl (by decide) (Nat.le_of_ble_eq_true rfl) dX8_image_19 (fun s19 p19 => ?_)
  subst p19
  refine z_aload_n hO 0 dX8_image_22 rfl ?_
  refine z_iconst hO dX8_image_23 ?_
  refine z_putI hO 8 fp_X8_193 rfl rfl rfl (by omega) (by decide) (by decide) dX8_image_24 ?_
  refine z_iconst hO dX8_image_27 ?_
  exact z_retI hO hR dX8_image_28 (⟨rfl, rfl⟩)

set_option maxHeartbeats 4000000 in
set_option maxRecDepth 100000 in
theorem t_X8_restore {g : G} {σ : Sg}  : MM g mX8_restore [.ref (g.2.2.1 0)] σ (pI (fun r σ' => (r, σ') = if σ 0 8 = 0 then (-4, σ) else (1, rstS σ))) := by
  refine mm_of rfl (by decide) rfl rfl (Nat.le_of_ble_eq_true rfl) (fun x hO hR => ?_)
  refine z_aload_n hO 0 dX8_restore_0 rfl ?_
  refine z_getI hO 8 fl_X8_193 rfl rfl rfl dX8_restore_1 (fun r1 => ?_)
  refine z_if_ne hO 10 dX8_restore_4 (by decide) (by omega) (fun c4 => ?_) (fun c4 => ?_)
  ·
    refine z_aload_n hO 0 dX8_restore_10 rfl ?_
    refine z_getR hO (1) fl_X8_12 rfl rfl dX8_restore_11 ?_
    refine z_aload_n hO 0 dX8_restore_14 rfl ?_
    refine z_getR hO (9) fl_X8_26 rfl rfl dX8_restore_15 ?_
    refine z_cvV hO (t_X2_take hd_1 hd_9 (by omega)) cv_X8_187 rfl rfl rfl rfl (by decide) (Nat.le_of_ble_eq_true rfl) dX8_restore_18 (fun s18 p18 => ?_)
    subst p18
    refine z_aload_n hO 0 dX8_restore_21 rfl ?_
    refine z_getR hO (13) fl_X8_22 rfl rfl dX8_restore_22 ?_
    refine z_aload_n hO 0 dX8_restore_25 rfl ?_
    refine z_getR hO (47) fl_X8_29 rfl rfl dX8_restore_26 ?_
    refine z_cvV hO (t_X3_take13) cv_X8_190 rfl rfl rfl rfl (by decide) (Nat.le_of_ble_eq_true rfl) dX8_restore_29 (fun s29 p29 => ?_)
    subst p29
    refine z_aload_n hO 0 dX8_restore_32 rfl ?_
    refine z_getR hO (83) fl_X8_44 rfl rfl dX8_restore_33 ?_
    refine z_cvV hO (t_X6_forget) cv_X8_160 rfl rfl rfl rfl (by decide) (Nat.le_of_ble_eq_true rfl) dX8_restore_36 (fun s36 p36 => ?_)
    subst p36
    refine z_iconst hO dX8_restore_39 ?_
    exact z_retI hO hR dX8_restore_40 (by (repeat' split) <;> first | rfl | (exfalso; omega))
  ·
    refine z_bipush hO dX8_restore_7 (by decide) ?_
    exact z_retI hO hR dX8_restore_9 (by (repeat' split) <;> first | rfl | (exfalso; omega))

set_option maxHeartbeats 4000000 in
set_option maxRecDepth 100000 in
theorem t_X8_say {g : G} {σ : Sg} {v : Int} (rv : -2147483648 ≤ v ∧ v ≤ 2147483647) : MM g mX8_say [.ref (g.2.2.1 0), vI v] σ (pI (fun r σ' => (¬ (1 ≤ v ∧ v ≤ 999999) ∧ r = -1 ∧ σ' = σ) ∨ ((1 ≤ v ∧ v ≤ 999999) ∧ 8 < (numW v).length ∧ r = -3 ∧ FH 5 σ σ') ∨ ((1 ≤ v ∧ v ≤ 999999) ∧ (numW v).length ≤ 8 ∧ r = (growL (up σ 5 3 0) 5 (numW v)) 5 3 ∧ σ' = fgtS (up (tkSl (growL (up σ 5 3 0) 5 (numW v)) 1 5) 13 2 0)))) := by
  refine mm_of rfl (by decide) rfl rfl (Nat.le_of_ble_eq_true rfl) (fun x hO hR => ?_)
  refine z_iload_n hO 1 dX8_say_0 rfl ?_
  refine z_iconst hO dX8_say_1 ?_
  refine z_icmp_lt hO 11 dX8_say_2 (by decide) (by omega) (by decide) (fun c2 => ?_) (fun c2 => ?_)
  ·
    refine z_iconst hO dX8_say_11 ?_
    exact z_retI hO hR dX8_say_12 (Or.inl ⟨by omega, rfl, rfl⟩)
  ·
    refine z_iload_n hO 1 dX8_say_5 rfl ?_
    refine z_ldc hO k_X8_71 dX8_say_6 ?_
    refine z_icmp_le hO 13 dX8_say_8 (by decide) (by omega) (by decide) (fun c8 => ?_) (fun c8 => ?_)
    ·
      refine z_aload_n hO 0 dX8_say_13 rfl ?_
      refine z_getR hO (5) fl_X8_16 rfl rfl dX8_say_14 ?_
      refine z_iload_n hO 1 dX8_say_17 rfl ?_
      refine z_cvB hO (t_X2_spell hd_5 (by omega)) cv_X8_72 rfl rfl rfl rfl (by decide) (Nat.le_of_ble_eq_true rfl) dX8_say_18 (fun s18 p18 => ?_) (fun s18 p18 => ?_)
      ·
        obtain ⟨k18, e18⟩ := p18.1 rfl
        subst e18
        refine z_if_eq hO 31 dX8_say_21 (by decide) (by decide) (fun c21 => absurd c21 (by omega)) (fun c21 => ?_)
        refine z_aload_n hO 0 dX8_say_24 rfl ?_
        refine z_cvI hO (t_X8_tellAnew) cv_X8_67 rfl rfl rfl rfl (by decide) (Nat.le_of_ble_eq_true rfl) dX8_say_25 (fun v25 s25 p25 => ?_)
        obtain ⟨e25, rfl⟩ := p25
        subst e25
        refine z_goto hO 33 dX8_say_28 (by decide) ?_
        exact z_retI hO hR dX8_say_33 (by first | exact Or.inr (Or.inl ⟨by omega, k18, rfl, e18⟩) | exact Or.inr (Or.inr ⟨by omega, k18, rfl, rfl⟩))
      ·
        obtain ⟨k18, e18⟩ := p18.2 rfl
        refine z_if_eq hO 31 dX8_say_21 (by decide) (by decide) (fun c21 => ?_) (fun c21 => absurd c21 (by omega))
        refine z_bipush hO dX8_say_31 (by decide) ?_
        exact z_retI hO hR dX8_say_33 (by first | exact Or.inr (Or.inl ⟨by omega, k18, rfl, e18⟩) | exact Or.inr (Or.inr ⟨by omega, k18, rfl, rfl⟩))
    ·
      refine z_iconst hO dX8_say_11 ?_
      exact z_retI hO hR dX8_say_12 (Or.inl ⟨by omega, rfl, rfl⟩)

set_option maxHeartbeats 4000000 in
set_option maxRecDepth 100000 in
theorem t_X8_also {g : G} {σ : Sg} {s w q : Int} (rs : -2147483648 ≤ s ∧ s ≤ 2147483647) (rw : -2147483648 ≤ w ∧ w ≤ 2147483647) (rq : -2147483648 ≤ q ∧ q ≤ 2147483647) (h1 : 0 ≤ σ 13 1 ∧ σ 13 1 ≤ 7) (h2 : 0 ≤ σ 13 2 ∧ σ 13 2 ≤ 8) (hG : GI σ 1) : MM g mX8_also [.ref (g.2.2.1 0), vI s, vI w, vI q] σ (pI (fun r σ' => (¬ ((0 ≤ s ∧ s < σ 1 3) ∧ (0 ≤ w ∧ w ≤ 31) ∧ (0 ≤ q ∧ q ≤ 9)) ∧ r = -1 ∧ σ' = σ) ∨ (((0 ≤ s ∧ s < σ 1 3) ∧ (0 ≤ w ∧ w ≤ 31) ∧ (0 ≤ q ∧ q ≤ 9)) ∧ (∃ k, 0 ≤ k ∧ k < σ 2 s ∧ σ 3 (s * 4 + k) = w) ∧ r = -2 ∧ σ' = σ) ∨ (((0 ≤ s ∧ s < σ 1 3) ∧ (0 ≤ w ∧ w ≤ 31) ∧ (0 ≤ q ∧ q ≤ 9)) ∧ (∀ k, 0 ≤ k → k < σ 2 s → σ 3 (s * 4 + k) ≠ w) ∧ σ 2 s = 4 ∧ r = -3 ∧ σ' = σ) ∨ (((0 ≤ s ∧ s < σ 1 3) ∧ (0 ≤ w ∧ w ≤ 31) ∧ (0 ≤ q ∧ q ≤ 9)) ∧ (∀ k, 0 ≤ k → k < σ 2 s → σ 3 (s * 4 + k) ≠ w) ∧ σ 2 s < 4 ∧ r = σ 2 s + 1 ∧ σ' = widS (undS σ) 1 s w q))) := by
  refine mm_of rfl (by decide) rfl rfl (Nat.le_of_ble_eq_true rfl) (fun x hO hR => ?_)
  have hn := hG.1
  have hc : 0 ≤ s ∧ s < σ 1 3 → 0 ≤ σ 2 s ∧ σ 2 s ≤ 4 := fun h => hG.2 s h.1 h.2
  refine z_aload_n hO 0 dX8_also_0 rfl ?_
  refine z_getR hO (1) fl_X8_12 rfl rfl dX8_also_1 ?_
  refine z_iload_n hO 1 dX8_also_4 rfl ?_
  refine z_cvQ hO (t_X2_isSlot hd_1 (by omega)) cv_X8_76 rfl rfl rfl rfl (by decide) (Nat.le_of_ble_eq_true rfl) dX8_also_5 (fun c5 => ?_) (fun c5 => ?_)
  ·
    refine z_if_eq hO 25 dX8_also_8 (by decide) (by decide) (fun c8 => absurd c8 (by omega)) (fun c8 => ?_)
    refine z_iload_n hO 2 dX8_also_11 rfl ?_
    refine z_csQ hO (t_X8_isWord (by omega)) cs_X8_122 rfl rfl (by decide) (Nat.le_of_ble_eq_true rfl) dX8_also_12 (fun c12 => ?_) (fun c12 => ?_)
    ·
      refine z_if_eq hO 25 dX8_also_15 (by decide) (by decide) (fun c15 => absurd c15 (by omega)) (fun c15 => ?_)
      refine z_iload_n hO 3 dX8_also_18 rfl ?_
      refine z_csQ hO (t_X8_isCost (by omega)) cs_X8_125 rfl rfl (by decide) (Nat.le_of_ble_eq_true rfl) dX8_also_19 (fun c19 => ?_) (fun c19 => ?_)
      ·
        refine z_if_ne hO 27 dX8_also_22 (by decide) (by decide) (fun c22 => ?_) (fun c22 => absurd c22 (by omega))
        refine z_aload_n hO 0 dX8_also_27 rfl ?_
        refine z_getR hO (1) fl_X8_12 rfl rfl dX8_also_28 ?_
        refine z_iload_n hO 1 dX8_also_31 rfl ?_
        refine z_iload_n hO 2 dX8_also_32 rfl ?_
        refine z_cvI hO (t_X2_find hd_1 (by omega) (by omega) (by omega) hG.2) cv_X8_135 rfl rfl rfl rfl (by decide) (Nat.le_of_ble_eq_true rfl) dX8_also_33 (fun v33 s33 p33 => ?_)
        obtain ⟨pq, e33⟩ := p33
        rw [e33]
        have pq : fnQ (cv σ 1) s w v33 := by rcases pq with z | z; (exfalso; exact z.1 (by omega)); exact z.2
        have hvr : -1 ≤ v33 ∧ v33 ≤ 4 := by have hcs := hc (by omega); rcases pq with q | q; omega; (have q2 : v33 < σ 2 s := q.2.1; omega)
        refine z_if_lt hO 42 dX8_also_36 (by decide) (by omega) (fun c36 => ?_) (fun c36 => ?_)
        ·
          have hno : ∀ k, 0 ≤ k → k < σ 2 s → σ 3 (s * 4 + k) ≠ w := by rcases pq with q | q; exact q.2; (exfalso; omega)
          refine z_aload_n hO 0 dX8_also_42 rfl ?_
          refine z_getR hO (1) fl_X8_12 rfl rfl dX8_also_43 ?_
          refine z_getR hO (2) fl_X8_79 rfl rfl dX8_also_46 ?_
          refine z_iload_n hO 1 dX8_also_49 rfl ?_
          refine z_iald hO rfl (by omega) (by decide) dX8_also_50 (fun r50 => ?_)
          refine z_iconst hO dX8_also_51 ?_
          refine z_icmp_lt hO 58 dX8_also_52 (by decide) (by omega) (by decide) (fun c52 => ?_) (fun c52 => ?_)
          ·
            refine z_aload_n hO 0 dX8_also_58 rfl ?_
            refine z_cvV hO (t_X8_keepForUndo h1 h2) cv_X8_128 rfl rfl rfl rfl (by decide) (Nat.le_of_ble_eq_true rfl) dX8_also_59 (fun s59 p59 => ?_)
            rw [show s59 = undS σ from p59]
            refine z_aload_n hO 0 dX8_also_62 rfl ?_
            refine z_getR hO (1) fl_X8_12 rfl rfl dX8_also_63 ?_
            refine z_iload_n hO 1 dX8_also_66 rfl ?_
            refine z_iload_n hO 2 dX8_also_67 rfl ?_
            refine z_iload_n hO 3 dX8_also_68 rfl ?_
            refine z_cvB hO (t_X2_widen hd_1 (by omega) (by omega) (by omega) (GI_und hG).1.2 (GI_und hG).2) cv_X8_139 rfl rfl rfl rfl (by decide) (Nat.le_of_ble_eq_true rfl) dX8_also_69 (fun s69 p69 => ?_) (fun s69 p69 => ?_)
            ·
              simp only [undS_1 (show (1 : Nat) < 13 by decide), undS_1 (show (1 + 1 : Nat) < 13 by decide), Nat.reduceAdd] at p69
              obtain ⟨k69, rfl⟩ := p69.1 (by trivial)
              have hwn : widS (undS σ) 1 s w q 2 s = σ 2 s + 1 := by unfold widS; rw [up_eq, undS_1 (by decide)]
              refine z_pop hO dX8_also_72 rfl ?_
              refine z_aload_n hO 0 dX8_also_73 rfl ?_
              refine z_getR hO (1) fl_X8_12 rfl rfl dX8_also_74 ?_
              refine z_getR hO (2) fl_X8_79 rfl rfl dX8_also_77 ?_
              refine z_iload_n hO 1 dX8_also_80 rfl ?_
              refine z_iald hO rfl (by omega) (by decide) dX8_also_81 (fun r81 => ?_)
              try simp (disch := omega) only [fl_row_ne, fl_ne, up_row_ne, up_ne, up_eq, up_nk, up_up, up_self, ne_eq, Nat.reduceEqDiff, Int.reduceEq, reduceCtorEq, not_false_eq_true, not_true_eq_false, undS_1, hwn] at r81 ⊢
              exact z_retI hO hR dX8_also_82 (by first | exact Or.inl ⟨by omega, rfl, rfl⟩ | exact Or.inr (Or.inl ⟨by omega, hyes, rfl, rfl⟩) | exact Or.inr (Or.inr (Or.inl ⟨by omega, hno, by omega, rfl, rfl⟩)) | exact Or.inr (Or.inr (Or.inr ⟨by omega, hno, by omega, rfl, rfl⟩)))
            ·
              simp only [undS_1 (show (1 : Nat) < 13 by decide), undS_1 (show (1 + 1 : Nat) < 13 by decide), Nat.reduceAdd] at p69
              exfalso; exact (p69.2 (by trivial)).1 (by omega)
          ·
            refine z_bipush hO dX8_also_55 (by decide) ?_
            exact z_retI hO hR dX8_also_57 (by first | exact Or.inl ⟨by omega, rfl, rfl⟩ | exact Or.inr (Or.inl ⟨by omega, hyes, rfl, rfl⟩) | exact Or.inr (Or.inr (Or.inl ⟨by omega, hno, by omega, rfl, rfl⟩)) | exact Or.inr (Or.inr (Or.inr ⟨by omega, hno, by omega, rfl, rfl⟩)))
        ·
          have hyes : ∃ k, 0 ≤ k ∧ k < σ 2 s ∧ σ 3 (s * 4 + k) = w := by rcases pq with q | q; (exfalso; omega); exact ⟨v33, q.1, q.2.1, q.2.2.1⟩
          refine z_bipush hO dX8_also_39 (by decide) ?_
          exact z_retI hO hR dX8_also_41 (by first | exact Or.inl ⟨by omega, rfl, rfl⟩ | exact Or.inr (Or.inl ⟨by omega, hyes, rfl, rfl⟩) | exact Or.inr (Or.inr (Or.inl ⟨by omega, hno, by omega, rfl, rfl⟩)) | exact Or.inr (Or.inr (Or.inr ⟨by omega, hno, by omega, rfl, rfl⟩)))
      ·
        refine z_if_ne hO 27 dX8_also_22 (by decide) (by decide) (fun c22 => absurd c22 (by omega)) (fun c22 => ?_)
        refine z_iconst hO dX8_also_25 ?_
        exact z_retI hO hR dX8_also_26 (by first | exact Or.inl ⟨by omega, rfl, rfl⟩ | exact Or.inr (Or.inl ⟨by omega, hyes, rfl, rfl⟩) | exact Or.inr (Or.inr (Or.inl ⟨by omega, hno, by omega, rfl, rfl⟩)) | exact Or.inr (Or.inr (Or.inr ⟨by omega, hno, by omega, rfl, rfl⟩)))
    ·
      refine z_if_eq hO 25 dX8_also_15 (by decide) (by decide) (fun c15 => ?_) (fun c15 => absurd c15 (by omega))
      refine z_iconst hO dX8_also_25 ?_
      exact z_retI hO hR dX8_also_26 (by first | exact Or.inl ⟨by omega, rfl, rfl⟩ | exact Or.inr (Or.inl ⟨by omega, hyes, rfl, rfl⟩) | exact Or.inr (Or.inr (Or.inl ⟨by omega, hno, by omega, rfl, rfl⟩)) | exact Or.inr (Or.inr (Or.inr ⟨by omega, hno, by omega, rfl, rfl⟩)))
  ·
    refine z_if_eq hO 25 dX8_also_8 (by decide) (by decide) (fun c8 => ?_) (fun c8 => absurd c8 (by omega))
    refine z_iconst hO dX8_also_25 ?_
    exact z_retI hO hR dX8_also_26 (by first | exact Or.inl ⟨by omega, rfl, rfl⟩ | exact Or.inr (Or.inl ⟨by omega, hyes, rfl, rfl⟩) | exact Or.inr (Or.inr (Or.inl ⟨by omega, hno, by omega, rfl, rfl⟩)) | exact Or.inr (Or.inr (Or.inr ⟨by omega, hno, by omega, rfl, rfl⟩)))

set_option maxHeartbeats 4000000 in
set_option maxRecDepth 100000 in
theorem t_X8_settle {g : G} {σ : Sg} {s w : Int} (rs : -2147483648 ≤ s ∧ s ≤ 2147483647) (rw : -2147483648 ≤ w ∧ w ≤ 2147483647) (h1 : 0 ≤ σ 13 1 ∧ σ 13 1 ≤ 7) (h2 : 0 ≤ σ 13 2 ∧ σ 13 2 ≤ 8) (hG : GI σ 1) : MM g mX8_settle [.ref (g.2.2.1 0), vI s, vI w] σ (pI (fun r σ' => (¬ ((0 ≤ s ∧ s < σ 1 3) ∧ (0 ≤ w ∧ w ≤ 31)) ∧ r = -1 ∧ σ' = σ) ∨ (((0 ≤ s ∧ s < σ 1 3) ∧ (0 ≤ w ∧ w ≤ 31)) ∧ ((∀ k, 0 ≤ k → k < σ 2 s → σ 3 (s * 4 + k) ≠ w) ∨ σ 2 s = 1) ∧ r = -2 ∧ σ' = σ) ∨ (((0 ≤ s ∧ s < σ 1 3) ∧ (0 ≤ w ∧ w ≤ 31)) ∧ ∃ k, (0 ≤ k ∧ k < σ 2 s ∧ σ 3 (s * 4 + k) = w ∧ ∀ j, 0 ≤ j → j < k → σ 3 (s * 4 + j) ≠ w) ∧ σ 2 s ≠ 1 ∧ r = σ 2 s - 1 ∧ σ' = narS (undS σ) 1 s k))) := by
  refine mm_of rfl (by decide) rfl rfl (Nat.le_of_ble_eq_true rfl) (fun x hO hR => ?_)
  have hn := hG.1
  have hc : 0 ≤ s ∧ s < σ 1 3 → 0 ≤ σ 2 s ∧ σ 2 s ≤ 4 := fun h => hG.2 s h.1 h.2
  refine z_aload_n hO 0 dX8_settle_0 rfl ?_
  refine z_getR hO (1) fl_X8_12 rfl rfl dX8_settle_1 ?_
  refine z_iload_n hO 1 dX8_settle_4 rfl ?_
  refine z_cvQ hO (t_X2_isSlot hd_1 (by omega)) cv_X8_76 rfl rfl rfl rfl (by decide) (Nat.le_of_ble_eq_true rfl) dX8_settle_5 (fun c5 => ?_) (fun c5 => ?_)
  ·
    refine z_if_eq hO 18 dX8_settle_8 (by decide) (by decide) (fun c8 => absurd c8 (by omega)) (fun c8 => ?_)
    refine z_iload_n hO 2 dX8_settle_11 rfl ?_
    refine z_csQ hO (t_X8_isWord (by omega)) cs_X8_122 rfl rfl (by decide) (Nat.le_of_ble_eq_true rfl) dX8_settle_12 (fun c12 => ?_) (fun c12 => ?_)
    ·
      refine z_if_ne hO 20 dX8_settle_15 (by decide) (by decide) (fun c15 => ?_) (fun c15 => absurd c15 (by omega))
      refine z_aload_n hO 0 dX8_settle_20 rfl ?_
      refine z_getR hO (1) fl_X8_12 rfl rfl dX8_settle_21 ?_
      refine z_iload_n hO 1 dX8_settle_24 rfl ?_
      refine z_iload_n hO 2 dX8_settle_25 rfl ?_
      refine z_cvI hO (t_X2_find hd_1 (by omega) (by omega) (by omega) hG.2) cv_X8_135 rfl rfl rfl rfl (by decide) (Nat.le_of_ble_eq_true rfl) dX8_settle_26 (fun v26 s26 p26 => ?_)
      obtain ⟨pq, e26⟩ := p26
      rw [e26]
      have pq : fnQ (cv σ 1) s w v26 := by rcases pq with z | z; (exfalso; exact z.1 (by omega)); exact z.2
      have hvr : -1 ≤ v26 ∧ v26 ≤ 4 := by have hcs := hc (by omega); rcases pq with q | q; omega; (have q2 : v26 < σ 2 s := q.2.1; omega)
      refine z_istore_n hO (L' := [(3, _), (0, _), (1, _), (2, _)]) dX8_settle_29 (by decide) rfl ?_
      refine z_aload_n hO 1 dX8_settle_30 rfl ?_
      refine z_getR hO (1) fl_X8_12 rfl rfl dX8_settle_31 ?_
      refine z_getR hO (2) fl_X8_79 rfl rfl dX8_settle_34 ?_
      refine z_iload_n hO 2 dX8_settle_37 rfl ?_
      refine z_iald hO rfl (by omega) (by decide) dX8_settle_38 (fun r38 => ?_)
      refine z_iconst hO dX8_settle_39 ?_
      refine z_isub hO dX8_settle_40 ?_
      refine z_istore hO (L' := [(4, _), (3, _), (0, _), (1, _), (2, _)]) dX8_settle_41 (by decide) rfl ?_
      refine z_iload_n hO 1 dX8_settle_43 rfl ?_
      refine z_if_lt hO 52 dX8_settle_44 (by decide) (by omega) (fun c44 => ?_) (fun c44 => ?_)
      ·
        have hno : (∀ k, 0 ≤ k → k < σ 2 s → σ 3 (s * 4 + k) ≠ w) ∨ σ 2 s = 1 := by rcases pq with q | q; exact Or.inl q.2; exact Or.inr (by omega)
        refine z_bipush hO dX8_settle_52 (by decide) ?_
        exact z_retI hO hR dX8_settle_54 (by first | exact Or.inl ⟨by omega, rfl, rfl⟩ | exact Or.inr (Or.inl ⟨by omega, hno, rfl, rfl⟩) | exact Or.inr (Or.inr ⟨by omega, v26, hyes, by omega, rfl, rfl⟩))
      ·
        refine z_iload hO 0 dX8_settle_47 rfl ?_
        refine z_if_ne hO 55 dX8_settle_49 (by decide) (by omega) (fun c49 => ?_) (fun c49 => ?_)
        ·
          have hyes : 0 ≤ v26 ∧ v26 < σ 2 s ∧ σ 3 (s * 4 + v26) = w ∧ ∀ k, 0 ≤ k → k < v26 → σ 3 (s * 4 + k) ≠ w := by rcases pq with q | q; (exfalso; omega); exact q
          refine z_aload_n hO 2 dX8_settle_55 rfl ?_
          refine z_cvV hO (t_X8_keepForUndo h1 h2) cv_X8_128 rfl rfl rfl rfl (by decide) (Nat.le_of_ble_eq_true rfl) dX8_settle_56 (fun s56 p56 => ?_)
          rw [show s56 = undS σ from p56]
          refine z_aload_n hO 2 dX8_settle_59 rfl ?_
          refine z_getR hO (1) fl_X8_12 rfl rfl dX8_settle_60 ?_
          refine z_iload_n hO 3 dX8_settle_63 rfl ?_
          refine z_iload_n hO 1 dX8_settle_64 rfl ?_
          refine z_cvV hO (t_X2_narrowTo hd_1 (by omega) (by omega) (GI_und hG).1.2 (GI_und hG).2) cv_X8_147 rfl rfl rfl rfl (by decide) (Nat.le_of_ble_eq_true rfl) dX8_settle_65 (fun s65 p65 => ?_)
          simp only [undS_1 (show (1 : Nat) < 13 by decide), undS_1 (show (1 + 1 : Nat) < 13 by decide), Nat.reduceAdd] at p65
          have e65 := p65.1 (by omega)
          subst e65
          refine z_iload hO 0 dX8_settle_68 rfl ?_
          exact z_retI hO hR dX8_settle_70 (by first | exact Or.inl ⟨by omega, rfl, rfl⟩ | exact Or.inr (Or.inl ⟨by omega, hno, rfl, rfl⟩) | exact Or.inr (Or.inr ⟨by omega, v26, hyes, by omega, rfl, rfl⟩))
        ·
          have hno : (∀ k, 0 ≤ k → k < σ 2 s → σ 3 (s * 4 + k) ≠ w) ∨ σ 2 s = 1 := by rcases pq with q | q; exact Or.inl q.2; exact Or.inr (by omega)
          refine z_bipush hO dX8_settle_52 (by decide) ?_
          exact z_retI hO hR dX8_settle_54 (by first | exact Or.inl ⟨by omega, rfl, rfl⟩ | exact Or.inr (Or.inl ⟨by omega, hno, rfl, rfl⟩) | exact Or.inr (Or.inr ⟨by omega, v26, hyes, by omega, rfl, rfl⟩))
    ·
      refine z_if_ne hO 20 dX8_settle_15 (by decide) (by decide) (fun c15 => absurd c15 (by omega)) (fun c15 => ?_)
      refine z_iconst hO dX8_settle_18 ?_
      exact z_retI hO hR dX8_settle_19 (by first | exact Or.inl ⟨by omega, rfl, rfl⟩ | exact Or.inr (Or.inl ⟨by omega, hno, rfl, rfl⟩) | exact Or.inr (Or.inr ⟨by omega, v26, hyes, by omega, rfl, rfl⟩))
  ·
    refine z_if_eq hO 18 dX8_settle_8 (by decide) (by decide) (fun c8 => ?_) (fun c8 => absurd c8 (by omega))
    refine z_iconst hO dX8_settle_18 ?_
    exact z_retI hO hR dX8_settle_19 (by first | exact Or.inl ⟨by omega, rfl, rfl⟩ | exact Or.inr (Or.inl ⟨by omega, hno, rfl, rfl⟩) | exact Or.inr (Or.inr ⟨by omega, v26, hyes, by omega, rfl, rfl⟩))
