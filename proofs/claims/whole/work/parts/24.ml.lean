/-- words said one behind the other -/
def sayW (σ : Sg) (w : Int) : Sg := up (up σ 126 (σ 113 27) w) 113 27 (σ 113 27 + 1)
def sayL (σ : Sg) : List Int → Sg
  | [] => σ
  | w :: l => sayL (sayW σ w) l
/-- how a number below 1000 is said -/
def smallW (v : Int) : List Int := (if 100 ≤ v then [v / 100, 28] else []) ++ ((if 19 < v % 100 then [18 + v % 100 / 10] else []) ++ (if 0 < (if 19 < v % 100 then v % 100 % 10 else v % 100) then [if 19 < v % 100 then v % 100 % 10 else v % 100] else []))
def numW (v : Int) : List Int := (if 1000 ≤ v then smallW (v / 1000) ++ [29] else []) ++ smallW (v % 1000)
theorem sayL_app (σ : Sg) (a b : List Int) : sayL σ (a ++ b) = sayL (sayL σ a) b := by
  induction a generalizing σ with
  | nil => rfl
  | cons w a ih => exact ih _
theorem sayW_n (σ : Sg) (w : Int) : sayW σ w 113 27 = σ 113 27 + 1 := up_eq
theorem sayL_n (σ : Sg) (l : List Int) : sayL σ l 113 27 = σ 113 27 + l.length := by
  induction l generalizing σ with
  | nil => simp [sayL]
  | cons w l ih => unfold sayL; rw [ih, sayW_n]; simp only [List.length_cons]; omega
theorem sayW_ne {σ : Sg} {w : Int} {c : Nat} {k : Int} (h : c ≠ 126) (h2 : c ≠ 113 ∨ k ≠ 27) : sayW σ w c k = σ c k := by
  unfold sayW
  rcases h2 with q | q
  · rw [up_ne q, up_ne h]
  · rw [up_nk q, up_ne h]
theorem sayL_ne {σ : Sg} {l : List Int} {c : Nat} {k : Int} (h : c ≠ 126) (h2 : c ≠ 113 ∨ k ≠ 27) : sayL σ l c k = σ c k := by
  induction l generalizing σ with
  | nil => rfl
  | cons w l ih => unfold sayL; rw [ih, sayW_ne h h2]
theorem sayL_at (σ : Sg) (l : List Int) (j : Nat) (hj : j < l.length) : sayL σ l 126 (σ 113 27 + j) = l[j] ∧ ∀ k, k < σ 113 27 → sayL σ l 126 k = σ 126 k := by
  induction l generalizing σ j with
  | nil => exact absurd hj (Nat.not_lt_zero j)
  | cons w l ih =>
    unfold sayL
    have base : ∀ k, k < σ 113 27 + 1 → sayL (sayW σ w) l 126 k = sayW σ w 126 k := by
      intro k hk
      cases l with
      | nil => rfl
      | cons a b => exact (ih (sayW σ w) 0 (by simp)).2 k (by rw [sayW_n]; exact hk)
    refine ⟨?_, fun k hk => ?_⟩
    · cases j with
      | zero =>
        rw [show σ 113 27 + ((0 : Nat) : Int) = σ 113 27 by simp, base _ (by omega)]
        unfold sayW; rw [up_ne (by decide), up_eq]; rfl
      | succ j =>
        have := (ih (sayW σ w) j (by simpa using hj)).1
        rw [sayW_n] at this
        rw [show σ 113 27 + ((j + 1 : Nat) : Int) = σ 113 27 + 1 + j by omega, this]; rfl
    · rw [base k (by omega)]; unfold sayW; rw [up_ne (by decide), up_nk (by omega)]
theorem smallW_len (v : Int) : (smallW v).length ≤ 4 := by
  unfold smallW
  rw [List.length_append, List.length_append]
  (repeat' split) <;> simp
theorem smallW_mem {v : Int} (h : 0 ≤ v ∧ v ≤ 999) : ∀ w ∈ smallW v, 1 ≤ w ∧ w ≤ 31 := by
  intro w hw
  unfold smallW at hw
  rcases List.mem_append.mp hw with q | q
  · split at q
    · simp only [List.mem_cons, List.not_mem_nil, or_false] at q; omega
    · cases q
  · rcases List.mem_append.mp q with q | q
    · split at q
      · simp only [List.mem_cons, List.not_mem_nil, or_false] at q; omega
      · cases q
    · (repeat' split at q) <;> first | (simp only [List.mem_cons, List.not_mem_nil, or_false] at q; omega) | (simp only [List.not_mem_nil] at q)

set_option maxHeartbeats 4000000 in
set_option maxRecDepth 100000 in
theorem t_X9_says {g : G} {σ : Sg} {w : Int} (hw : 0 ≤ w ∧ w ≤ 31) (hs : 0 ≤ σ 113 27 ∧ σ 113 27 ≤ 9) : MM g mX9_says [.ref (g.2.2.1 113), vI w] σ (pV (fun σ' => σ' = sayW σ w)) := by
  refine mm_of rfl (by decide) rfl rfl (Nat.le_of_ble_eq_true rfl) (fun x hO hR => ?_)
  refine z_aload_n hO 0 dX9_says_0 rfl ?_
  refine z_getR hO (126) fl_X9_47 rfl rfl dX9_says_1 ?_
  refine z_aload_n hO 0 dX9_says_4 rfl ?_
  refine z_getI hO 27 fl_X9_230 rfl rfl rfl dX9_says_5 (fun r5 => ?_)
  refine z_iload_n hO 1 dX9_says_8 rfl ?_
  refine z_iast hO rfl (by omega) (by decide) (by omega) dX9_says_9 ?_
  refine z_aload_n hO 0 dX9_says_10 rfl ?_
  refine z_dup hO dX9_says_11 rfl ?_
  refine z_getI hO 27 fl_X9_230 rfl rfl rfl dX9_says_12 (fun r12 => ?_)
  try simp only [fl_row_ne, fl_ne, up_row_ne, up_ne, up_eq, up_nk, up_up, up_self, ne_eq, Nat.reduceEqDiff, Int.reduceEq, reduceCtorEq, not_false_eq_true, not_true_eq_false] at r12 ⊢
  refine z_iconst hO dX9_says_15 ?_
  refine z_iadd hO dX9_says_16 ?_
  refine z_putI hO 27 fp_X9_230 rfl rfl rfl (by omega) rfl rfl dX9_says_17 ?_
  exact z_retV hO hR dX9_says_20 (rfl)

set_option maxHeartbeats 4000000 in
set_option maxRecDepth 100000 in
theorem t_X9_saysSmall {g : G} {σ : Sg} {v : Int} (hv : 0 ≤ v ∧ v ≤ 999) (hs : 0 ≤ σ 113 27 ∧ σ 113 27 ≤ 6) : MM g mX9_saysSmall [.ref (g.2.2.1 113), vI v] σ (pV (fun σ' => σ' = sayL σ (smallW v))) := by
  refine mm_of rfl (by decide) rfl rfl (Nat.le_of_ble_eq_true rfl) (fun x hO hR => ?_)
  refine z_iload_n hO 1 dX9_saysSmall_0 rfl ?_
  refine z_bipush hO dX9_saysSmall_1 (by decide) ?_
  refine z_icmp_lt hO 20 dX9_saysSmall_3 (by decide) (by omega) (by decide) (fun c3 => ?_) (fun c3 => ?_)
  ·
    refine z_iload_n hO 1 dX9_saysSmall_20 rfl ?_
    refine z_bipush hO dX9_saysSmall_21 (by decide) ?_
    refine z_irem hO dX9_saysSmall_23 (by omega) (by omega) ?_
    refine z_istore_n hO (L' := [(2, _), (0, _), (1, _)]) dX9_saysSmall_24 (by decide) rfl ?_
    refine z_iload_n hO 0 dX9_saysSmall_25 rfl ?_
    refine z_bipush hO dX9_saysSmall_26 (by decide) ?_
    refine z_icmp_le hO 42 dX9_saysSmall_28 (by decide) (by omega) (by decide) (fun c28 => ?_) (fun c28 => ?_)
    ·
      refine z_iload_n hO 0 dX9_saysSmall_42 rfl ?_
      refine z_bipush hO dX9_saysSmall_43 (by decide) ?_
      refine z_icmp_le hO 55 dX9_saysSmall_45 (by decide) (by omega) (by decide) (fun c45 => ?_) (fun c45 => ?_)
      ·
        refine z_iload_n hO 0 dX9_saysSmall_55 rfl ?_
        refine z_istore_n hO (L' := [(3, _), (2, _), (0, _), (1, _)]) dX9_saysSmall_56 (by decide) rfl ?_
        refine z_iload_n hO 0 dX9_saysSmall_57 rfl ?_
        refine z_if_le hO 66 dX9_saysSmall_58 (by decide) (by omega) (fun c58 => ?_) (fun c58 => ?_)
        ·
          exact z_retV hO hR dX9_saysSmall_66 (by first | (exfalso; omega) | (unfold smallW; first | (simp only [show (100 ≤ v) = True from propext (iff_of_true (by omega) trivial), show (19 < v % 100) = True from propext (iff_of_true (by omega) trivial), if_true, if_false, show (0 < v % 100 % 10) = True from propext (iff_of_true (by omega) trivial)]; rfl) | (simp only [show (100 ≤ v) = True from propext (iff_of_true (by omega) trivial), show (19 < v % 100) = True from propext (iff_of_true (by omega) trivial), if_true, if_false, show (0 < v % 100 % 10) = False from propext (iff_of_false (by omega) id)]; rfl) | (simp only [show (100 ≤ v) = True from propext (iff_of_true (by omega) trivial), show (19 < v % 100) = False from propext (iff_of_false (by omega) id), if_true, if_false, show (0 < v % 100) = True from propext (iff_of_true (by omega) trivial)]; rfl) | (simp only [show (100 ≤ v) = True from propext (iff_of_true (by omega) trivial), show (19 < v % 100) = False from propext (iff_of_false (by omega) id), if_true, if_false, show (0 < v % 100) = False from propext (iff_of_false (by omega) id)]; rfl) | (simp only [show (100 ≤ v) = False from propext (iff_of_false (by omega) id), show (19 < v % 100) = True from propext (iff_of_true (by omega) trivial), if_true, if_false, show (0 < v % 100 % 10) = True from propext (iff_of_true (by omega) trivial)]; rfl) | (simp only [show (100 ≤ v) = False from propext (iff_of_false (by omega) id), show (19 < v % 100) = True from propext (iff_of_true (by omega) trivial), if_true, if_false, show (0 < v % 100 % 10) = False from propext (iff_of_false (by omega) id)]; rfl) | (simp only [show (100 ≤ v) = False from propext (iff_of_false (by omega) id), show (19 < v % 100) = False from propext (iff_of_false (by omega) id), if_true, if_false, show (0 < v % 100) = True from propext (iff_of_true (by omega) trivial)]; rfl) | (simp only [show (100 ≤ v) = False from propext (iff_of_false (by omega) id), show (19 < v % 100) = False from propext (iff_of_false (by omega) id), if_true, if_false, show (0 < v % 100) = False from propext (iff_of_false (by omega) id)]; rfl)))
        ·
          refine z_aload_n hO 2 dX9_saysSmall_61 rfl ?_
          refine z_iload_n hO 0 dX9_saysSmall_62 rfl ?_
          refine z_cvV hO (t_X9_says (by omega) (by (try simp only [sayW_n]); omega)) cv_X9_233 rfl rfl rfl rfl (by decide) (Nat.le_of_ble_eq_true rfl) dX9_saysSmall_63 (fun s63 p63 => ?_)
          subst p63
          exact z_retV hO hR dX9_saysSmall_66 (by first | (exfalso; omega) | (unfold smallW; first | (simp only [show (100 ≤ v) = True from propext (iff_of_true (by omega) trivial), show (19 < v % 100) = True from propext (iff_of_true (by omega) trivial), if_true, if_false, show (0 < v % 100 % 10) = True from propext (iff_of_true (by omega) trivial)]; rfl) | (simp only [show (100 ≤ v) = True from propext (iff_of_true (by omega) trivial), show (19 < v % 100) = True from propext (iff_of_true (by omega) trivial), if_true, if_false, show (0 < v % 100 % 10) = False from propext (iff_of_false (by omega) id)]; rfl) | (simp only [show (100 ≤ v) = True from propext (iff_of_true (by omega) trivial), show (19 < v % 100) = False from propext (iff_of_false (by omega) id), if_true, if_false, show (0 < v % 100) = True from propext (iff_of_true (by omega) trivial)]; rfl) | (simp only [show (100 ≤ v) = True from propext (iff_of_true (by omega) trivial), show (19 < v % 100) = False from propext (iff_of_false (by omega) id), if_true, if_false, show (0 < v % 100) = False from propext (iff_of_false (by omega) id)]; rfl) | (simp only [show (100 ≤ v) = False from propext (iff_of_false (by omega) id), show (19 < v % 100) = True from propext (iff_of_true (by omega) trivial), if_true, if_false, show (0 < v % 100 % 10) = True from propext (iff_of_true (by omega) trivial)]; rfl) | (simp only [show (100 ≤ v) = False from propext (iff_of_false (by omega) id), show (19 < v % 100) = True from propext (iff_of_true (by omega) trivial), if_true, if_false, show (0 < v % 100 % 10) = False from propext (iff_of_false (by omega) id)]; rfl) | (simp only [show (100 ≤ v) = False from propext (iff_of_false (by omega) id), show (19 < v % 100) = False from propext (iff_of_false (by omega) id), if_true, if_false, show (0 < v % 100) = True from propext (iff_of_true (by omega) trivial)]; rfl) | (simp only [show (100 ≤ v) = False from propext (iff_of_false (by omega) id), show (19 < v % 100) = False from propext (iff_of_false (by omega) id), if_true, if_false, show (0 < v % 100) = False from propext (iff_of_false (by omega) id)]; rfl)))
      ·
        refine z_iload_n hO 0 dX9_saysSmall_48 rfl ?_
        refine z_bipush hO dX9_saysSmall_49 (by decide) ?_
        refine z_irem hO dX9_saysSmall_51 (by omega) (by omega) ?_
        refine z_goto hO 56 dX9_saysSmall_52 (by decide) ?_
        refine z_istore_n hO (L' := [(3, _), (2, _), (0, _), (1, _)]) dX9_saysSmall_56 (by decide) rfl ?_
        refine z_iload_n hO 0 dX9_saysSmall_57 rfl ?_
        refine z_if_le hO 66 dX9_saysSmall_58 (by decide) (by omega) (fun c58 => ?_) (fun c58 => ?_)
        ·
          exact z_retV hO hR dX9_saysSmall_66 (by first | (exfalso; omega) | (unfold smallW; first | (simp only [show (100 ≤ v) = True from propext (iff_of_true (by omega) trivial), show (19 < v % 100) = True from propext (iff_of_true (by omega) trivial), if_true, if_false, show (0 < v % 100 % 10) = True from propext (iff_of_true (by omega) trivial)]; rfl) | (simp only [show (100 ≤ v) = True from propext (iff_of_true (by omega) trivial), show (19 < v % 100) = True from propext (iff_of_true (by omega) trivial), if_true, if_false, show (0 < v % 100 % 10) = False from propext (iff_of_false (by omega) id)]; rfl) | (simp only [show (100 ≤ v) = True from propext (iff_of_true (by omega) trivial), show (19 < v % 100) = False from propext (iff_of_false (by omega) id), if_true, if_false, show (0 < v % 100) = True from propext (iff_of_true (by omega) trivial)]; rfl) | (simp only [show (100 ≤ v) = True from propext (iff_of_true (by omega) trivial), show (19 < v % 100) = False from propext (iff_of_false (by omega) id), if_true, if_false, show (0 < v % 100) = False from propext (iff_of_false (by omega) id)]; rfl) | (simp only [show (100 ≤ v) = False from propext (iff_of_false (by omega) id), show (19 < v % 100) = True from propext (iff_of_true (by omega) trivial), if_true, if_false, show (0 < v % 100 % 10) = True from propext (iff_of_true (by omega) trivial)]; rfl) | (simp only [show (100 ≤ v) = False from propext (iff_of_false (by omega) id), show (19 < v % 100) = True from propext (iff_of_true (by omega) trivial), if_true, if_false, show (0 < v % 100 % 10) = False from propext (iff_of_false (by omega) id)]; rfl) | (simp only [show (100 ≤ v) = False from propext (iff_of_false (by omega) id), show (19 < v % 100) = False from propext (iff_of_false (by omega) id), if_true, if_false, show (0 < v % 100) = True from propext (iff_of_true (by omega) trivial)]; rfl) | (simp only [show (100 ≤ v) = False from propext (iff_of_false (by omega) id), show (19 < v % 100) = False from propext (iff_of_false (by omega) id), if_true, if_false, show (0 < v % 100) = False from propext (iff_of_false (by omega) id)]; rfl)))
        ·
          refine z_aload_n hO 2 dX9_saysSmall_61 rfl ?_
          refine z_iload_n hO 0 dX9_saysSmall_62 rfl ?_
          refine z_cvV hO (t_X9_says (by omega) (by (try simp only [sayW_n]); omega)) cv_X9_233 rfl rfl rfl rfl (by decide) (Nat.le_of_ble_eq_true rfl) dX9_saysSmall_63 (fun s63 p63 => ?_)
          subst p63
          exact z_retV hO hR dX9_saysSmall_66 (by first | (exfalso; omega) | (unfold smallW; first | (simp only [show (100 ≤ v) = True from propext (iff_of_true (by omega) trivial), show (19 < v % 100) = True from propext (iff_of_true (by omega) trivial), if_true, if_false, show (0 < v % 100 % 10) = True from propext (iff_of_true (by omega) trivial)]; rfl) | (simp only [show (100 ≤ v) = True from propext (iff_of_true (by omega) trivial), show (19 < v % 100) = True from propext (iff_of_true (by omega) trivial), if_true, if_false, show (0 < v % 100 % 10) = False from propext (iff_of_false (by omega) id)]; rfl) | (simp only [show (100 ≤ v) = True from propext (iff_of_true (by omega) trivial), show (19 < v % 100) = False from propext (iff_of_false (by omega) id), if_true, if_false, show (0 < v % 100) = True from propext (iff_of_true (by omega) trivial)]; rfl) | (simp only [show (100 ≤ v) = True from propext (iff_of_true (by omega) trivial), show (19 < v % 100) = False from propext (iff_of_false (by omega) id), if_true, if_false, show (0 < v % 100) = False from propext (iff_of_false (by omega) id)]; rfl) | (simp only [show (100 ≤ v) = False from propext (iff_of_false (by omega) id), show (19 < v % 100) = True from propext (iff_of_true (by omega) trivial), if_true, if_false, show (0 < v % 100 % 10) = True from propext (iff_of_true (by omega) trivial)]; rfl) | (simp only [show (100 ≤ v) = False from propext (iff_of_false (by omega) id), show (19 < v % 100) = True from propext (iff_of_true (by omega) trivial), if_true, if_false, show (0 < v % 100 % 10) = False from propext (iff_of_false (by omega) id)]; rfl) | (simp only [show (100 ≤ v) = False from propext (iff_of_false (by omega) id), show (19 < v % 100) = False from propext (iff_of_false (by omega) id), if_true, if_false, show (0 < v % 100) = True from propext (iff_of_true (by omega) trivial)]; rfl) | (simp only [show (100 ≤ v) = False from propext (iff_of_false (by omega) id), show (19 < v % 100) = False from propext (iff_of_false (by omega) id), if_true, if_false, show (0 < v % 100) = False from propext (iff_of_false (by omega) id)]; rfl)))
    ·
      refine z_aload_n hO 1 dX9_saysSmall_31 rfl ?_
      refine z_bipush hO dX9_saysSmall_32 (by decide) ?_
      refine z_iload_n hO 0 dX9_saysSmall_34 rfl ?_
      refine z_bipush hO dX9_saysSmall_35 (by decide) ?_
      refine z_idiv hO dX9_saysSmall_37 (by omega) (by omega) ?_
      refine z_iadd hO dX9_saysSmall_38 ?_
      refine z_cvV hO (t_X9_says (by omega) (by (try simp only [sayW_n]); omega)) cv_X9_233 rfl rfl rfl rfl (by decide) (Nat.le_of_ble_eq_true rfl) dX9_saysSmall_39 (fun s39 p39 => ?_)
      subst p39
      refine z_iload_n hO 0 dX9_saysSmall_42 rfl ?_
      refine z_bipush hO dX9_saysSmall_43 (by decide) ?_
      refine z_icmp_le hO 55 dX9_saysSmall_45 (by decide) (by omega) (by decide) (fun c45 => ?_) (fun c45 => ?_)
      ·
        refine z_iload_n hO 0 dX9_saysSmall_55 rfl ?_
        refine z_istore_n hO (L' := [(3, _), (2, _), (0, _), (1, _)]) dX9_saysSmall_56 (by decide) rfl ?_
        refine z_iload_n hO 0 dX9_saysSmall_57 rfl ?_
        refine z_if_le hO 66 dX9_saysSmall_58 (by decide) (by omega) (fun c58 => ?_) (fun c58 => ?_)
        ·
          exact z_retV hO hR dX9_saysSmall_66 (by first | (exfalso; omega) | (unfold smallW; first | (simp only [show (100 ≤ v) = True from propext (iff_of_true (by omega) trivial), show (19 < v % 100) = True from propext (iff_of_true (by omega) trivial), if_true, if_false, show (0 < v % 100 % 10) = True from propext (iff_of_true (by omega) trivial)]; rfl) | (simp only [show (100 ≤ v) = True from propext (iff_of_true (by omega) trivial), show (19 < v % 100) = True from propext (iff_of_true (by omega) trivial), if_true, if_false, show (0 < v % 100 % 10) = False from propext (iff_of_false (by omega) id)]; rfl) | (simp only [show (100 ≤ v) = True from propext (iff_of_true (by omega) trivial), show (19 < v % 100) = False from propext (iff_of_false (by omega) id), if_true, if_false, show (0 < v % 100) = True from propext (iff_of_true (by omega) trivial)]; rfl) | (simp only [show (100 ≤ v) = True from propext (iff_of_true (by omega) trivial), show (19 < v % 100) = False from propext (iff_of_false (by omega) id), if_true, if_false, show (0 < v % 100) = False from propext (iff_of_false (by omega) id)]; rfl) | (simp only [show (100 ≤ v) = False from propext (iff_of_false (by omega) id), show (19 < v % 100) = True from propext (iff_of_true (by omega) trivial), if_true, if_false, show (0 < v % 100 % 10) = True from propext (iff_of_true (by omega) trivial)]; rfl) | (simp only [show (100 ≤ v) = False from propext (iff_of_false (by omega) id), show (19 < v % 100) = True from propext (iff_of_true (by omega) trivial), if_true, if_false, show (0 < v % 100 % 10) = False from propext (iff_of_false (by omega) id)]; rfl) | (simp only [show (100 ≤ v) = False from propext (iff_of_false (by omega) id), show (19 < v % 100) = False from propext (iff_of_false (by omega) id), if_true, if_false, show (0 < v % 100) = True from propext (iff_of_true (by omega) trivial)]; rfl) | (simp only [show (100 ≤ v) = False from propext (iff_of_false (by omega) id), show (19 < v % 100) = False from propext (iff_of_false (by omega) id), if_true, if_false, show (0 < v % 100) = False from propext (iff_of_false (by omega) id)]; rfl)))
        ·
          refine z_aload_n hO 2 dX9_saysSmall_61 rfl ?_
          refine z_iload_n hO 0 dX9_saysSmall_62 rfl ?_
          refine z_cvV hO (t_X9_says (by omega) (by (try simp only [sayW_n]); omega)) cv_X9_233 rfl rfl rfl rfl (by decide) (Nat.le_of_ble_eq_true rfl) dX9_saysSmall_63 (fun s63 p63 => ?_)
          subst p63
          exact z_retV hO hR dX9_saysSmall_66 (by first | (exfalso; omega) | (unfold smallW; first | (simp only [show (100 ≤ v) = True from propext (iff_of_true (by omega) trivial), show (19 < v % 100) = True from propext (iff_of_true (by omega) trivial), if_true, if_false, show (0 < v % 100 % 10) = True from propext (iff_of_true (by omega) trivial)]; rfl) | (simp only [show (100 ≤ v) = True from propext (iff_of_true (by omega) trivial), show (19 < v % 100) = True from propext (iff_of_true (by omega) trivial), if_true, if_false, show (0 < v % 100 % 10) = False from propext (iff_of_false (by omega) id)]; rfl) | (simp only [show (100 ≤ v) = True from propext (iff_of_true (by omega) trivial), show (19 < v % 100) = False from propext (iff_of_false (by omega) id), if_true, if_false, show (0 < v % 100) = True from propext (iff_of_true (by omega) trivial)]; rfl) | (simp only [show (100 ≤ v) = True from propext (iff_of_true (by omega) trivial), show (19 < v % 100) = False from propext (iff_of_false (by omega) id), if_true, if_false, show (0 < v % 100) = False from propext (iff_of_false (by omega) id)]; rfl) | (simp only [show (100 ≤ v) = False from propext (iff_of_false (by omega) id), show (19 < v % 100) = True from propext (iff_of_true (by omega) trivial), if_true, if_false, show (0 < v % 100 % 10) = True from propext (iff_of_true (by omega) trivial)]; rfl) | (simp only [show (100 ≤ v) = False from propext (iff_of_false (by omega) id), show (19 < v % 100) = True from propext (iff_of_true (by omega) trivial), if_true, if_false, show (0 < v % 100 % 10) = False from propext (iff_of_false (by omega) id)]; rfl) | (simp only [show (100 ≤ v) = False from propext (iff_of_false (by omega) id), show (19 < v % 100) = False from propext (iff_of_false (by omega) id), if_true, if_false, show (0 < v % 100) = True from propext (iff_of_true (by omega) trivial)]; rfl) | (simp only [show (100 ≤ v) = False from propext (iff_of_false (by omega) id), show (19 < v % 100) = False from propext (iff_of_false (by omega) id), if_true, if_false, show (0 < v % 100) = False from propext (iff_of_false (by omega) id)]; rfl)))
      ·
        refine z_iload_n hO 0 dX9_saysSmall_48 rfl ?_
        refine z_bipush hO dX9_saysSmall_49 (by decide) ?_
        refine z_irem hO dX9_saysSmall_51 (by omega) (by omega) ?_
        refine z_goto hO 56 dX9_saysSmall_52 (by decide) ?_
        refine z_istore_n hO (L' := [(3, _), (2, _), (0, _), (1, _)]) dX9_saysSmall_56 (by decide) rfl ?_
        refine z_iload_n hO 0 dX9_saysSmall_57 rfl ?_
        refine z_if_le hO 66 dX9_saysSmall_58 (by decide) (by omega) (fun c58 => ?_) (fun c58 => ?_)
        ·
          exact z_retV hO hR dX9_saysSmall_66 (by first | (exfalso; omega) | (unfold smallW; first | (simp only [show (100 ≤ v) = True from propext (iff_of_true (by omega) trivial), show (19 < v % 100) = True from propext (iff_of_true (by omega) trivial), if_true, if_false, show (0 < v % 100 % 10) = True from propext (iff_of_true (by omega) trivial)]; rfl) | (simp only [show (100 ≤ v) = True from propext (iff_of_true (by omega) trivial), show (19 < v % 100) = True from propext (iff_of_true (by omega) trivial), if_true, if_false, show (0 < v % 100 % 10) = False from propext (iff_of_false (by omega) id)]; rfl) | (simp only [show (100 ≤ v) = True from propext (iff_of_true (by omega) trivial), show (19 < v % 100) = False from propext (iff_of_false (by omega) id), if_true, if_false, show (0 < v % 100) = True from propext (iff_of_true (by omega) trivial)]; rfl) | (simp only [show (100 ≤ v) = True from propext (iff_of_true (by omega) trivial), show (19 < v % 100) = False from propext (iff_of_false (by omega) id), if_true, if_false, show (0 < v % 100) = False from propext (iff_of_false (by omega) id)]; rfl) | (simp only [show (100 ≤ v) = False from propext (iff_of_false (by omega) id), show (19 < v % 100) = True from propext (iff_of_true (by omega) trivial), if_true, if_false, show (0 < v % 100 % 10) = True from propext (iff_of_true (by omega) trivial)]; rfl) | (simp only [show (100 ≤ v) = False from propext (iff_of_false (by omega) id), show (19 < v % 100) = True from propext (iff_of_true (by omega) trivial), if_true, if_false, show (0 < v % 100 % 10) = False from propext (iff_of_false (by omega) id)]; rfl) | (simp only [show (100 ≤ v) = False from propext (iff_of_false (by omega) id), show (19 < v % 100) = False from propext (iff_of_false (by omega) id), if_true, if_false, show (0 < v % 100) = True from propext (iff_of_true (by omega) trivial)]; rfl) | (simp only [show (100 ≤ v) = False from propext (iff_of_false (by omega) id), show (19 < v % 100) = False from propext (iff_of_false (by omega) id), if_true, if_false, show (0 < v % 100) = False from propext (iff_of_false (by omega) id)]; rfl)))
        ·
          refine z_aload_n hO 2 dX9_saysSmall_61 rfl ?_
          refine z_iload_n hO 0 dX9_saysSmall_62 rfl ?_
          refine z_cvV hO (t_X9_says (by omega) (by (try simp only [sayW_n]); omega)) cv_X9_233 rfl rfl rfl rfl (by decide) (Nat.le_of_ble_eq_true rfl) dX9_saysSmall_63 (fun s63 p63 => ?_)
          subst p63
          exact z_retV hO hR dX9_saysSmall_66 (by first | (exfalso; omega) | (unfold smallW; first | (simp only [show (100 ≤ v) = True from propext (iff_of_true (by omega) trivial), show (19 < v % 100) = True from propext (iff_of_true (by omega) trivial), if_true, if_false, show (0 < v % 100 % 10) = True from propext (iff_of_true (by omega) trivial)]; rfl) | (simp only [show (100 ≤ v) = True from propext (iff_of_true (by omega) trivial), show (19 < v % 100) = True from propext (iff_of_true (by omega) trivial), if_true, if_false, show (0 < v % 100 % 10) = False from propext (iff_of_false (by omega) id)]; rfl) | (simp only [show (100 ≤ v) = True from propext (iff_of_true (by omega) trivial), show (19 < v % 100) = False from propext (iff_of_false (by omega) id), if_true, if_false, show (0 < v % 100) = True from propext (iff_of_true (by omega) trivial)]; rfl) | (simp only [show (100 ≤ v) = True from propext (iff_of_true (by omega) trivial), show (19 < v % 100) = False from propext (iff_of_false (by omega) id), if_true, if_false, show (0 < v % 100) = False from propext (iff_of_false (by omega) id)]; rfl) | (simp only [show (100 ≤ v) = False from propext (iff_of_false (by omega) id), show (19 < v % 100) = True from propext (iff_of_true (by omega) trivial), if_true, if_false, show (0 < v % 100 % 10) = True from propext (iff_of_true (by omega) trivial)]; rfl) | (simp only [show (100 ≤ v) = False from propext (iff_of_false (by omega) id), show (19 < v % 100) = True from propext (iff_of_true (by omega) trivial), if_true, if_false, show (0 < v % 100 % 10) = False from propext (iff_of_false (by omega) id)]; rfl) | (simp only [show (100 ≤ v) = False from propext (iff_of_false (by omega) id), show (19 < v % 100) = False from propext (iff_of_false (by omega) id), if_true, if_false, show (0 < v % 100) = True from propext (iff_of_true (by omega) trivial)]; rfl) | (simp only [show (100 ≤ v) = False from propext (iff_of_false (by omega) id), show (19 < v % 100) = False from propext (iff_of_false (by omega) id), if_true, if_false, show (0 < v % 100) = False from propext (iff_of_false (by omega) id)]; rfl)))
  ·
    refine z_aload_n hO 0 dX9_saysSmall_6 rfl ?_
    refine z_iload_n hO 1 dX9_saysSmall_7 rfl ?_
    refine z_bipush hO dX9_saysSmall_8 (by decide) ?_
    refine z_idiv hO dX9_saysSmall_10 (by omega) (by omega) ?_
    refine z_cvV hO (t_X9_says (by omega) (by (try simp only [sayW_n]); omega)) cv_X9_233 rfl rfl rfl rfl (by decide) (Nat.le_of_ble_eq_true rfl) dX9_saysSmall_11 (fun s11 p11 => ?_)
    subst p11
    refine z_aload_n hO 0 dX9_saysSmall_14 rfl ?_
    refine z_bipush hO dX9_saysSmall_15 (by decide) ?_
    refine z_cvV hO (t_X9_says (by omega) (by (try simp only [sayW_n]); omega)) cv_X9_233 rfl rfl rfl rfl (by decide) (Nat.le_of_ble_eq_true rfl) dX9_saysSmall_17 (fun s17 p17 => ?_)
    subst p17
    refine z_iload_n hO 1 dX9_saysSmall_20 rfl ?_
    refine z_bipush hO dX9_saysSmall_21 (by decide) ?_
    refine z_irem hO dX9_saysSmall_23 (by omega) (by omega) ?_
    refine z_istore_n hO (L' := [(2, _), (0, _), (1, _)]) dX9_saysSmall_24 (by decide) rfl ?_
    refine z_iload_n hO 0 dX9_saysSmall_25 rfl ?_
    refine z_bipush hO dX9_saysSmall_26 (by decide) ?_
    refine z_icmp_le hO 42 dX9_saysSmall_28 (by decide) (by omega) (by decide) (fun c28 => ?_) (fun c28 => ?_)
    ·
      refine z_iload_n hO 0 dX9_saysSmall_42 rfl ?_
      refine z_bipush hO dX9_saysSmall_43 (by decide) ?_
      refine z_icmp_le hO 55 dX9_saysSmall_45 (by decide) (by omega) (by decide) (fun c45 => ?_) (fun c45 => ?_)
      ·
        refine z_iload_n hO 0 dX9_saysSmall_55 rfl ?_
        refine z_istore_n hO (L' := [(3, _), (2, _), (0, _), (1, _)]) dX9_saysSmall_56 (by decide) rfl ?_
        refine z_iload_n hO 0 dX9_saysSmall_57 rfl ?_
        refine z_if_le hO 66 dX9_saysSmall_58 (by decide) (by omega) (fun c58 => ?_) (fun c58 => ?_)
        ·
          exact z_retV hO hR dX9_saysSmall_66 (by first | (exfalso; omega) | (unfold smallW; first | (simp only [show (100 ≤ v) = True from propext (iff_of_true (by omega) trivial), show (19 < v % 100) = True from propext (iff_of_true (by omega) trivial), if_true, if_false, show (0 < v % 100 % 10) = True from propext (iff_of_true (by omega) trivial)]; rfl) | (simp only [show (100 ≤ v) = True from propext (iff_of_true (by omega) trivial), show (19 < v % 100) = True from propext (iff_of_true (by omega) trivial), if_true, if_false, show (0 < v % 100 % 10) = False from propext (iff_of_false (by omega) id)]; rfl) | (simp only [show (100 ≤ v) = True from propext (iff_of_true (by omega) trivial), show (19 < v % 100) = False from propext (iff_of_false (by omega) id), if_true, if_false, show (0 < v % 100) = True from propext (iff_of_true (by omega) trivial)]; rfl) | (simp only [show (100 ≤ v) = True from propext (iff_of_true (by omega) trivial), show (19 < v % 100) = False from propext (iff_of_false (by omega) id), if_true, if_false, show (0 < v % 100) = False from propext (iff_of_false (by omega) id)]; rfl) | (simp only [show (100 ≤ v) = False from propext (iff_of_false (by omega) id), show (19 < v % 100) = True from propext (iff_of_true (by omega) trivial), if_true, if_false, show (0 < v % 100 % 10) = True from propext (iff_of_true (by omega) trivial)]; rfl) | (simp only [show (100 ≤ v) = False from propext (iff_of_false (by omega) id), show (19 < v % 100) = True from propext (iff_of_true (by omega) trivial), if_true, if_false, show (0 < v % 100 % 10) = False from propext (iff_of_false (by omega) id)]; rfl) | (simp only [show (100 ≤ v) = False from propext (iff_of_false (by omega) id), show (19 < v % 100) = False from propext (iff_of_false (by omega) id), if_true, if_false, show (0 < v % 100) = True from propext (iff_of_true (by omega) trivial)]; rfl) | (simp only [show (100 ≤ v) = False from propext (iff_of_false (by omega) id), show (19 < v % 100) = False from propext (iff_of_false (by omega) id), if_true, if_false, show (0 < v % 100) = False from propext (iff_of_false (by omega) id)]; rfl)))
        ·
          refine z_aload_n hO 2 dX9_saysSmall_61 rfl ?_
          refine z_iload_n hO 0 dX9_saysSmall_62 rfl ?_
          refine z_cvV hO (t_X9_says (by omega) (by (try simp only [sayW_n]); omega)) cv_X9_233 rfl rfl rfl rfl (by decide) (Nat.le_of_ble_eq_true rfl) dX9_saysSmall_63 (fun s63 p63 => ?_)
          subst p63
          exact z_retV hO hR dX9_saysSmall_66 (by first | (exfalso; omega) | (unfold smallW; first | (simp only [show (100 ≤ v) = True from propext (iff_of_true (by omega) trivial), show (19 < v % 100) = True from propext (iff_of_true (by omega) trivial), if_true, if_false, show (0 < v % 100 % 10) = True from propext (iff_of_true (by omega) trivial)]; rfl) | (simp only [show (100 ≤ v) = True from propext (iff_of_true (by omega) trivial), show (19 < v % 100) = True from propext (iff_of_true (by omega) trivial), if_true, if_false, show (0 < v % 100 % 10) = False from propext (iff_of_false (by omega) id)]; rfl) | (simp only [show (100 ≤ v) = True from propext (iff_of_true (by omega) trivial), show (19 < v % 100) = False from propext (iff_of_false (by omega) id), if_true, if_false, show (0 < v % 100) = True from propext (iff_of_true (by omega) trivial)]; rfl) | (simp only [show (100 ≤ v) = True from propext (iff_of_true (by omega) trivial), show (19 < v % 100) = False from propext (iff_of_false (by omega) id), if_true, if_false, show (0 < v % 100) = False from propext (iff_of_false (by omega) id)]; rfl) | (simp only [show (100 ≤ v) = False from propext (iff_of_false (by omega) id), show (19 < v % 100) = True from propext (iff_of_true (by omega) trivial), if_true, if_false, show (0 < v % 100 % 10) = True from propext (iff_of_true (by omega) trivial)]; rfl) | (simp only [show (100 ≤ v) = False from propext (iff_of_false (by omega) id), show (19 < v % 100) = True from propext (iff_of_true (by omega) trivial), if_true, if_false, show (0 < v % 100 % 10) = False from propext (iff_of_false (by omega) id)]; rfl) | (simp only [show (100 ≤ v) = False from propext (iff_of_false (by omega) id), show (19 < v % 100) = False from propext (iff_of_false (by omega) id), if_true, if_false, show (0 < v % 100) = True from propext (iff_of_true (by omega) trivial)]; rfl) | (simp only [show (100 ≤ v) = False from propext (iff_of_false (by omega) id), show (19 < v % 100) = False from propext (iff_of_false (by omega) id), if_true, if_false, show (0 < v % 100) = False from propext (iff_of_false (by omega) id)]; rfl)))
      ·
        refine z_iload_n hO 0 dX9_saysSmall_48 rfl ?_
        refine z_bipush hO dX9_saysSmall_49 (by decide) ?_
        refine z_irem hO dX9_saysSmall_51 (by omega) (by omega) ?_
        refine z_goto hO 56 dX9_saysSmall_52 (by decide) ?_
        refine z_istore_n hO (L' := [(3, _), (2, _), (0, _), (1, _)]) dX9_saysSmall_56 (by decide) rfl ?_
        refine z_iload_n hO 0 dX9_saysSmall_57 rfl ?_
        refine z_if_le hO 66 dX9_saysSmall_58 (by decide) (by omega) (fun c58 => ?_) (fun c58 => ?_)
        ·
          exact z_retV hO hR dX9_saysSmall_66 (by first | (exfalso; omega) | (unfold smallW; first | (simp only [show (100 ≤ v) = True from propext (iff_of_true (by omega) trivial), show (19 < v % 100) = True from propext (iff_of_true (by omega) trivial), if_true, if_false, show (0 < v % 100 % 10) = True from propext (iff_of_true (by omega) trivial)]; rfl) | (simp only [show (100 ≤ v) = True from propext (iff_of_true (by omega) trivial), show (19 < v % 100) = True from propext (iff_of_true (by omega) trivial), if_true, if_false, show (0 < v % 100 % 10) = False from propext (iff_of_false (by omega) id)]; rfl) | (simp only [show (100 ≤ v) = True from propext (iff_of_true (by omega) trivial), show (19 < v % 100) = False from propext (iff_of_false (by omega) id), if_true, if_false, show (0 < v % 100) = True from propext (iff_of_true (by omega) trivial)]; rfl) | (simp only [show (100 ≤ v) = True from propext (iff_of_true (by omega) trivial), show (19 < v % 100) = False from propext (iff_of_false (by omega) id), if_true, if_false, show (0 < v % 100) = False from propext (iff_of_false (by omega) id)]; rfl) | (simp only [show (100 ≤ v) = False from propext (iff_of_false (by omega) id), show (19 < v % 100) = True from propext (iff_of_true (by omega) trivial), if_true, if_false, show (0 < v % 100 % 10) = True from propext (iff_of_true (by omega) trivial)]; rfl) | (simp only [show (100 ≤ v) = False from propext (iff_of_false (by omega) id), show (19 < v % 100) = True from propext (iff_of_true (by omega) trivial), if_true, if_false, show (0 < v % 100 % 10) = False from propext (iff_of_false (by omega) id)]; rfl) | (simp only [show (100 ≤ v) = False from propext (iff_of_false (by omega) id), show (19 < v % 100) = False from propext (iff_of_false (by omega) id), if_true, if_false, show (0 < v % 100) = True from propext (iff_of_true (by omega) trivial)]; rfl) | (simp only [show (100 ≤ v) = False from propext (iff_of_false (by omega) id), show (19 < v % 100) = False from propext (iff_of_false (by omega) id), if_true, if_false, show (0 < v % 100) = False from propext (iff_of_false (by omega) id)]; rfl)))
        ·
          refine z_aload_n hO 2 dX9_saysSmall_61 rfl ?_
          refine z_iload_n hO 0 dX9_saysSmall_62 rfl ?_
          refine z_cvV hO (t_X9_says (by omega) (by (try simp only [sayW_n]); omega)) cv_X9_233 rfl rfl rfl rfl (by decide) (Nat.le_of_ble_eq_true rfl) dX9_saysSmall_63 (fun s63 p63 => ?_)
          subst p63
          exact z_retV hO hR dX9_saysSmall_66 (by first | (exfalso; omega) | (unfold smallW; first | (simp only [show (100 ≤ v) = True from propext (iff_of_true (by omega) trivial), show (19 < v % 100) = True from propext (iff_of_true (by omega) trivial), if_true, if_false, show (0 < v % 100 % 10) = True from propext (iff_of_true (by omega) trivial)]; rfl) | (simp only [show (100 ≤ v) = True from propext (iff_of_true (by omega) trivial), show (19 < v % 100) = True from propext (iff_of_true (by omega) trivial), if_true, if_false, show (0 < v % 100 % 10) = False from propext (iff_of_false (by omega) id)]; rfl) | (simp only [show (100 ≤ v) = True from propext (iff_of_true (by omega) trivial), show (19 < v % 100) = False from propext (iff_of_false (by omega) id), if_true, if_false, show (0 < v % 100) = True from propext (iff_of_true (by omega) trivial)]; rfl) | (simp only [show (100 ≤ v) = True from propext (iff_of_true (by omega) trivial), show (19 < v % 100) = False from propext (iff_of_false (by omega) id), if_true, if_false, show (0 < v % 100) = False from propext (iff_of_false (by omega) id)]; rfl) | (simp only [show (100 ≤ v) = False from propext (iff_of_false (by omega) id), show (19 < v % 100) = True from propext (iff_of_true (by omega) trivial), if_true, if_false, show (0 < v % 100 % 10) = True from propext (iff_of_true (by omega) trivial)]; rfl) | (simp only [show (100 ≤ v) = False from propext (iff_of_false (by omega) id), show (19 < v % 100) = True from propext (iff_of_true (by omega) trivial), if_true, if_false, show (0 < v % 100 % 10) = False from propext (iff_of_false (by omega) id)]; rfl) | (simp only [show (100 ≤ v) = False from propext (iff_of_false (by omega) id), show (19 < v % 100) = False from propext (iff_of_false (by omega) id), if_true, if_false, show (0 < v % 100) = True from propext (iff_of_true (by omega) trivial)]; rfl) | (simp only [show (100 ≤ v) = False from propext (iff_of_false (by omega) id), show (19 < v % 100) = False from propext (iff_of_false (by omega) id), if_true, if_false, show (0 < v % 100) = False from propext (iff_of_false (by omega) id)]; rfl)))
    ·
      refine z_aload_n hO 1 dX9_saysSmall_31 rfl ?_
      refine z_bipush hO dX9_saysSmall_32 (by decide) ?_
      refine z_iload_n hO 0 dX9_saysSmall_34 rfl ?_
      refine z_bipush hO dX9_saysSmall_35 (by decide) ?_
      refine z_idiv hO dX9_saysSmall_37 (by omega) (by omega) ?_
      refine z_iadd hO dX9_saysSmall_38 ?_
      refine z_cvV hO (t_X9_says (by omega) (by (try simp only [sayW_n]); omega)) cv_X9_233 rfl rfl rfl rfl (by decide) (Nat.le_of_ble_eq_true rfl) dX9_saysSmall_39 (fun s39 p39 => ?_)
      subst p39
      refine z_iload_n hO 0 dX9_saysSmall_42 rfl ?_
      refine z_bipush hO dX9_saysSmall_43 (by decide) ?_
      refine z_icmp_le hO 55 dX9_saysSmall_45 (by decide) (by omega) (by decide) (fun c45 => ?_) (fun c45 => ?_)
      ·
        refine z_iload_n hO 0 dX9_saysSmall_55 rfl ?_
        refine z_istore_n hO (L' := [(3, _), (2, _), (0, _), (1, _)]) dX9_saysSmall_56 (by decide) rfl ?_
        refine z_iload_n hO 0 dX9_saysSmall_57 rfl ?_
        refine z_if_le hO 66 dX9_saysSmall_58 (by decide) (by omega) (fun c58 => ?_) (fun c58 => ?_)
        ·
          exact z_retV hO hR dX9_saysSmall_66 (by first | (exfalso; omega) | (unfold smallW; first | (simp only [show (100 ≤ v) = True from propext (iff_of_true (by omega) trivial), show (19 < v % 100) = True from propext (iff_of_true (by omega) trivial), if_true, if_false, show (0 < v % 100 % 10) = True from propext (iff_of_true (by omega) trivial)]; rfl) | (simp only [show (100 ≤ v) = True from propext (iff_of_true (by omega) trivial), show (19 < v % 100) = True from propext (iff_of_true (by omega) trivial), if_true, if_false, show (0 < v % 100 % 10) = False from propext (iff_of_false (by omega) id)]; rfl) | (simp only [show (100 ≤ v) = True from propext (iff_of_true (by omega) trivial), show (19 < v % 100) = False from propext (iff_of_false (by omega) id), if_true, if_false, show (0 < v % 100) = True from propext (iff_of_true (by omega) trivial)]; rfl) | (simp only [show (100 ≤ v) = True from propext (iff_of_true (by omega) trivial), show (19 < v % 100) = False from propext (iff_of_false (by omega) id), if_true, if_false, show (0 < v % 100) = False from propext (iff_of_false (by omega) id)]; rfl) | (simp only [show (100 ≤ v) = False from propext (iff_of_false (by omega) id), show (19 < v % 100) = True from propext (iff_of_true (by omega) trivial), if_true, if_false, show (0 < v % 100 % 10) = True from propext (iff_of_true (by omega) trivial)]; rfl) | (simp only [show (100 ≤ v) = False from propext (iff_of_false (by omega) id), show (19 < v % 100) = True from propext (iff_of_true (by omega) trivial), if_true, if_false, show (0 < v % 100 % 10) = False from propext (iff_of_false (by omega) id)]; rfl) | (simp only [show (100 ≤ v) = False from propext (iff_of_false (by omega) id), show (19 < v % 100) = False from propext (iff_of_false (by omega) id), if_true, if_false, show (0 < v % 100) = True from propext (iff_of_true (by omega) trivial)]; rfl) | (simp only [show (100 ≤ v) = False from propext (iff_of_false (by omega) id), show (19 < v % 100) = False from propext (iff_of_false (by omega) id), if_true, if_false, show (0 < v % 100) = False from propext (iff_of_false (by omega) id)]; rfl)))
        ·
          refine z_aload_n hO 2 dX9_saysSmall_61 rfl ?_
          refine z_iload_n hO 0 dX9_saysSmall_62 rfl ?_
          refine z_cvV hO (t_X9_says (by omega) (by (try simp only [sayW_n]); omega)) cv_X9_233 rfl rfl rfl rfl (by decide) (Nat.le_of_ble_eq_true rfl) dX9_saysSmall_63 (fun s63 p63 => ?_)
          subst p63
          exact z_retV hO hR dX9_saysSmall_66 (by first | (exfalso; omega) | (unfold smallW; first | (simp only [show (100 ≤ v) = True from propext (iff_of_true (by omega) trivial), show (19 < v % 100) = True from propext (iff_of_true (by omega) trivial), if_true, if_false, show (0 < v % 100 % 10) = True from propext (iff_of_true (by omega) trivial)]; rfl) | (simp only [show (100 ≤ v) = True from propext (iff_of_true (by omega) trivial), show (19 < v % 100) = True from propext (iff_of_true (by omega) trivial), if_true, if_false, show (0 < v % 100 % 10) = False from propext (iff_of_false (by omega) id)]; rfl) | (simp only [show (100 ≤ v) = True from propext (iff_of_true (by omega) trivial), show (19 < v % 100) = False from propext (iff_of_false (by omega) id), if_true, if_false, show (0 < v % 100) = True from propext (iff_of_true (by omega) trivial)]; rfl) | (simp only [show (100 ≤ v) = True from propext (iff_of_true (by omega) trivial), show (19 < v % 100) = False from propext (iff_of_false (by omega) id), if_true, if_false, show (0 < v % 100) = False from propext (iff_of_false (by omega) id)]; rfl) | (simp only [show (100 ≤ v) = False from propext (iff_of_false (by omega) id), show (19 < v % 100) = True from propext (iff_of_true (by omega) trivial), if_true, if_false, show (0 < v % 100 % 10) = True from propext (iff_of_true (by omega) trivial)]; rfl) | (simp only [show (100 ≤ v) = False from propext (iff_of_false (by omega) id), show (19 < v % 100) = True from propext (iff_of_true (by omega) trivial), if_true, if_false, show (0 < v % 100 % 10) = False from propext (iff_of_false (by omega) id)]; rfl) | (simp only [show (100 ≤ v) = False from propext (iff_of_false (by omega) id), show (19 < v % 100) = False from propext (iff_of_false (by omega) id), if_true, if_false, show (0 < v % 100) = True from propext (iff_of_true (by omega) trivial)]; rfl) | (simp only [show (100 ≤ v) = False from propext (iff_of_false (by omega) id), show (19 < v % 100) = False from propext (iff_of_false (by omega) id), if_true, if_false, show (0 < v % 100) = False from propext (iff_of_false (by omega) id)]; rfl)))
      ·
        refine z_iload_n hO 0 dX9_saysSmall_48 rfl ?_
        refine z_bipush hO dX9_saysSmall_49 (by decide) ?_
        refine z_irem hO dX9_saysSmall_51 (by omega) (by omega) ?_
        refine z_goto hO 56 dX9_saysSmall_52 (by decide) ?_
        refine z_istore_n hO (L' := [(3, _), (2, _), (0, _), (1, _)]) dX9_saysSmall_56 (by decide) rfl ?_
        refine z_iload_n hO 0 dX9_saysSmall_57 rfl ?_
        refine z_if_le hO 66 dX9_saysSmall_58 (by decide) (by omega) (fun c58 => ?_) (fun c58 => ?_)
        ·
          exact z_retV hO hR dX9_saysSmall_66 (by first | (exfalso; omega) | (unfold smallW; first | (simp only [show (100 ≤ v) = True from propext (iff_of_true (by omega) trivial), show (19 < v % 100) = True from propext (iff_of_true (by omega) trivial), if_true, if_false, show (0 < v % 100 % 10) = True from propext (iff_of_true (by omega) trivial)]; rfl) | (simp only [show (100 ≤ v) = True from propext (iff_of_true (by omega) trivial), show (19 < v % 100) = True from propext (iff_of_true (by omega) trivial), if_true, if_false, show (0 < v % 100 % 10) = False from propext (iff_of_false (by omega) id)]; rfl) | (simp only [show (100 ≤ v) = True from propext (iff_of_true (by omega) trivial), show (19 < v % 100) = False from propext (iff_of_false (by omega) id), if_true, if_false, show (0 < v % 100) = True from propext (iff_of_true (by omega) trivial)]; rfl) | (simp only [show (100 ≤ v) = True from propext (iff_of_true (by omega) trivial), show (19 < v % 100) = False from propext (iff_of_false (by omega) id), if_true, if_false, show (0 < v % 100) = False from propext (iff_of_false (by omega) id)]; rfl) | (simp only [show (100 ≤ v) = False from propext (iff_of_false (by omega) id), show (19 < v % 100) = True from propext (iff_of_true (by omega) trivial), if_true, if_false, show (0 < v % 100 % 10) = True from propext (iff_of_true (by omega) trivial)]; rfl) | (simp only [show (100 ≤ v) = False from propext (iff_of_false (by omega) id), show (19 < v % 100) = True from propext (iff_of_true (by omega) trivial), if_true, if_false, show (0 < v % 100 % 10) = False from propext (iff_of_false (by omega) id)]; rfl) | (simp only [show (100 ≤ v) = False from propext (iff_of_false (by omega) id), show (19 < v % 100) = False from propext (iff_of_false (by omega) id), if_true, if_false, show (0 < v % 100) = True from propext (iff_of_true (by omega) trivial)]; rfl) | (simp only [show (100 ≤ v) = False from propext (iff_of_false (by omega) id), show (19 < v % 100) = False from propext (iff_of_false (by omega) id), if_true, if_false, show (0 < v % 100) = False from propext (iff_of_false (by omega) id)]; rfl)))
        ·
          refine z_aload_n hO 2 dX9_saysSmall_61 rfl ?_
          refine z_iload_n hO 0 dX9_saysSmall_62 rfl ?_
          refine z_cvV hO (t_X9_says (by omega) (by (try simp only [sayW_n]); omega)) cv_X9_233 rfl rfl rfl rfl (by decide) (Nat.le_of_ble_eq_true rfl) dX9_saysSmall_63 (fun s63 p63 => ?_)
          subst p63
          exact z_retV hO hR dX9_saysSmall_66 (by first | (exfalso; omega) | (unfold smallW; first | (simp only [show (100 ≤ v) = True from propext (iff_of_true (by omega) trivial), show (19 < v % 100) = True from propext (iff_of_true (by omega) trivial), if_true, if_false, show (0 < v % 100 % 10) = True from propext (iff_of_true (by omega) trivial)]; rfl) | (simp only [show (100 ≤ v) = True from propext (iff_of_true (by omega) trivial), show (19 < v % 100) = True from propext (iff_of_true (by omega) trivial), if_true, if_false, show (0 < v % 100 % 10) = False from propext (iff_of_false (by omega) id)]; rfl) | (simp only [show (100 ≤ v) = True from propext (iff_of_true (by omega) trivial), show (19 < v % 100) = False from propext (iff_of_false (by omega) id), if_true, if_false, show (0 < v % 100) = True from propext (iff_of_true (by omega) trivial)]; rfl) | (simp only [show (100 ≤ v) = True from propext (iff_of_true (by omega) trivial), show (19 < v % 100) = False from propext (iff_of_false (by omega) id), if_true, if_false, show (0 < v % 100) = False from propext (iff_of_false (by omega) id)]; rfl) | (simp only [show (100 ≤ v) = False from propext (iff_of_false (by omega) id), show (19 < v % 100) = True from propext (iff_of_true (by omega) trivial), if_true, if_false, show (0 < v % 100 % 10) = True from propext (iff_of_true (by omega) trivial)]; rfl) | (simp only [show (100 ≤ v) = False from propext (iff_of_false (by omega) id), show (19 < v % 100) = True from propext (iff_of_true (by omega) trivial), if_true, if_false, show (0 < v % 100 % 10) = False from propext (iff_of_false (by omega) id)]; rfl) | (simp only [show (100 ≤ v) = False from propext (iff_of_false (by omega) id), show (19 < v % 100) = False from propext (iff_of_false (by omega) id), if_true, if_false, show (0 < v % 100) = True from propext (iff_of_true (by omega) trivial)]; rfl) | (simp only [show (100 ≤ v) = False from propext (iff_of_false (by omega) id), show (19 < v % 100) = False from propext (iff_of_false (by omega) id), if_true, if_false, show (0 < v % 100) = False from propext (iff_of_false (by omega) id)]; rfl)))


theorem numW_len (v : Int) : (numW v).length ≤ 9 := by
  unfold numW
  have a := smallW_len (v / 1000)
  have b := smallW_len (v % 1000)
  rw [List.length_append]
  split
  · rw [List.length_append]; simp only [List.length_singleton]; omega
  · simp only [List.length_nil]; omega
theorem numW_mem {v : Int} (h : 1 ≤ v ∧ v ≤ 999999) : ∀ w ∈ numW v, 1 ≤ w ∧ w ≤ 31 := by
  intro w hw
  unfold numW at hw
  rcases List.mem_append.mp hw with q | q
  · split at q
    · rcases List.mem_append.mp q with q | q
      · exact smallW_mem ⟨by omega, by omega⟩ w q
      · rw [List.mem_singleton.mp q]; omega
    · cases q
  · exact smallW_mem ⟨by omega, by omega⟩ w q
/-- the said words heard, each a slot -/
def hearsS (σ : Sg) (w q : Int) : Sg := up (up (up (up σ 114 0 (σ 114 0 + 1)) 114 (4 + 9 * σ 114 0) 1) 114 (4 + 9 * σ 114 0 + 1) w) 114 (4 + 9 * σ 114 0 + 5) q
def hearL (σ : Sg) : List Int → Sg
  | [] => σ
  | w :: l => hearL (hearsS σ w 0) l
theorem hearL_snoc (σ : Sg) (l : List Int) (w : Int) : hearL σ (l ++ [w]) = hearsS (hearL σ l) w 0 := by
  induction l generalizing σ with
  | nil => rfl
  | cons a l ih => exact ih _
theorem hearsS_ne {σ : Sg} {w q : Int} {c : Nat} (h : c ≠ 114) : hearsS σ w q c = σ c := by
  unfold hearsS; rw [up_row_ne h, up_row_ne h, up_row_ne h, up_row_ne h]
theorem hearL_ne {σ : Sg} {l : List Int} {c : Nat} (h : c ≠ 114) : hearL σ l c = σ c := by
  induction l generalizing σ with
  | nil => rfl
  | cons a l ih => unfold hearL; rw [ih, hearsS_ne h]
theorem hearsS_0 {σ : Sg} {w q : Int} (h : 0 ≤ σ 114 0) : hearsS σ w q 114 0 = σ 114 0 + 1 := by
  unfold hearsS; rw [up_nk (by omega), up_nk (by omega), up_nk (by omega), up_eq]
theorem hearL_0 {σ : Sg} {l : List Int} (h : 0 ≤ σ 114 0) : hearL σ l 114 0 = σ 114 0 + l.length := by
  induction l generalizing σ with
  | nil => simp [hearL]
  | cons a l ih => unfold hearL; rw [ih (by rw [hearsS_0 h]; omega), hearsS_0 h]; simp only [List.length_cons]; omega

set_option maxHeartbeats 4000000 in
set_option maxRecDepth 100000 in
theorem lp_say {g : G} {x : Cx} {τ : Sg} {l : List Int} (hO : Ok g x RX9 cX9_say 3 3) (hn : τ 113 27 = l.length) (hl8 : l.length ≤ 8) (hr : rowIs (τ 126) l) (h0 : τ 114 0 = 0) (hm0 : ∀ w ∈ l, 1 ≤ w ∧ w ≤ 31) (hE : Z g x 3 93 [(0, .ref (g.2.2.1 113))] [] (hearL τ l)) : ∀ (k i : Nat), i ≤ l.length → (l.length : Int) - i < k → Z g x 3 68 [(0, .ref (g.2.2.1 113)), (2, vI i)] [] (hearL τ (l.take i)) := by
  intro k
  induction k with
  | zero => intro i h1 h2; exact absurd h2 (by omega)
  | succ k ih =>
    intro i h1 h2
    have hl0 : hearL τ (l.take i) 114 0 = i := by rw [hearL_0 (by omega), h0, List.length_take]; omega
    refine z_iload_n hO 1 dX9_say_68 rfl ?_
    refine z_aload_n hO 0 dX9_say_69 rfl ?_
    refine z_getI hO 27 fl_X9_230 rfl rfl rfl dX9_say_70 (fun r70 => ?_)
    rw [hearL_ne (by decide)] at r70 ⊢
    rw [hn] at r70 ⊢
    refine z_icmp_ge hO 93 dX9_say_73 (by decide) (by omega) (by omega) (fun c73 => ?_) (fun c73 => ?_)
    ·
      have hil : i = l.length := by omega
      subst hil
      rw [List.take_length]
      exact z_pick [0] rfl hE
    ·
      have hil : i < l.length := by omega
      have hat : τ 126 i = l[i] := hr i hil
      have hm := hm0 l[i] (List.getElem_mem hil)
      refine z_aload_n hO 0 dX9_say_76 rfl ?_
      refine z_aload_n hO 0 dX9_say_77 rfl ?_
      refine z_getR hO (126) fl_X9_47 rfl rfl dX9_say_78 ?_
      refine z_iload_n hO 1 dX9_say_81 rfl ?_
      refine z_iald hO rfl (by omega) (by decide) dX9_say_82 (fun r82 => ?_)
      rw [hearL_ne (by decide)] at r82 ⊢
      rw [hat] at r82 ⊢
      refine z_iconst hO dX9_say_83 ?_
      refine z_cvV hO (t_X9_hears (by omega) (by omega) (by rw [hl0]; omega)) cv_X9_242 rfl rfl rfl rfl (by decide) (Nat.le_of_ble_eq_true rfl) dX9_say_84 (fun s84 p84 => ?_)
      have e84 : s84 = hearsS (hearL τ (l.take i)) (l[i]) 0 := p84
      rw [e84, ← hearL_snoc, show l.take i ++ [l[i]] = l.take (i + 1) from List.take_append_getElem hil]
      refine z_iinc hO (L' := [(2, _), (0, _)]) 1 dX9_say_87 rfl (by decide) rfl ?_
      refine z_goto hO 68 dX9_say_90 (by decide) ?_
      exact z_pick [1, 0] rfl (ih (i + 1) (by omega) (by omega))

def sayS (σ : Sg) (v : Int) : Sg := up (hearL (fl (up (sayL (up σ 113 27 0) (numW v)) 114 0 0) 114 4 76 (fun _ => 0)) (numW v)) 113 29 0

set_option maxHeartbeats 4000000 in
set_option maxRecDepth 100000 in
theorem t_X9_say {g : G} {σ : Sg} {v : Int} (rv : -2147483648 ≤ v ∧ v ≤ 2147483647) : MM g mX9_say [.ref (g.2.2.1 113), vI v] σ (pI (fun r σ' => (¬ (1 ≤ v ∧ v ≤ 999999) ∧ r = -1 ∧ σ' = σ) ∨ ((1 ≤ v ∧ v ≤ 999999) ∧ 8 < (numW v).length ∧ r = -3 ∧ σ' = sayL (up σ 113 27 0) (numW v)) ∨ ((1 ≤ v ∧ v ≤ 999999) ∧ (numW v).length ≤ 8 ∧ r = (numW v).length ∧ σ' = sayS σ v))) := by
  refine mm_of rfl (by decide) rfl rfl (Nat.le_of_ble_eq_true rfl) (fun x hO hR => ?_)
  refine z_iload_n hO 1 dX9_say_0 rfl ?_
  refine z_i2l hO dX9_say_1 (by omega) ?_
  refine z_lconst hO 1 dX9_say_2 (by decide) ?_
  refine z_ldc2 hO k_X9_237 dX9_say_3 ?_
  refine z_csQ hO (t_X9_in (by omega) (by omega) (by omega)) cs_X9_75 rfl rfl (by decide) (Nat.le_of_ble_eq_true rfl) dX9_say_6 (fun c6 => ?_) (fun c6 => ?_)
  ·
    refine z_if_ne hO 14 dX9_say_9 (by decide) (by decide) (fun c9 => ?_) (fun c9 => absurd c9 (by omega))
    refine z_aload_n hO 0 dX9_say_14 rfl ?_
    refine z_iconst hO dX9_say_15 ?_
    refine z_putI hO 27 fp_X9_230 rfl rfl rfl (by omega) rfl rfl dX9_say_16 ?_
    refine z_iload_n hO 1 dX9_say_19 rfl ?_
    refine z_sipush hO dX9_say_20 (by decide) ?_
    refine z_icmp_lt hO 41 dX9_say_23 (by decide) (by omega) (by decide) (fun c23 => ?_) (fun c23 => ?_)
    ·
      refine z_aload_n hO 0 dX9_say_41 rfl ?_
      refine z_iload_n hO 1 dX9_say_42 rfl ?_
      refine z_sipush hO dX9_say_43 (by decide) ?_
      refine z_irem hO dX9_say_46 (by omega) (by omega) ?_
      refine z_cvV hO (t_X9_saysSmall (by omega) (by first | (rw [sayW_n, sayL_n, up_eq]; have := smallW_len (v / 1000); omega) | (rw [up_eq]; omega))) cv_X9_239 rfl rfl rfl rfl (by decide) (Nat.le_of_ble_eq_true rfl) dX9_say_47 (fun s47 p47 => ?_)
      have es : s47 = sayL (up σ 113 27 0) (numW v) := by
        rw [p47]; unfold numW; first | (rw [if_pos (show 1000 ≤ v by omega), sayL_app, sayL_app]; rfl) | (rw [if_neg (show ¬ 1000 ≤ v by omega)]; rfl)
      have hlw := numW_len v
      have en : s47 113 27 = (numW v).length := by rw [es, sayL_n, up_eq]; omega
      rw [es] at en ⊢
      refine z_aload_n hO 0 dX9_say_50 rfl ?_
      refine z_getI hO 27 fl_X9_230 rfl rfl rfl dX9_say_51 (fun r51 => ?_)
      try simp only [fl_row_ne, fl_ne, up_row_ne, up_ne, up_eq, up_nk, up_up, up_self, ne_eq, Nat.reduceEqDiff, Int.reduceEq, reduceCtorEq, not_false_eq_true, not_true_eq_false, en] at r51 ⊢
      refine z_bipush hO dX9_say_54 (by decide) ?_
      refine z_icmp_le hO 62 dX9_say_56 (by decide) (by omega) (by decide) (fun c56 => ?_) (fun c56 => ?_)
      ·
        refine z_aload_n hO 0 dX9_say_62 rfl ?_
        refine z_cvV hO (t_X9_clears) cv_X9_227 rfl rfl rfl rfl (by decide) (Nat.le_of_ble_eq_true rfl) dX9_say_63 (fun s63 p63 => ?_)
        subst p63
        refine z_iconst hO dX9_say_66 ?_
        refine z_istore_n hO (L' := [(2, _), (0, _), (1, _)]) dX9_say_67 (by decide) rfl ?_
        have e27 : (fl (up (sayL (up σ 113 27 0) (numW v)) 114 0 0) 114 4 76 (fun _ => 0)) 113 27 = (numW v).length := by rw [fl_ne (by decide), up_ne (by decide)]; exact en
        have e126 : rowIs ((fl (up (sayL (up σ 113 27 0) (numW v)) 114 0 0) 114 4 76 (fun _ => 0)) 126) (numW v) := by
          intro j hj
          rw [fl_ne (by decide), up_ne (by decide)]
          have := (sayL_at (up σ 113 27 0) (numW v) j hj).1
          rw [up_eq, show (0 : Int) + (j : Int) = j by omega] at this; exact this
        refine z_pick [1, 0] rfl (lp_say (τ := (fl (up (sayL (up σ 113 27 0) (numW v)) 114 0 0) 114 4 76 (fun _ => 0))) (l := numW v) hO e27 (by omega) e126 (by rw [fl_out (by omega), up_eq]) (numW_mem (by omega)) ?_ 9 0 (by omega) (by omega))
        refine z_aload_n hO 0 dX9_say_93 rfl ?_
        refine z_iconst hO dX9_say_94 ?_
        refine z_putI hO 29 fp_X9_192 rfl rfl rfl (by omega) rfl rfl dX9_say_95 ?_
        refine z_aload_n hO 0 dX9_say_98 rfl ?_
        refine z_getI hO 27 fl_X9_230 rfl rfl rfl dX9_say_99 (fun r99 => ?_)
        rw [up_nk (by decide), hearL_ne (by decide), fl_ne (by decide), up_ne (by decide), en] at r99 ⊢
        exact z_retI hO hR dX9_say_102 (Or.inr (Or.inr ⟨by omega, by omega, rfl, rfl⟩))
      ·
        refine z_bipush hO dX9_say_59 (by decide) ?_
        exact z_retI hO hR dX9_say_61 (Or.inr (Or.inl ⟨by omega, by omega, rfl, rfl⟩))
    ·
      refine z_aload_n hO 0 dX9_say_26 rfl ?_
      refine z_iload_n hO 1 dX9_say_27 rfl ?_
      refine z_sipush hO dX9_say_28 (by decide) ?_
      refine z_idiv hO dX9_say_31 (by omega) (by omega) ?_
      refine z_cvV hO (t_X9_saysSmall (by omega) (by simp only [fl_row_ne, fl_ne, up_row_ne, up_ne, up_eq, up_nk, up_up, up_self, ne_eq, Nat.reduceEqDiff, Int.reduceEq, reduceCtorEq, not_false_eq_true, not_true_eq_false]; omega)) cv_X9_239 rfl rfl rfl rfl (by decide) (Nat.le_of_ble_eq_true rfl) dX9_say_32 (fun s32 p32 => ?_)
      subst p32
      refine z_aload_n hO 0 dX9_say_35 rfl ?_
      refine z_bipush hO dX9_say_36 (by decide) ?_
      refine z_cvV hO (t_X9_says (by omega) (by rw [sayL_n, up_eq]; have := smallW_len (v / 1000); omega)) cv_X9_233 rfl rfl rfl rfl (by decide) (Nat.le_of_ble_eq_true rfl) dX9_say_38 (fun s38 p38 => ?_)
      subst p38
      refine z_aload_n hO 0 dX9_say_41 rfl ?_
      refine z_iload_n hO 1 dX9_say_42 rfl ?_
      refine z_sipush hO dX9_say_43 (by decide) ?_
      refine z_irem hO dX9_say_46 (by omega) (by omega) ?_
      refine z_cvV hO (t_X9_saysSmall (by omega) (by first | (rw [sayW_n, sayL_n, up_eq]; have := smallW_len (v / 1000); omega) | (rw [up_eq]; omega))) cv_X9_239 rfl rfl rfl rfl (by decide) (Nat.le_of_ble_eq_true rfl) dX9_say_47 (fun s47 p47 => ?_)
      have es : s47 = sayL (up σ 113 27 0) (numW v) := by
        rw [p47]; unfold numW; first | (rw [if_pos (show 1000 ≤ v by omega), sayL_app, sayL_app]; rfl) | (rw [if_neg (show ¬ 1000 ≤ v by omega)]; rfl)
      have hlw := numW_len v
      have en : s47 113 27 = (numW v).length := by rw [es, sayL_n, up_eq]; omega
      rw [es] at en ⊢
      refine z_aload_n hO 0 dX9_say_50 rfl ?_
      refine z_getI hO 27 fl_X9_230 rfl rfl rfl dX9_say_51 (fun r51 => ?_)
      try simp only [fl_row_ne, fl_ne, up_row_ne, up_ne, up_eq, up_nk, up_up, up_self, ne_eq, Nat.reduceEqDiff, Int.reduceEq, reduceCtorEq, not_false_eq_true, not_true_eq_false, en] at r51 ⊢
      refine z_bipush hO dX9_say_54 (by decide) ?_
      refine z_icmp_le hO 62 dX9_say_56 (by decide) (by omega) (by decide) (fun c56 => ?_) (fun c56 => ?_)
      ·
        refine z_aload_n hO 0 dX9_say_62 rfl ?_
        refine z_cvV hO (t_X9_clears) cv_X9_227 rfl rfl rfl rfl (by decide) (Nat.le_of_ble_eq_true rfl) dX9_say_63 (fun s63 p63 => ?_)
        subst p63
        refine z_iconst hO dX9_say_66 ?_
        refine z_istore_n hO (L' := [(2, _), (0, _), (1, _)]) dX9_say_67 (by decide) rfl ?_
        have e27 : (fl (up (sayL (up σ 113 27 0) (numW v)) 114 0 0) 114 4 76 (fun _ => 0)) 113 27 = (numW v).length := by rw [fl_ne (by decide), up_ne (by decide)]; exact en
        have e126 : rowIs ((fl (up (sayL (up σ 113 27 0) (numW v)) 114 0 0) 114 4 76 (fun _ => 0)) 126) (numW v) := by
          intro j hj
          rw [fl_ne (by decide), up_ne (by decide)]
          have := (sayL_at (up σ 113 27 0) (numW v) j hj).1
          rw [up_eq, show (0 : Int) + (j : Int) = j by omega] at this; exact this
        refine z_pick [1, 0] rfl (lp_say (τ := (fl (up (sayL (up σ 113 27 0) (numW v)) 114 0 0) 114 4 76 (fun _ => 0))) (l := numW v) hO e27 (by omega) e126 (by rw [fl_out (by omega), up_eq]) (numW_mem (by omega)) ?_ 9 0 (by omega) (by omega))
        refine z_aload_n hO 0 dX9_say_93 rfl ?_
        refine z_iconst hO dX9_say_94 ?_
        refine z_putI hO 29 fp_X9_192 rfl rfl rfl (by omega) rfl rfl dX9_say_95 ?_
        refine z_aload_n hO 0 dX9_say_98 rfl ?_
        refine z_getI hO 27 fl_X9_230 rfl rfl rfl dX9_say_99 (fun r99 => ?_)
        rw [up_nk (by decide), hearL_ne (by decide), fl_ne (by decide), up_ne (by decide), en] at r99 ⊢
        exact z_retI hO hR dX9_say_102 (Or.inr (Or.inr ⟨by omega, by omega, rfl, rfl⟩))
      ·
        refine z_bipush hO dX9_say_59 (by decide) ?_
        exact z_retI hO hR dX9_say_61 (Or.inr (Or.inl ⟨by omega, by omega, rfl, rfl⟩))
  ·
    refine z_if_ne hO 14 dX9_say_9 (by decide) (by decide) (fun c9 => absurd c9 (by omega)) (fun c9 => ?_)
    refine z_iconst hO dX9_say_12 ?_
    exact z_retI hO hR dX9_say_13 (Or.inl ⟨by omega, rfl, rfl⟩)
