/-! ===== readings by their numbers ===== -/
/-- how many ways there are to take the last m slots -/
def pq (V : Hv) : Nat → Int
  | 0 => 1
  | m + 1 => V.2.1 (V.1 - (m + 1)) * pq V m
theorem pq_s (V : Hv) (m : Nat) : pq V (m + 1) = V.2.1 (V.1 - (m + 1)) * pq V m := rfl
def pow4 : Nat → Int
  | 0 => 1
  | m + 1 => 4 * pow4 m
theorem pq_r {V : Hv} (hV : WV V) (m : Nat) (hm : (m : Int) ≤ V.1) : 1 ≤ pq V m ∧ pq V m ≤ pow4 m := by
  induction m with
  | zero => exact ⟨Int.le_refl 1, Int.le_refl 1⟩
  | succ m ih =>
    have a := ih (by omega)
    have b := hV.2.2 (V.1 - (m + 1)) (by omega) (by omega)
    rw [pq_s]
    unfold pow4
    constructor
    · exact Int.le_trans (by decide) (Int.mul_le_mul b.1 a.1 (by decide) (by omega))
    · exact Int.mul_le_mul b.2.1 a.2 (by omega) (by decide)
theorem pow4_le {m : Nat} (h : m ≤ 8) : pow4 m ≤ 65536 := by
  rcases (show m = 0 ∨ m = 1 ∨ m = 2 ∨ m = 3 ∨ m = 4 ∨ m = 5 ∨ m = 6 ∨ m = 7 ∨ m = 8 by omega) with rfl | rfl | rfl | rfl | rfl | rfl | rfl | rfl | rfl <;> decide
/-- what reading r takes of slot k -/
def pk (V : Hv) (r : Int) (k : Int) : Int := (r / pq V (V.1 - 1 - k).toNat) % V.2.1 k
/-- how many readings there are -/
def rdN (V : Hv) : Int := if V.1 = 0 then 0 else pq V V.1.toNat
/-- how many ways there are to take the first m slots -/
def fw (V : Hv) : Nat → Int
  | 0 => 1
  | m + 1 => fw V m * V.2.1 m
theorem fw_s (V : Hv) (m : Nat) : fw V (m + 1) = fw V m * V.2.1 m := rfl
theorem fw_pq {V : Hv} (h0 : 0 ≤ V.1) (m : Nat) (hm : (m : Int) ≤ V.1) : fw V m * pq V (V.1 - m).toNat = pq V V.1.toNat := by
  induction m with
  | zero => unfold fw; rw [Int.one_mul]; congr 1; omega
  | succ m ih =>
    have a := ih (by omega)
    rw [← a, fw_s, show (V.1 - (m : Int)).toNat = (V.1 - ((m + 1 : Nat) : Int)).toNat + 1 by omega, pq_s, Int.mul_assoc]
    rw [show V.1 - (((V.1 - ((m + 1 : Nat) : Int)).toNat : Int) + 1) = m by omega]
theorem fw_n {V : Hv} (h0 : 0 ≤ V.1) : fw V V.1.toNat = pq V V.1.toNat := by
  have := fw_pq h0 V.1.toNat (by omega)
  rw [show (V.1 - (V.1.toNat : Int)).toNat = 0 by omega] at this
  rw [← this]; unfold pq; rw [Int.mul_one]
theorem fw_r {V : Hv} (hV : WV V) (m : Nat) (hm : (m : Int) ≤ V.1) : 1 ≤ fw V m ∧ fw V m ≤ pow4 m := by
  induction m with
  | zero => exact ⟨Int.le_refl 1, Int.le_refl 1⟩
  | succ m ih =>
    have a := ih (by omega)
    have b := hV.2.2 m (by omega) (by omega)
    rw [fw_s]
    unfold pow4
    rw [Int.mul_comm 4]
    constructor
    · exact Int.le_trans (by decide) (Int.mul_le_mul a.1 b.1 (by decide) (by omega))
    · exact Int.mul_le_mul a.2 b.2.1 (by omega) (by omega)
theorem pk_WP {V : Hv} (hV : WV V) (r : Int) : WP V (pk V r) := by
  intro i h0 h1
  have b := hV.2.2 i h0 h1
  unfold pk
  exact ⟨Int.emod_nonneg _ (by omega), Int.emod_lt_of_pos _ (by omega)⟩
theorem rdN_r {V : Hv} (hV : WV V) : 0 ≤ rdN V ∧ rdN V ≤ 65536 := by
  unfold rdN
  have := pq_r hV V.1.toNat (by have := hV.1; omega)
  have := pow4_le (m := V.1.toNat) (by have := hV.2.1; omega)
  split <;> omega

set_option maxHeartbeats 4000000 in
set_option maxRecDepth 100000 in
theorem lp_readings {g : G} {x : Cx} {σ : Sg} (hO : Ok g x RX9 cX9_readings 3 2) (hR : Rt g x (some .int) (pI (pE (rdN (mv (σ 114))) σ))) (hV : WV (mv (σ 114))) : ∀ (k i : Nat) (v : Int), (i : Int) ≤ σ 114 0 → σ 114 0 - i < k → v = (if σ 114 0 = 0 then 0 else fw (mv (σ 114)) i) → Z g x 3 17 [(0, .ref (g.2.2.1 113)), (1, vI v), (2, vI i)] [] σ := by
  have hn := hV.2.1
  have hn0 := hV.1
  rw [mv_n] at hn hn0
  intro k
  induction k with
  | zero => intro i v hi hk; exfalso; omega
  | succ k ih =>
    intro i v hi hk hv
    refine z_iload_n hO 2 dX9_readings_17 rfl ?_
    refine z_aload_n hO 0 dX9_readings_18 rfl ?_
    refine z_getR hO (114) fl_X9_7 rfl rfl dX9_readings_19 ?_
    refine z_iconst hO dX9_readings_22 ?_
    refine z_iald hO rfl (by omega) (by decide) dX9_readings_23 (fun r23 => ?_)
    refine z_icmp_ge hO 46 dX9_readings_24 (by decide) (by omega) (by omega) (fun c24 => ?_) (fun c24 => ?_)
    ·
      have hi2 : i = (mv (σ 114)).1.toNat := by (rw [mv_n]; omega)
      have hv2 : v = rdN (mv (σ 114)) := by
        unfold rdN; rw [hv, mv_n]
        split
        · rfl
        · rw [hi2]; exact fw_n hV.1
      refine z_iload_n hO 1 dX9_readings_46 rfl ?_
      exact z_retE hO hR dX9_readings_47 (hv2) rfl
    ·
      have hW := hV.2.2 i (by omega) (show (i : Int) < σ 114 0 by omega)
      rw [mv_c] at hW
      refine z_iload_n hO 1 dX9_readings_27 rfl ?_
      refine z_aload_n hO 0 dX9_readings_28 rfl ?_
      refine z_getR hO (114) fl_X9_7 rfl rfl dX9_readings_29 ?_
      refine z_aload_n hO 0 dX9_readings_32 rfl ?_
      refine z_iload_n hO 2 dX9_readings_33 rfl ?_
      refine z_cvE hO (t_X9_at) cv_X9_79 rfl rfl rfl rfl (by decide) (Nat.le_of_ble_eq_true rfl) dX9_readings_34 ?_
      refine z_iald hO rfl (by omega) (by decide) dX9_readings_37 (fun r37 => ?_)
      refine z_imul hO dX9_readings_38 ?_
      refine z_istore_n hO (L' := [(1, _), (0, _), (2, _)]) dX9_readings_39 (by decide) rfl ?_
      refine z_iinc hO (L' := [(2, _), (1, _), (0, _)]) 2 dX9_readings_40 rfl (by decide) rfl ?_
      refine z_goto hO 17 dX9_readings_43 (by decide) ?_
      refine z_pick [2, 1, 0] rfl (ih (i + 1) _ (by omega) (by omega) ?_)
      rw [hv, fw_s, mv_c]; split <;> simp

set_option maxHeartbeats 4000000 in
set_option maxRecDepth 100000 in
theorem t_X9_readings {g : G} {σ : Sg} (hV : WV (mv (σ 114))) : MM g mX9_readings [.ref (g.2.2.1 113)] σ (pI (pE (rdN (mv (σ 114))) σ)) := by
  refine mm_of rfl (by decide) rfl rfl (Nat.le_of_ble_eq_true rfl) (fun x hO hR => ?_)
  refine z_aload_n hO 0 dX9_readings_0 rfl ?_
  refine z_getR hO (114) fl_X9_7 rfl rfl dX9_readings_1 ?_
  refine z_iconst hO dX9_readings_4 ?_
  refine z_iald hO rfl (by omega) (by decide) dX9_readings_5 (fun r5 => ?_)
  refine z_if_ne hO 13 dX9_readings_6 (by decide) (by omega) (fun c6 => ?_) (fun c6 => ?_)
  ·
    refine z_iconst hO dX9_readings_13 ?_
    refine z_istore_n hO (L' := [(1, _), (0, _)]) dX9_readings_14 (by decide) rfl ?_
    refine z_iconst hO dX9_readings_15 ?_
    refine z_istore_n hO (L' := [(2, _), (1, _), (0, _)]) dX9_readings_16 (by decide) rfl ?_
    exact z_pick [2, 1, 0] rfl (lp_readings hO hR hV 9 0 _ hV.1 (by have := hV.2.1; rw [mv_n] at this; omega) (by split <;> first | rfl | omega))
  ·
    refine z_iconst hO dX9_readings_9 ?_
    refine z_goto hO 14 dX9_readings_10 (by decide) ?_
    refine z_istore_n hO (L' := [(1, _), (0, _)]) dX9_readings_14 (by decide) rfl ?_
    refine z_iconst hO dX9_readings_15 ?_
    refine z_istore_n hO (L' := [(2, _), (1, _), (0, _)]) dX9_readings_16 (by decide) rfl ?_
    exact z_pick [2, 1, 0] rfl (lp_readings hO hR hV 9 0 _ hV.1 (by have := hV.2.1; rw [mv_n] at this; omega) (by split <;> first | rfl | omega))

def fPk : Nat → Int → Bool := fun c _ => c == 115
def fTk : Nat → Int → Bool := fun c k => c == 115 || c == 116 || c == 117 || (c == 113 && (k == 3 || k == 4 || k == 6 || k == 7))
theorem fPk_Tk : ∀ c k, fTk c k = false → fPk c k = false := by
  intro c k h; simp only [fTk, fPk, Bool.or_eq_false_iff] at h ⊢; exact h.1.1.1
theorem fTP_Tk : ∀ c k, fTk c k = false → fTP c k = false := by
  intro c k h; simp only [fTk, fTP, Bool.or_eq_false_iff] at h ⊢; exact ⟨⟨h.1.1.2, h.1.2⟩, h.2⟩
theorem lstW_congr {V : Hv} {p p' : Int → Int} (m : Nat) (h : ∀ j : Int, 0 ≤ j → j < m → p j = p' j) : lstW V p m = lstW V p' m := by
  induction m with
  | zero => rfl
  | succ m ih => rw [lstW_s, lstW_s, ih (fun j h0 h1 => h j h0 (by omega)), h m (by omega) (by omega)]
theorem sumC_congr {V : Hv} {p p' : Int → Int} (m : Nat) (h : ∀ j : Int, 0 ≤ j → j < m → p j = p' j) : sumC V p m = sumC V p' m := by
  induction m with
  | zero => rfl
  | succ m ih => rw [sumC_s, sumC_s, ih (fun j h0 h1 => h j h0 (by omega)), h m (by omega) (by omega)]
theorem tpQ_congr {V : Hv} {p p' : Int → Int} {τ : Sg} {b : Bool} (h : ∀ j : Int, 0 ≤ j → j < V.1 → p j = p' j) (q : tpQ V p τ b) : tpQ V p' τ b := by
  have e1 := lstW_congr (V := V) (p := p) (p' := p') V.1.toNat (fun j h0 h1 => h j h0 (by omega))
  have e2 := sumC_congr (V := V) (p := p) (p' := p') V.1.toNat (fun j h0 h1 => h j h0 (by omega))
  unfold tpQ sdP at q ⊢
  rw [← e1, ← e2]; exact q

set_option maxHeartbeats 4000000 in
set_option maxRecDepth 100000 in
theorem lp_takes {g : G} {x : Cx} {σ : Sg} {r : Int} (hO : Ok g x RX9 cX9_takes 4 9) (hR : Rt g x (some .boolean) (pB (fun b σ' => tpQ (mv (σ 114)) (pk (mv (σ 114)) r) σ' b ∧ (∀ j, 0 ≤ j → j < σ 114 0 → σ' 115 j = pk (mv (σ 114)) r j) ∧ Fm fTk σ σ'))) (hV : WV (mv (σ 114))) (hr : 0 ≤ r ∧ r ≤ 65536) : ∀ (k : Nat) (i left : Int) (τ : Sg), -1 ≤ i → i < σ 114 0 → i + 1 < k → left = r / pq (mv (σ 114)) ((mv (σ 114)).1 - 1 - i).toNat → (∀ j, i < j → j < σ 114 0 → τ 115 j = pk (mv (σ 114)) r j) → Fm fPk σ τ → Z g x 4 11 [(0, .ref (g.2.2.1 113)), (2, vI left), (3, vI i)] [] τ := by
  have hn := hV.2.1
  have hn0 := hV.1
  rw [mv_n] at hn hn0
  intro k
  induction k with
  | zero => intro i left τ hi hi2 hk; exfalso; omega
  | succ k ih =>
    intro i left τ hi hi2 hk hl hpk hFm
    have e114 : τ 114 = σ 114 := hFm.row 114 (fun _ => rfl)
    refine z_iload_n hO 2 dX9_takes_11 rfl ?_
    refine z_if_lt hO 52 dX9_takes_12 (by decide) (by omega) (fun c12 => ?_) (fun c12 => ?_)
    ·
      have hi : i = -1 := by omega
      have hwp : WP (mv (σ 114)) (τ 115) := by
        intro j h0 h1
        rw [hpk j (by omega) (by rw [mv_n] at h1; exact h1)]
        exact pk_WP hV r j h0 h1
      have hfin : ∀ b τ', tpQ (mv (τ 114)) (τ 115) τ' b ∧ Fm fTP τ τ' → tpQ (mv (σ 114)) (pk (mv (σ 114)) r) τ' b ∧ (∀ j, 0 ≤ j → j < σ 114 0 → τ' 115 j = pk (mv (σ 114)) r j) ∧ Fm fTk σ τ' := by
        rintro b τ' ⟨q1, q2⟩
        rw [e114] at q1
        refine ⟨tpQ_congr (fun j h0 h1 => hpk j (by omega) h1) q1, fun j h0 h1 => ?_, (hFm.mono fPk_Tk).trans (q2.mono fTP_Tk)⟩
        rw [q2 115 j rfl]; exact hpk j (by omega) h1
      refine z_aload_n hO 0 dX9_takes_52 rfl ?_
      refine z_cvB hO (t_X9_takesPicked (by rw [e114]; exact hV) (by rw [e114]; exact hwp)) cv_X9_119 rfl rfl rfl rfl (by decide) (Nat.le_of_ble_eq_true rfl) dX9_takes_53 (fun s53 p53 => ?_) (fun s53 p53 => ?_)
      ·
        exact z_retT hO hR dX9_takes_56 (hfin true _ p53)
      ·
        exact z_retF hO hR dX9_takes_56 (hfin false _ p53)
    ·
      have hW := hV.2.2 (i : Int) (by omega) (show (i : Int) < σ 114 0 by omega)
      rw [mv_c] at hW
      have hq := pq_r hV ((mv (σ 114)).1 - 1 - i).toNat (by rw [mv_n]; omega)
      have hL0 : 0 ≤ left := by rw [hl]; exact Int.ediv_nonneg hr.1 (by omega)
      have hL1 : left ≤ r := by rw [hl]; exact Int.ediv_le_self _ hr.1
      refine z_aload_n hO 0 dX9_takes_15 rfl ?_
      refine z_getR hO (115) fl_X9_13 rfl rfl dX9_takes_16 ?_
      refine z_iload_n hO 2 dX9_takes_19 rfl ?_
      refine z_iload_n hO 1 dX9_takes_20 rfl ?_
      refine z_aload_n hO 0 dX9_takes_21 rfl ?_
      refine z_getR hO (114) fl_X9_7 rfl rfl dX9_takes_22 ?_
      refine z_aload_n hO 0 dX9_takes_25 rfl ?_
      refine z_iload_n hO 2 dX9_takes_26 rfl ?_
      refine z_cvE hO (t_X9_at) cv_X9_79 rfl rfl rfl rfl (by decide) (Nat.le_of_ble_eq_true rfl) dX9_takes_27 ?_
      try simp only [fl_row_ne, fl_ne, up_row_ne, up_ne, up_eq, up_nk, up_up, up_self, ne_eq, Nat.reduceEqDiff, Int.reduceEq, reduceCtorEq, not_false_eq_true, not_true_eq_false, e114]
      refine z_iald hO rfl (by omega) (by decide) dX9_takes_30 (fun r30 => ?_)
      try simp only [fl_row_ne, fl_ne, up_row_ne, up_ne, up_eq, up_nk, up_up, up_self, ne_eq, Nat.reduceEqDiff, Int.reduceEq, reduceCtorEq, not_false_eq_true, not_true_eq_false, e114] at r30 ⊢
      refine z_irem hO dX9_takes_31 (by omega) (by omega) ?_
      refine z_iast hO rfl (by omega) (by decide) (⟨by have := Int.emod_nonneg left (show σ 114 (4 + 9 * i) ≠ 0 by omega); omega, by have := Int.emod_lt_of_pos left (show 0 < σ 114 (4 + 9 * i) by omega); omega⟩) dX9_takes_32 ?_
      refine z_iload_n hO 1 dX9_takes_33 rfl ?_
      refine z_aload_n hO 0 dX9_takes_34 rfl ?_
      refine z_getR hO (114) fl_X9_7 rfl rfl dX9_takes_35 ?_
      refine z_aload_n hO 0 dX9_takes_38 rfl ?_
      refine z_iload_n hO 2 dX9_takes_39 rfl ?_
      refine z_cvE hO (t_X9_at) cv_X9_79 rfl rfl rfl rfl (by decide) (Nat.le_of_ble_eq_true rfl) dX9_takes_40 ?_
      try simp only [fl_row_ne, fl_ne, up_row_ne, up_ne, up_eq, up_nk, up_up, up_self, ne_eq, Nat.reduceEqDiff, Int.reduceEq, reduceCtorEq, not_false_eq_true, not_true_eq_false, e114]
      refine z_iald hO rfl (by omega) (by decide) dX9_takes_43 (fun r43 => ?_)
      try simp only [fl_row_ne, fl_ne, up_row_ne, up_ne, up_eq, up_nk, up_up, up_self, ne_eq, Nat.reduceEqDiff, Int.reduceEq, reduceCtorEq, not_false_eq_true, not_true_eq_false, e114] at r43 ⊢
      refine z_idiv hO dX9_takes_44 (by omega) (by omega) ?_
      refine z_istore_n hO (L' := [(2, _), (0, _), (3, _)]) dX9_takes_45 (by decide) rfl ?_
      refine z_iinc hO (L' := [(3, _), (2, _), (0, _)]) 2 dX9_takes_46 rfl (by decide) rfl ?_
      refine z_goto hO 11 dX9_takes_49 (by decide) ?_
      refine z_pick [2, 1, 0] rfl (ih (i - 1) _ _ (by omega) (by omega) (by omega) ?_ ?_ ?_)
      · rw [hl, show ((mv (σ 114)).1 - 1 - (i - 1)).toNat = ((mv (σ 114)).1 - 1 - i).toNat + 1 by rw [mv_n]; omega, pq_s, Int.ediv_ediv_of_nonneg (by omega)]
        rw [Int.mul_comm, show (mv (σ 114)).1 - (((mv (σ 114)).1 - 1 - i).toNat + 1) = i by rw [mv_n]; omega, mv_c]
      · intro j h0 h1
        by_cases q : j = i
        · subst q; rw [up_eq, hl]; unfold pk; rw [mv_c]
        · rw [up_nk q]; exact hpk j (by omega) h1
      · exact hFm.up rfl

set_option maxHeartbeats 4000000 in
set_option maxRecDepth 100000 in
theorem t_X9_takes {g : G} {σ : Sg} {r : Int} (hV : WV (mv (σ 114))) (hr : 0 ≤ r ∧ r ≤ 65536) : MM g mX9_takes [.ref (g.2.2.1 113), vI r] σ (pB (fun b σ' => tpQ (mv (σ 114)) (pk (mv (σ 114)) r) σ' b ∧ (∀ j, 0 ≤ j → j < σ 114 0 → σ' 115 j = pk (mv (σ 114)) r j) ∧ Fm fTk σ σ')) := by
  refine mm_of rfl (by decide) rfl rfl (Nat.le_of_ble_eq_true rfl) (fun x hO hR => ?_)
  have hn := hV.2.1
  have hn0 := hV.1
  rw [mv_n] at hn hn0
  refine z_iload_n hO 1 dX9_takes_0 rfl ?_
  refine z_istore_n hO (L' := [(2, _), (0, _), (1, _)]) dX9_takes_1 (by decide) rfl ?_
  refine z_aload_n hO 1 dX9_takes_2 rfl ?_
  refine z_getR hO (114) fl_X9_7 rfl rfl dX9_takes_3 ?_
  refine z_iconst hO dX9_takes_6 ?_
  refine z_iald hO rfl (by omega) (by decide) dX9_takes_7 (fun r7 => ?_)
  refine z_iconst hO dX9_takes_8 ?_
  refine z_isub hO dX9_takes_9 ?_
  refine z_istore_n hO (L' := [(3, _), (2, _), (0, _), (1, _)]) dX9_takes_10 (by decide) rfl ?_
  exact z_pick [2, 1, 0] rfl (lp_takes hO hR hV hr 9 (σ 114 0 - 1) r σ (by omega) (by omega) (by omega) (by rw [mv_n, show (σ 114 0 - 1 - (σ 114 0 - 1)).toNat = 0 by omega]; unfold pq; rw [Int.ediv_one]) (fun j h0 h1 => absurd h1 (by omega)) Fm.rf)
