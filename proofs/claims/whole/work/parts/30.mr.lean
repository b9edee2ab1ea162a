/-! ===== sets as bits of longs ===== -/
theorem l_bv (n : Nat) : (Int64.ofInt (n : Int)).toBitVec = BitVec.ofNat 64 n := by
  rw [Int64.toBitVec_ofInt]; exact BitVec.ofInt_natCast 64 n
theorem bl_or (n m : Nat) : Int64.ofInt (n : Int) ||| Int64.ofInt (m : Int) = Int64.ofInt ((n ||| m : Nat) : Int) := by
  apply Int64.toBitVec_inj.mp
  rw [Int64.toBitVec_or, l_bv, l_bv, l_bv]
  apply BitVec.eq_of_toNat_eq
  rw [BitVec.toNat_or, BitVec.toNat_ofNat, BitVec.toNat_ofNat, BitVec.toNat_ofNat, Nat.or_mod_two_pow]
theorem bl_and (n m : Nat) : Int64.ofInt (n : Int) &&& Int64.ofInt (m : Int) = Int64.ofInt ((n &&& m : Nat) : Int) := by
  apply Int64.toBitVec_inj.mp
  rw [Int64.toBitVec_and, l_bv, l_bv, l_bv]
  apply BitVec.eq_of_toNat_eq
  rw [BitVec.toNat_and, BitVec.toNat_ofNat, BitVec.toNat_ofNat, BitVec.toNat_ofNat, Nat.and_mod_two_pow]
theorem bl_shl1 : ∀ w : Nat, w < 63 → Int64.ofInt 1 <<< ((Int32.ofInt (w : Int)).toInt64 &&& 63) = Int64.ofInt ((2 ^ w : Nat) : Int) := by decide +kernel
theorem bl_cnt : ∀ w : Nat, w < 64 → ((Int32.ofInt (w : Int)).toInt64 &&& 63).toBitVec.smod 64 = BitVec.ofNat 64 w := by decide +kernel
theorem bl_cntU : ∀ w : Nat, w < 64 → (((Int32.ofInt (w : Int)).toInt64.toUInt64 &&& Int64.toUInt64 63).toBitVec % 64).toNat = w := by decide +kernel
theorem bl_addbit {a w : Nat} (h : a < 2 ^ w) : a ||| 2 ^ w = a + 2 ^ w := by
  have := Nat.two_pow_add_eq_or_of_lt h 1
  rw [Nat.mul_one] at this
  rw [Nat.or_comm, ← this]; omega
/-- the set of the words w below m with p w -/
def setF (p : Nat → Bool) : Nat → Nat
  | 0 => 0
  | m + 1 => setF p m + (if p m = true then 2 ^ m else 0)
theorem setF_s (p : Nat → Bool) (m : Nat) : setF p (m + 1) = setF p m + (if p m = true then 2 ^ m else 0) := rfl
theorem setF_lt (p : Nat → Bool) (m : Nat) : setF p m < 2 ^ m := by
  induction m with
  | zero => exact Nat.one_pos
  | succ m ih => rw [setF_s, Nat.pow_succ]; split <;> omega

set_option maxHeartbeats 4000000 in
set_option maxRecDepth 100000 in
theorem lp_open {g : G} {x : Cx} {σ : Sg} {s : Int} (hO : Ok g x RX9 cX9_open 5 12) (hs : 0 ≤ s ∧ s ≤ 7) (hE : Z g x 5 60 [(0, .ref (g.2.2.1 113)), (1, vI s), (2, vL ((setF (fun w => decide (0 < σ 119 (32 * s + (w : Int)))) 32 : Nat) : Int)), (4, vI (32 : Nat))] [] σ) : ∀ (k i : Nat), i ≤ 32 → 32 - i < k → Z g x 5 21 [(0, .ref (g.2.2.1 113)), (1, vI s), (2, vL ((setF (fun w => decide (0 < σ 119 (32 * s + (w : Int)))) i : Nat) : Int)), (4, vI i)] [] σ := by
  intro k
  induction k with
  | zero => intro i h0 hk; exact absurd hk (by omega)
  | succ k ih =>
    intro i h0 hk
    refine z_iload hO 3 dX9_open_21 rfl ?_
    refine z_bipush hO dX9_open_23 (by decide) ?_
    refine z_icmp_ge hO 60 dX9_open_25 (by decide) (by omega) (by decide) (fun c25 => ?_) (fun c25 => ?_)
    ·
      have hi3 : i = 32 := by omega
      subst hi3
      exact z_pick [0, 1, 2, 3] rfl hE
    ·
      have hlt := setF_lt (fun w => decide (0 < σ 119 (32 * s + (w : Int)))) i
      have hp2 : (2 : Nat) ^ i ≤ 2 ^ 31 := Nat.pow_le_pow_right (by decide) (by omega)
      refine z_lload_n hO 2 dX9_open_28 rfl ?_
      refine z_aload_n hO 0 dX9_open_29 rfl ?_
      refine z_getR hO (119) fl_X9_25 rfl rfl dX9_open_30 ?_
      refine z_bipush hO dX9_open_33 (by decide) ?_
      refine z_iload_n hO 1 dX9_open_35 rfl ?_
      refine z_imul hO dX9_open_36 ?_
      refine z_iload hO 3 dX9_open_37 rfl ?_
      refine z_iadd hO dX9_open_39 ?_
      refine z_iald hO rfl (by omega) (by decide) dX9_open_40 (fun r40 => ?_)
      refine z_if_le hO 51 dX9_open_41 (by decide) (by omega) (fun c41 => ?_) (fun c41 => ?_)
      ·
        refine z_lconst hO 0 dX9_open_51 (by decide) ?_
        refine z_lor hO (((setF (fun w => decide (0 < σ 119 (32 * s + (w : Int)))) (i + 1) : Nat) : Int)) dX9_open_52 (by rw [setF_s]; first | (rw [if_pos (decide_eq_true (by assumption)), bl_or, bl_addbit hlt]) | (rw [if_neg (fun z => by have := of_decide_eq_true z; omega)]; exact (bl_or _ 0).trans (by rw [Nat.or_zero]; rfl))) ?_
        refine z_lstore_n hO (L' := [(2, _), (0, _), (1, _), (4, _)]) dX9_open_53 (by decide) rfl ?_
        refine z_iinc hO (L' := [(4, _), (2, _), (0, _), (1, _)]) 3 dX9_open_54 rfl (by decide) rfl ?_
        refine z_goto hO 21 dX9_open_57 (by decide) ?_
        exact z_pick [2, 3, 1, 0] rfl (ih (i + 1) (by omega) (by omega))
      ·
        refine z_lconst hO 1 dX9_open_44 (by decide) ?_
        refine z_iload hO 3 dX9_open_45 rfl ?_
        refine z_lshl hO (((2 ^ i : Nat) : Int)) dX9_open_47 (bl_shl1 i (by omega)) ?_
        refine z_goto hO 52 dX9_open_48 (by decide) ?_
        refine z_lor hO (((setF (fun w => decide (0 < σ 119 (32 * s + (w : Int)))) (i + 1) : Nat) : Int)) dX9_open_52 (by rw [setF_s]; first | (rw [if_pos (decide_eq_true (by assumption)), bl_or, bl_addbit hlt]) | (rw [if_neg (fun z => by have := of_decide_eq_true z; omega)]; exact (bl_or _ 0).trans (by rw [Nat.or_zero]; rfl))) ?_
        refine z_lstore_n hO (L' := [(2, _), (0, _), (1, _), (4, _)]) dX9_open_53 (by decide) rfl ?_
        refine z_iinc hO (L' := [(4, _), (2, _), (0, _), (1, _)]) 3 dX9_open_54 rfl (by decide) rfl ?_
        refine z_goto hO 21 dX9_open_57 (by decide) ?_
        exact z_pick [2, 3, 1, 0] rfl (ih (i + 1) (by omega) (by omega))

theorem setF_congr {p q : Nat → Bool} (m : Nat) (h : ∀ w, w < m → p w = q w) : setF p m = setF q m := by
  induction m with
  | zero => rfl
  | succ m ih => rw [setF_s, setF_s, ih (fun w hw => h w (by omega)), h m (by omega)]

set_option maxHeartbeats 4000000 in
set_option maxRecDepth 100000 in
theorem t_X9_open {g : G} {σ : Sg} {s : Int} (rs : -2147483648 ≤ s ∧ s ≤ 2147483647) (hn : 0 ≤ σ 114 0 ∧ σ 114 0 ≤ 8) (hV : WV (mv (σ 114))) (h2 : 0 ≤ (σ 114 2) ∧ (σ 114 2) ≤ 20) : MM g mX9_open [.ref (g.2.2.1 113), vI s] σ (pL (fun r σ' => (¬ (0 ≤ s ∧ s < σ 114 0) → r = -1) ∧ ((0 ≤ s ∧ s < σ 114 0) → r = ((setF (fun w => decide (0 < hvn (mv (σ 114)) (σ 114 1) (σ 114 2) (rdN (mv (σ 114))).toNat s (w : Int))) 32 : Nat) : Int)) ∧ Fm fCt σ σ')) := by
  refine mm_of rfl (by decide) rfl rfl (Nat.le_of_ble_eq_true rfl) (fun x hO hR => ?_)
  refine z_aload_n hO 0 dX9_open_0 rfl ?_
  refine z_iload_n hO 1 dX9_open_1 rfl ?_
  refine z_cvQ hO (t_X9_isSlot (by omega) (by omega)) cv_X9_183 rfl rfl rfl rfl (by decide) (Nat.le_of_ble_eq_true rfl) dX9_open_2 (fun c2 => ?_) (fun c2 => ?_)
  ·
    refine z_if_ne hO 12 dX9_open_5 (by decide) (by decide) (fun c5 => ?_) (fun c5 => absurd c5 (by omega))
    refine z_aload_n hO 0 dX9_open_12 rfl ?_
    refine z_cvV hO (t_X9_counts hV h2) cv_X9_169 rfl rfl rfl rfl (by decide) (Nat.le_of_ble_eq_true rfl) dX9_open_13 (fun s13 p13 => ?_)
    obtain ⟨hq, hF⟩ := p13
    refine z_lconst hO 0 dX9_open_16 (by decide) ?_
    refine z_lstore_n hO (L' := [(2, _), (0, _), (1, _)]) dX9_open_17 (by decide) rfl ?_
    refine z_iconst hO dX9_open_18 ?_
    refine z_istore hO (L' := [(4, _), (2, _), (0, _), (1, _)]) dX9_open_19 (by decide) rfl ?_
    refine z_pick [2, 3, 1, 0] rfl (lp_open hO (by omega) ?_ 33 0 (by decide) (by decide))
    refine z_lload_n hO 2 dX9_open_60 rfl ?_
    exact z_retL hO hR dX9_open_61 (⟨fun q => absurd q (by omega), fun _ => by rw [setF_congr (q := (fun w => decide (0 < hvn (mv (σ 114)) (σ 114 1) (σ 114 2) (rdN (mv (σ 114))).toNat s (w : Int)))) 32 (fun w hw => by show decide (0 < _) = decide (0 < _); rw [hq.2.2.1 s w (show (0 : Int) ≤ s by omega) (show s < σ 114 0 by omega) (by omega) (by omega)])], hF⟩)
  ·
    refine z_if_ne hO 12 dX9_open_5 (by decide) (by decide) (fun c5 => absurd c5 (by omega)) (fun c5 => ?_)
    refine z_ldc2 hO k_X9_273 dX9_open_8 ?_
    exact z_retL hO hR dX9_open_11 (⟨fun _ => rfl, fun q => absurd q (by omega), by exact Fm.rf⟩)
