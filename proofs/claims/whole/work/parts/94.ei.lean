theorem bl_sub {n m : Nat} (h : m ≤ n) : ((n : Int) - (m : Int)) = ((n - m : Nat) : Int) := by omega
theorem rp_85 : rp 85 8 = 6148914691236517205 := by decide
theorem rp_51 : rp 51 8 = 3689348814741910323 := by decide
theorem rp_15 : rp 15 8 = 1085102592571150095 := by decide
theorem bi_127 {n : Nat} : Int32.ofInt (n : Int) &&& Int32.ofInt 127 = Int32.ofInt ((n % 128 : Nat) : Int) := by
  apply Int32.toBitVec_inj.mp
  rw [Int32.toBitVec_and, Int32.toBitVec_ofInt, Int32.toBitVec_ofInt, Int32.toBitVec_ofInt]
  have e1 : BitVec.ofInt 32 (n : Int) = BitVec.ofNat 32 n := BitVec.ofInt_natCast 32 n
  have e2 : BitVec.ofInt 32 ((n % 128 : Nat) : Int) = BitVec.ofNat 32 (n % 128) := BitVec.ofInt_natCast 32 (n % 128)
  have e3 : BitVec.ofInt 32 127 = BitVec.ofNat 32 127 := by decide
  rw [e1, e2, e3]
  apply BitVec.eq_of_toNat_eq
  rw [BitVec.toNat_and, BitVec.toNat_ofNat, BitVec.toNat_ofNat, BitVec.toNat_ofNat, show 127 % 2 ^ 32 = 2 ^ 7 - 1 by decide, Nat.and_two_pow_sub_one_eq_mod]
  omega

set_option maxHeartbeats 4000000 in
set_option maxRecDepth 100000 in
theorem t_J13_bitCount_95d88 {g : G} {σ : Sg} {n : Nat} (hn : n < 1152921504606846976) : MM g mJ13_bitCount_95d88 [vL (n : Int)] σ (pI (pE (((bc 8 n : Nat) : Int)) σ)) := by
  refine mm_of rfl (by decide) rfl rfl (Nat.le_of_ble_eq_true rfl) (fun x hO hR => ?_)
  have hn8 : n < 256 ^ 8 := by omega
  obtain ⟨y0, y12, y36, z1, z2, z3, z4, z5, z6, z7, z8⟩ := bc_sum n
  have hb1 : bs1 8 n ≤ n := Nat.sub_le _ _
  have hb2 : bs2 8 (bs1 8 n) ≤ 3689348814741910323 + 3689348814741910323 := by unfold bs2; rw [rp_51]; exact Nat.add_le_add Nat.and_le_right Nat.and_le_right
  refine z_lload_n hO 0 dJ13_bitCount_95d88_0 rfl ?_
  refine z_lload_n hO 0 dJ13_bitCount_95d88_1 rfl ?_
  refine z_iconst hO dJ13_bitCount_95d88_2 ?_
  refine z_lushr hO ((((n / 2 ^ 1 : Nat)) : Int)) dJ13_bitCount_95d88_3 (bl_ushr (w := 1) (by omega) (by decide)) ?_
  refine z_ldc2 hO k_J13_314 dJ13_bitCount_95d88_4 ?_
  refine z_land hO (((((n / 2 ^ 1) &&& 6148914691236517205 : Nat)) : Int)) dJ13_bitCount_95d88_7 (bl_and (n / 2 ^ 1) 6148914691236517205) ?_
  refine z_lsub hO dJ13_bitCount_95d88_8 ?_
  refine z_topL (show (n : Int) - (((n / 2 ^ 1) &&& 6148914691236517205 : Nat) : Int) = ((bs1 8 n : Nat) : Int) by unfold bs1; rw [rp_85]; exact bl_sub (Nat.le_trans Nat.and_le_left (Nat.div_le_self n _))) ?_
  refine z_lstore_n hO (L' := [(0, _)]) dJ13_bitCount_95d88_9 (by decide) rfl ?_
  refine z_lload_n hO 0 dJ13_bitCount_95d88_10 rfl ?_
  refine z_ldc2 hO k_J13_316 dJ13_bitCount_95d88_11 ?_
  refine z_land hO ((((bs1 8 n &&& 3689348814741910323 : Nat)) : Int)) dJ13_bitCount_95d88_14 (bl_and (bs1 8 n) 3689348814741910323) ?_
  refine z_lload_n hO 0 dJ13_bitCount_95d88_15 rfl ?_
  refine z_iconst hO dJ13_bitCount_95d88_16 ?_
  refine z_lushr hO ((((bs1 8 n / 2 ^ 2 : Nat)) : Int)) dJ13_bitCount_95d88_17 (bl_ushr (w := 2) (by omega) (by decide)) ?_
  refine z_ldc2 hO k_J13_316 dJ13_bitCount_95d88_18 ?_
  refine z_land hO (((((bs1 8 n / 2 ^ 2) &&& 3689348814741910323 : Nat)) : Int)) dJ13_bitCount_95d88_21 (bl_and (bs1 8 n / 2 ^ 2) 3689348814741910323) ?_
  refine z_ladd hO dJ13_bitCount_95d88_22 ?_
  refine z_topL (show ((bs1 8 n &&& 3689348814741910323 : Nat) : Int) + (((bs1 8 n / 2 ^ 2) &&& 3689348814741910323 : Nat) : Int) = ((bs2 8 (bs1 8 n) : Nat) : Int) by unfold bs2; rw [rp_51]; exact (Int.natCast_add _ _).symm) ?_
  refine z_lstore_n hO (L' := [(0, _)]) dJ13_bitCount_95d88_23 (by decide) rfl ?_
  refine z_lload_n hO 0 dJ13_bitCount_95d88_24 rfl ?_
  refine z_lload_n hO 0 dJ13_bitCount_95d88_25 rfl ?_
  refine z_iconst hO dJ13_bitCount_95d88_26 ?_
  refine z_lushr hO ((((bs2 8 (bs1 8 n) / 2 ^ 4 : Nat)) : Int)) dJ13_bitCount_95d88_27 (bl_ushr (w := 4) (by omega) (by decide)) ?_
  refine z_ladd hO dJ13_bitCount_95d88_28 ?_
  refine z_topL (show ((bs2 8 (bs1 8 n) : Nat) : Int) + ((bs2 8 (bs1 8 n) / 2 ^ 4 : Nat) : Int) = ((bs2 8 (bs1 8 n) + bs2 8 (bs1 8 n) / 16 : Nat) : Int) from (Int.natCast_add _ _).symm) ?_
  refine z_ldc2 hO k_J13_318 dJ13_bitCount_95d88_29 ?_
  refine z_land hO ((((bcV 8 n : Nat)) : Int)) dJ13_bitCount_95d88_32 (by rw [show ((1085102592571150095 : Int)) = ((1085102592571150095 : Nat) : Int) from rfl, bl_and, ← bs_all 8 n hn8]; unfold bs3; rw [rp_15]) ?_
  refine z_lstore_n hO (L' := [(0, _)]) dJ13_bitCount_95d88_33 (by decide) rfl ?_
  refine z_lload_n hO 0 dJ13_bitCount_95d88_34 rfl ?_
  refine z_lload_n hO 0 dJ13_bitCount_95d88_35 rfl ?_
  refine z_bipush hO dJ13_bitCount_95d88_36 (by decide) ?_
  refine z_lushr hO ((((y0 : Nat)) : Int)) dJ13_bitCount_95d88_38 (by rw [← z1]; exact bl_ushr (w := 8) (by omega) (by decide)) ?_
  refine z_ladd hO dJ13_bitCount_95d88_39 ?_
  refine z_lstore_n hO (L' := [(0, _)]) dJ13_bitCount_95d88_40 (by decide) rfl ?_
  refine z_lload_n hO 0 dJ13_bitCount_95d88_41 rfl ?_
  refine z_lload_n hO 0 dJ13_bitCount_95d88_42 rfl ?_
  refine z_bipush hO dJ13_bitCount_95d88_43 (by decide) ?_
  refine z_lushr hO ((((y12 : Nat)) : Int)) dJ13_bitCount_95d88_45 (by rw [← Int.natCast_add, ← z2]; exact bl_ushr (w := 16) (by omega) (by decide)) ?_
  refine z_ladd hO dJ13_bitCount_95d88_46 ?_
  refine z_lstore_n hO (L' := [(0, _)]) dJ13_bitCount_95d88_47 (by decide) rfl ?_
  refine z_lload_n hO 0 dJ13_bitCount_95d88_48 rfl ?_
  refine z_lload_n hO 0 dJ13_bitCount_95d88_49 rfl ?_
  refine z_bipush hO dJ13_bitCount_95d88_50 (by decide) ?_
  refine z_lushr hO ((((y36 : Nat)) : Int)) dJ13_bitCount_95d88_52 (by rw [← Int.natCast_add, ← Int.natCast_add, ← z3]; exact bl_ushr (w := 32) (by omega) (by decide)) ?_
  refine z_ladd hO dJ13_bitCount_95d88_53 ?_
  refine z_lstore_n hO (L' := [(0, _)]) dJ13_bitCount_95d88_54 (by decide) rfl ?_
  refine z_lload_n hO 0 dJ13_bitCount_95d88_55 rfl ?_
  refine z_l2i hO dJ13_bitCount_95d88_56 ?_
  refine z_bipush hO dJ13_bitCount_95d88_57 (by decide) ?_
  refine z_iand hO ((((bc 8 n : Nat)) : Int)) dJ13_bitCount_95d88_59 (by rw [← Int.natCast_add, ← Int.natCast_add, ← Int.natCast_add, ← z4]; exact bi_127) ?_
  exact z_retE hO hR dJ13_bitCount_95d88_60 (rfl) rfl
