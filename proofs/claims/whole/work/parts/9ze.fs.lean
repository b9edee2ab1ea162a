/-! ===== the law, its loop ===== -/
theorem sw_r (f : Nat → Int32) (i : Int) : 0 ≤ (Int32.ofInt (scr f i) &&& Int32.ofInt 31).toInt ∧ (Int32.ofInt (scr f i) &&& Int32.ofInt 31).toInt ≤ 31 := by
  generalize Int32.ofInt (scr f i) = a
  have h : ∀ a : BitVec 32, (a &&& 31#32).toInt = ((a &&& 31#32).toNat : Int) ∧ (a &&& 31#32).toNat ≤ 31 := by
    intro a
    have h1 : (a &&& 31#32).toNat ≤ 31 := by rw [BitVec.toNat_and]; exact Nat.and_le_right
    refine ⟨?_, h1⟩
    rw [BitVec.toInt_eq_toNat_cond, if_pos (by omega)]
  have e : (a &&& Int32.ofInt 31).toInt = (a.toBitVec &&& 31#32).toInt := rfl
  rw [e, (h _).1]; have := (h a.toBitVec).2; omega
set_option maxHeartbeats 4000000 in
set_option maxRecDepth 100000 in
theorem law_loop {g : G} {x : Cx} {b n : Nat} {f : Nat → Int32} (hO : Ok g x RL cL_law 4 14) (hX : SX x b n f) (hn : n ≤ 3072) (hE : ∀ (i : Int) (σ : Sg), Z g x 4 995 [(0, .ref b), (1, .ref (g.2.2.1 0)), (2, .ref (g.2.2.1 113)), (3, vI i)] [] σ) : ∀ (m : Nat) (i : Int) (σ : Sg), 0 ≤ i → i ≤ n → n - i < m → Rel σ → Z g x 4 18 [(0, .ref b), (1, .ref (g.2.2.1 0)), (2, .ref (g.2.2.1 113)), (3, vI i)] [] σ := by
  intro m
  induction m with
  | zero => intro i σ i0 i1 hm; omega
  | succ m ih =>
    intro i σ i0 i1 hm hR
    refine z_iload_n hO 3 dL_law_18 rfl ?_
    refine z_aload_n hO 0 dL_law_19 rfl ?_
    refine z_slen hO hX dL_law_20 ?_
    refine z_bipush hO dL_law_21 (by decide) ?_
    refine z_isub hO dL_law_23 ?_
    refine z_icmp_gt hO 995 dL_law_24 (by decide) (by omega) (by omega) (fun c24 => hE i σ) (fun c24 => ?_)
    have kk : ∀ σ' : Sg, Rel σ' → Z g x 4 989 [(0, .ref b), (1, .ref (g.2.2.1 0)), (2, .ref (g.2.2.1 113)), (3, vI i)] [] σ' := fun σ' hR' => by
      refine z_iinc hO (L' := [(3, _), (0, _), (1, _), (2, _)]) 3 dL_law_989 rfl (by decide) rfl ?_
      refine z_goto hO 18 dL_law_992 (by decide) ?_
      exact z_pick [1, 2, 3, 0] rfl (ih (i + 6) σ' (by omega) (by omega) (by omega) hR')
    refine z_aload_n hO 0 dL_law_27 rfl ?_
    refine z_iload_n hO 3 dL_law_28 rfl ?_
    refine z_sld hO hX (by omega) hn dL_law_29 ?_
    refine z_bipush hO dL_law_30 (by decide) ?_
    refine z_iand hO (Int32.ofInt (scr f i) &&& Int32.ofInt 31).toInt dL_law_32 (Int32.ofInt_toInt _).symm ?_
    have ha := sw_r f i
    generalize (Int32.ofInt (scr f i) &&& Int32.ofInt 31).toInt = a at ha ⊢
    by_cases h0 : a = 0
    · rw [h0]
      exact z_tswIn hO 156 dL_law_33 (by decide) (by decide) (by decide) rfl (by decide) (lc_type hO hX hn i0 (by omega) hR kk)
    by_cases h1 : a = 1
    · rw [h1]
      exact z_tswIn hO 179 dL_law_33 (by decide) (by decide) (by decide) rfl (by decide) (lc_words hO hX hn i0 (by omega) hR kk)
    by_cases h2 : a = 2
    · rw [h2]
      exact z_tswIn hO 192 dL_law_33 (by decide) (by decide) (by decide) rfl (by decide) (lc_say hO hX hn i0 (by omega) hR kk)
    by_cases h3 : a = 3
    · rw [h3]
      exact z_tswIn hO 215 dL_law_33 (by decide) (by decide) (by decide) rfl (by decide) (lc_slot hO hX hn i0 (by omega) hR kk)
    by_cases h4 : a = 4
    · rw [h4]
      exact z_tswIn hO 258 dL_law_33 (by decide) (by decide) (by decide) rfl (by decide) (lc_count hO hX hn i0 (by omega) hR kk)
    by_cases h5 : a = 5
    · rw [h5]
      exact z_tswIn hO 281 dL_law_33 (by decide) (by decide) (by decide) rfl (by decide) (lc_hear hO hX hn i0 (by omega) hR kk)
    by_cases h6 : a = 6
    · rw [h6]
      exact z_tswIn hO 314 dL_law_33 (by decide) (by decide) (by decide) rfl (by decide) (lc_also hO hX hn i0 (by omega) hR kk)
    by_cases h7 : a = 7
    · rw [h7]
      exact z_tswIn hO 357 dL_law_33 (by decide) (by decide) (by decide) rfl (by decide) (lc_lose hO hX hn i0 (by omega) hR kk)
    by_cases h8 : a = 8
    · rw [h8]
      exact z_tswIn hO 380 dL_law_33 (by decide) (by decide) (by decide) rfl (by decide) (lc_settle hO hX hn i0 (by omega) hR kk)
    by_cases h9 : a = 9
    · rw [h9]
      exact z_tswIn hO 413 dL_law_33 (by decide) (by decide) (by decide) rfl (by decide) (lc_check hO hX hn i0 (by omega) hR kk)
    by_cases h10 : a = 10
    · rw [h10]
      exact z_tswIn hO 436 dL_law_33 (by decide) (by decide) (by decide) rfl (by decide) (lc_slack hO hX hn i0 (by omega) hR kk)
    by_cases h11 : a = 11
    · rw [h11]
      exact z_tswIn hO 459 dL_law_33 (by decide) (by decide) (by decide) rfl (by decide) (lc_storm hO hX hn i0 (by omega) hR kk)
    by_cases h12 : a = 12
    · rw [h12]
      exact z_tswIn hO 482 dL_law_33 (by decide) (by decide) (by decide) rfl (by decide) (lc_undo hO hX hn i0 (by omega) hR kk)
    by_cases h13 : a = 13
    · rw [h13]
      exact z_tswIn hO 495 dL_law_33 (by decide) (by decide) (by decide) rfl (by decide) (lc_seed hO hX hn i0 (by omega) hR kk)
    by_cases h14 : a = 14
    · rw [h14]
      exact z_tswIn hO 518 dL_law_33 (by decide) (by decide) (by decide) rfl (by decide) (lc_best hO hX hn i0 (by omega) hR kk)
    by_cases h15 : a = 15
    · rw [h15]
      exact z_tswIn hO 541 dL_law_33 (by decide) (by decide) (by decide) rfl (by decide) (lc_taken hO hX hn i0 (by omega) hR kk)
    by_cases h16 : a = 16
    · rw [h16]
      exact z_tswIn hO 564 dL_law_33 (by decide) (by decide) (by decide) rfl (by decide) (lc_open hO hX hn i0 (by omega) hR kk)
    by_cases h17 : a = 17
    · rw [h17]
      exact z_tswIn hO 588 dL_law_33 (by decide) (by decide) (by decide) rfl (by decide) (lc_counted hO hX hn i0 (by omega) hR kk)
    by_cases h18 : a = 18
    · rw [h18]
      exact z_tswIn hO 621 dL_law_33 (by decide) (by decide) (by decide) rfl (by decide) (lc_likely hO hX hn i0 (by omega) hR kk)
    by_cases h19 : a = 19
    · rw [h19]
      exact z_tswIn hO 655 dL_law_33 (by decide) (by decide) (by decide) rfl (by decide) (lc_image hO hX hn i0 (by omega) hR kk)
    by_cases h20 : a = 20
    · rw [h20]
      exact z_tswIn hO 668 dL_law_33 (by decide) (by decide) (by decide) rfl (by decide) (lc_restore hO hX hn i0 (by omega) hR kk)
    by_cases h21 : a = 21
    · rw [h21]
      exact z_tswIn hO 681 dL_law_33 (by decide) (by decide) (by decide) rfl (by decide) (lc_meant hO hX hn i0 (by omega) hR kk)
    by_cases h22 : a = 22
    · rw [h22]
      exact z_tswIn hO 734 dL_law_33 (by decide) (by decide) (by decide) rfl (by decide) (lc_film hO hX hn i0 (by omega) hR kk)
    by_cases h23 : a = 23
    · rw [h23]
      exact z_tswIn hO 777 dL_law_33 (by decide) (by decide) (by decide) rfl (by decide) (lc_sheet hO hX hn i0 (by omega) hR kk)
    by_cases h24 : a = 24
    · rw [h24]
      exact z_tswIn hO 820 dL_law_33 (by decide) (by decide) (by decide) rfl (by decide) (lc_drop hO hX hn i0 (by omega) hR kk)
    by_cases h25 : a = 25
    · rw [h25]
      exact z_tswIn hO 843 dL_law_33 (by decide) (by decide) (by decide) rfl (by decide) (lc_item hO hX hn i0 (by omega) hR kk)
    by_cases h26 : a = 26
    · rw [h26]
      exact z_tswIn hO 926 dL_law_33 (by decide) (by decide) (by decide) rfl (by decide) (lc_copy hO hX hn i0 (by omega) hR kk)
    exact z_tswOut hO 989 dL_law_33 (by omega) (by omega) (by decide) (kk σ hR)
