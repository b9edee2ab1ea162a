theorem cc_nm {V : Hv} (hV : WV V) {K S : Int} {τ : Sg} (hA : ccA V K S (rdN V).toNat τ) {m t : Nat} (hm : (m : Int) = nCt V K S (rdN V).toNat) (h60 : m ≤ 60) (ht : t < m) : τ 100 t = (nm V (cqF V K S t)).length ∧ (1 ≤ (nm V (cqF V K S t)).length ∧ (nm V (cqF V K S t)).length ≤ 4) ∧ ∀ j : Int, 0 ≤ j → j < (nm V (cqF V K S t)).length → τ 101 (t * 4 + j) = lrow (nm V (cqF V K S t)) j := by
  have p := cqF_p hV (K := K) (S := S) (t := t) (by omega)
  have a := hA.2.2 (cqF V K S t) (by omega) p.2.1 (by omega)
  rw [p.2.2] at a
  have s := said_r hV (snd_said (ctd_iff.mp p.2.1).1)
  exact ⟨a.2.1, ⟨s.1, s.2.1⟩, a.2.2⟩
theorem lrow_ext {a b : List Int} (h : (a.length : Int) = b.length) (e : ∀ j : Int, 0 ≤ j → j < a.length → lrow a j = lrow b j) : a = b := by
  apply List.ext_getElem (by omega)
  intro j h1 h2
  have := e j (by omega) (by omega)
  unfold lrow at this
  rw [List.getD_eq_getElem?_getD, List.getD_eq_getElem?_getD, show ((j : Int)).toNat = j by omega, List.getElem?_eq_getElem h1, List.getElem?_eq_getElem h2] at this
  exact this

set_option maxHeartbeats 4000000 in
set_option maxRecDepth 100000 in
theorem lp_isAlike {g : G} {x : Cx} {σ : Sg} {m i j : Nat} (hO : Ok g x RX1 cX1_isAlike 4 1) (hR : Rt g x (some .boolean) (pB (pQ (nm (cv σ 1) ((cqF (cv σ 1) (σ 1 4) (σ 1 5)) i) = nm (cv σ 1) ((cqF (cv σ 1) (σ 1 4) (σ 1 5)) j)) σ))) (hV : WV (cv σ 1)) (hA : ccA (cv σ 1) (σ 1 4) (σ 1 5) (rdN (cv σ 1)).toNat σ) (hm : (m : Int) = nCt (cv σ 1) (σ 1 4) (σ 1 5) (rdN (cv σ 1)).toNat) (h60 : m ≤ 60) (hi0 : i < m) (hj0 : j < m) (hlen : ((nm (cv σ 1) ((cqF (cv σ 1) (σ 1 4) (σ 1 5)) i)).length : Int) = (nm (cv σ 1) ((cqF (cv σ 1) (σ 1 4) (σ 1 5)) j)).length) : ∀ (f k : Nat), (k : Int) ≤ (nm (cv σ 1) ((cqF (cv σ 1) (σ 1 4) (σ 1 5)) i)).length → ((nm (cv σ 1) ((cqF (cv σ 1) (σ 1 4) (σ 1 5)) i)).length : Int) - k < f → (∀ l : Int, 0 ≤ l → l < k → lrow (nm (cv σ 1) ((cqF (cv σ 1) (σ 1 4) (σ 1 5)) i)) l = lrow (nm (cv σ 1) ((cqF (cv σ 1) (σ 1 4) (σ 1 5)) j)) l) → Z g x 4 19 [(0, .ref (g.2.2.1 97)), (1, vI i), (2, vI j), (3, vI k)] [] σ := by
  have hi := cc_nm hV hA hm h60 hi0
  have hj := cc_nm hV hA hm h60 hj0
  intro f
  induction f with
  | zero => intro k h0 hk; exact absurd hk (by omega)
  | succ f ih =>
    intro k hk hf ha
    refine z_iload_n hO 3 dX1_isAlike_19 rfl ?_
    refine z_aload_n hO 0 dX1_isAlike_20 rfl ?_
    refine z_getR hO (100) fl_X1_18 rfl rfl dX1_isAlike_21 ?_
    refine z_iload_n hO 1 dX1_isAlike_24 rfl ?_
    refine z_iald hO rfl (by omega) (by decide) dX1_isAlike_25 (fun r25 => ?_)
    refine z_icmp_ge hO 60 dX1_isAlike_26 (by decide) (by omega) (by omega) (fun c26 => ?_) (fun c26 => ?_)
    ·
      have hkk : (k : Int) = (nm (cv σ 1) ((cqF (cv σ 1) (σ 1 4) (σ 1 5)) i)).length := by omega
      refine z_iconst hO dX1_isAlike_60 ?_
      exact z_retQT hO hR dX1_isAlike_61 (lrow_ext (by omega) (fun l l0 l1 => ha l l0 (by omega))) rfl
    ·
      refine z_aload_n hO 0 dX1_isAlike_29 rfl ?_
      refine z_getR hO (101) fl_X1_21 rfl rfl dX1_isAlike_30 ?_
      refine z_iload_n hO 1 dX1_isAlike_33 rfl ?_
      refine z_iconst hO dX1_isAlike_34 ?_
      refine z_imul hO dX1_isAlike_35 ?_
      refine z_iload_n hO 3 dX1_isAlike_36 rfl ?_
      refine z_iadd hO dX1_isAlike_37 ?_
      refine z_iald hO rfl (by omega) (by decide) dX1_isAlike_38 (fun r38 => ?_)
      refine z_aload_n hO 0 dX1_isAlike_39 rfl ?_
      refine z_getR hO (101) fl_X1_21 rfl rfl dX1_isAlike_40 ?_
      refine z_iload_n hO 2 dX1_isAlike_43 rfl ?_
      refine z_iconst hO dX1_isAlike_44 ?_
      refine z_imul hO dX1_isAlike_45 ?_
      refine z_iload_n hO 3 dX1_isAlike_46 rfl ?_
      refine z_iadd hO dX1_isAlike_47 ?_
      refine z_iald hO rfl (by omega) (by decide) dX1_isAlike_48 (fun r48 => ?_)
      refine z_icmp_eq hO 54 dX1_isAlike_49 (by decide) (by omega) (by omega) (fun c49 => ?_) (fun c49 => ?_)
      ·
        refine z_iinc hO (L' := [(3, _), (0, _), (1, _), (2, _)]) 3 dX1_isAlike_54 rfl (by decide) rfl ?_
        refine z_goto hO 19 dX1_isAlike_57 (by decide) ?_
        exact z_pick [1, 2, 3, 0] rfl (ih (k + 1) (by omega) (by omega) (fun l l0 l1 => by by_cases q : l = k; (rw [q, ← hi.2.2 k (by omega) (by omega), ← hj.2.2 k (by omega) (by omega)]; exact c49); exact ha l l0 (by omega)))
      ·
        refine z_iconst hO dX1_isAlike_52 ?_
        exact z_retQF hO hR dX1_isAlike_53 (fun z => by have y1 := hi.2.2 k (by omega) (by omega); have y2 := hj.2.2 k (by omega) (by omega); rw [z] at y1; omega) rfl

set_option maxHeartbeats 4000000 in
set_option maxRecDepth 100000 in
theorem t_X1_isAlike {g : G} {σ : Sg} {m i j : Nat} (hV : WV (cv σ 1)) (hA : ccA (cv σ 1) (σ 1 4) (σ 1 5) (rdN (cv σ 1)).toNat σ) (hm : (m : Int) = nCt (cv σ 1) (σ 1 4) (σ 1 5) (rdN (cv σ 1)).toNat) (h60 : m ≤ 60) (hi0 : i < m) (hj0 : j < m) : MM g mX1_isAlike [.ref (g.2.2.1 97), vI i, vI j] σ (pB (pQ (nm (cv σ 1) ((cqF (cv σ 1) (σ 1 4) (σ 1 5)) i) = nm (cv σ 1) ((cqF (cv σ 1) (σ 1 4) (σ 1 5)) j)) σ)) := by
  refine mm_of rfl (by decide) rfl rfl (Nat.le_of_ble_eq_true rfl) (fun x hO hR => ?_)
  have hi := cc_nm hV hA hm h60 hi0
  have hj := cc_nm hV hA hm h60 hj0
  refine z_aload_n hO 0 dX1_isAlike_0 rfl ?_
  refine z_getR hO (100) fl_X1_18 rfl rfl dX1_isAlike_1 ?_
  refine z_iload_n hO 1 dX1_isAlike_4 rfl ?_
  refine z_iald hO rfl (by omega) (by decide) dX1_isAlike_5 (fun r5 => ?_)
  refine z_aload_n hO 0 dX1_isAlike_6 rfl ?_
  refine z_getR hO (100) fl_X1_18 rfl rfl dX1_isAlike_7 ?_
  refine z_iload_n hO 2 dX1_isAlike_10 rfl ?_
  refine z_iald hO rfl (by omega) (by decide) dX1_isAlike_11 (fun r11 => ?_)
  refine z_icmp_eq hO 17 dX1_isAlike_12 (by decide) (by omega) (by omega) (fun c12 => ?_) (fun c12 => ?_)
  ·
    refine z_iconst hO dX1_isAlike_17 ?_
    refine z_istore_n hO (L' := [(3, _), (0, _), (1, _), (2, _)]) dX1_isAlike_18 (by decide) rfl ?_
    exact z_pick [1, 2, 3, 0] rfl (lp_isAlike hO hR hV hA hm h60 hi0 hj0 (by omega) 5 0 (by omega) (by omega) (fun l l0 l1 => absurd l1 (by omega)))
  ·
    refine z_iconst hO dX1_isAlike_15 ?_
    exact z_retQF hO hR dX1_isAlike_16 (fun z => by have := congrArg List.length z; omega) rfl

set_option maxHeartbeats 4000000 in
set_option maxRecDepth 100000 in
theorem lp_alikeTo {g : G} {x : Cx} {σ : Sg} {m i : Nat} (hO : Ok g x RX1 cX1_alikeTo 5 2) (hR : Rt g x (some .long) (pL (pE ((setF (fun j => dec (nm (cv σ 1) ((cqF (cv σ 1) (σ 1 4) (σ 1 5)) i) = nm (cv σ 1) ((cqF (cv σ 1) (σ 1 4) (σ 1 5)) j))) m : Nat) : Int) σ))) (hV : WV (cv σ 1)) (hA : ccA (cv σ 1) (σ 1 4) (σ 1 5) (rdN (cv σ 1)).toNat σ) (hm : (m : Int) = nCt (cv σ 1) (σ 1 4) (σ 1 5) (rdN (cv σ 1)).toNat) (h60 : m ≤ 60) (hi0 : i < m) : ∀ (f j : Nat), j ≤ m → m - j < f → Z g x 5 5 [(0, .ref (g.2.2.1 97)), (1, vI i), (2, vL ((setF (fun j => dec (nm (cv σ 1) ((cqF (cv σ 1) (σ 1 4) (σ 1 5)) i) = nm (cv σ 1) ((cqF (cv σ 1) (σ 1 4) (σ 1 5)) j))) j : Nat) : Int)), (4, vI j)] [] σ := by
  have h97 := hA.1
  intro f
  induction f with
  | zero => intro j h0 hk; exact absurd hk (by omega)
  | succ f ih =>
    intro j hj hf
    refine z_iload hO 3 dX1_alikeTo_5 rfl ?_
    refine z_aload_n hO 0 dX1_alikeTo_7 rfl ?_
    refine z_getI hO 1 fl_X1_35 rfl rfl rfl dX1_alikeTo_8 (fun r8 => ?_)
    refine z_icmp_ge hO 37 dX1_alikeTo_11 (by decide) (by omega) (by omega) (fun c11 => ?_) (fun c11 => ?_)
    ·
      have hjm : j = m := by omega
      refine z_lload_n hO 2 dX1_alikeTo_37 rfl ?_
      exact z_retEL hO hR dX1_alikeTo_38 (by rw [hjm]) rfl
    ·
      have hlt := setF_lt (fun j => dec (nm (cv σ 1) ((cqF (cv σ 1) (σ 1 4) (σ 1 5)) i) = nm (cv σ 1) ((cqF (cv σ 1) (σ 1 4) (σ 1 5)) j))) j
      refine z_aload_n hO 0 dX1_alikeTo_14 rfl ?_
      refine z_iload_n hO 1 dX1_alikeTo_15 rfl ?_
      refine z_iload hO 3 dX1_alikeTo_16 rfl ?_
      refine z_cvQ hO (t_X1_isAlike hV hA hm h60 hi0 (by omega)) cv_X1_84 rfl rfl rfl rfl (by decide) (Nat.le_of_ble_eq_true rfl) dX1_alikeTo_18 (fun c18 => ?_) (fun c18 => ?_)
      ·
        refine z_if_eq hO 31 dX1_alikeTo_21 (by decide) (by decide) (fun c21 => absurd c21 (by omega)) (fun c21 => ?_)
        refine z_lload_n hO 2 dX1_alikeTo_24 rfl ?_
        refine z_lconst hO 1 dX1_alikeTo_25 (by decide) ?_
        refine z_iload hO 3 dX1_alikeTo_26 rfl ?_
        refine z_lshl hO (((2 ^ j : Nat) : Int)) dX1_alikeTo_28 (bl_shl1 j (by omega)) ?_
        refine z_lor hO (((setF (fun j => dec (nm (cv σ 1) ((cqF (cv σ 1) (σ 1 4) (σ 1 5)) i) = nm (cv σ 1) ((cqF (cv σ 1) (σ 1 4) (σ 1 5)) j))) (j + 1) : Nat) : Int)) dX1_alikeTo_29 (by rw [bl_or, bl_addbit hlt, setF_s, if_pos (dec_iff.mpr c18)]) ?_
        refine z_lstore_n hO (L' := [(2, _), (0, _), (1, _), (4, _)]) dX1_alikeTo_30 (by decide) rfl ?_
        refine z_iinc hO (L' := [(4, _), (2, _), (0, _), (1, _)]) 3 dX1_alikeTo_31 rfl (by decide) rfl ?_
        refine z_goto hO 5 dX1_alikeTo_34 (by decide) ?_
        exact z_pick [2, 3, 1, 0] rfl (ih (j + 1) (by omega) (by omega))
      ·
        refine z_if_eq hO 31 dX1_alikeTo_21 (by decide) (by decide) (fun c21 => ?_) (fun c21 => absurd c21 (by omega))
        refine z_iinc hO (L' := [(4, _), (0, _), (1, _), (2, _)]) 3 dX1_alikeTo_31 rfl (by decide) rfl ?_
        refine z_goto hO 5 dX1_alikeTo_34 (by decide) ?_
        have hse : setF (fun j => dec (nm (cv σ 1) ((cqF (cv σ 1) (σ 1 4) (σ 1 5)) i) = nm (cv σ 1) ((cqF (cv σ 1) (σ 1 4) (σ 1 5)) j))) (j + 1) = setF (fun j => dec (nm (cv σ 1) ((cqF (cv σ 1) (σ 1 4) (σ 1 5)) i) = nm (cv σ 1) ((cqF (cv σ 1) (σ 1 4) (σ 1 5)) j))) j := by rw [setF_s, if_neg (by rw [dec_not.mpr c18]; decide)]; rfl
        rw [← hse]
        exact z_pick [1, 2, 3, 0] rfl (ih (j + 1) (by omega) (by omega))

set_option maxHeartbeats 4000000 in
set_option maxRecDepth 100000 in
theorem t_X1_alikeTo {g : G} {σ : Sg} {m i : Nat} (hV : WV (cv σ 1)) (hA : ccA (cv σ 1) (σ 1 4) (σ 1 5) (rdN (cv σ 1)).toNat σ) (hm : (m : Int) = nCt (cv σ 1) (σ 1 4) (σ 1 5) (rdN (cv σ 1)).toNat) (h60 : m ≤ 60) (hi0 : i < m) : MM g mX1_alikeTo [.ref (g.2.2.1 97), vI i] σ (pL (pE (((setF (fun j => dec (nm (cv σ 1) ((cqF (cv σ 1) (σ 1 4) (σ 1 5)) i) = nm (cv σ 1) ((cqF (cv σ 1) (σ 1 4) (σ 1 5)) j))) m : Nat) : Int)) σ)) := by
  refine mm_of rfl (by decide) rfl rfl (Nat.le_of_ble_eq_true rfl) (fun x hO hR => ?_)
  refine z_lconst hO 0 dX1_alikeTo_0 (by decide) ?_
  refine z_lstore_n hO (L' := [(2, _), (0, _), (1, _)]) dX1_alikeTo_1 (by decide) rfl ?_
  refine z_iconst hO dX1_alikeTo_2 ?_
  refine z_istore hO (L' := [(4, _), (2, _), (0, _), (1, _)]) dX1_alikeTo_3 (by decide) rfl ?_
  exact z_pick [2, 3, 1, 0] rfl (lp_alikeTo hO hR hV hA hm h60 hi0 61 0 (by omega) (by omega))

set_option maxHeartbeats 4000000 in
set_option maxRecDepth 100000 in
theorem lp_takingLike {g : G} {x : Cx} {σ : Sg} {m t : Nat} {sl : Int} (hO : Ok g x RX1 cX1_takingLike 6 1) (hR : Rt g x (some .long) (pL (pE ((tkg (cv σ 1) (σ 1 4) (σ 1 5) (rdN (cv σ 1)).toNat sl (pk (cv σ 1) ((cqF (cv σ 1) (σ 1 4) (σ 1 5)) t) sl) : Nat) : Int) σ))) (hV : WV (cv σ 1)) (hA : ccA (cv σ 1) (σ 1 4) (σ 1 5) (rdN (cv σ 1)).toNat σ) (hm : (m : Int) = nCt (cv σ 1) (σ 1 4) (σ 1 5) (rdN (cv σ 1)).toNat) (h60 : m ≤ 60) (ht : t < m) (hs0 : 0 ≤ sl) (hs1 : sl < (cv σ 1).1) : ∀ (f k : Nat), k ≤ 4 → 4 - k < f → (k : Int) ≤ pk (cv σ 1) ((cqF (cv σ 1) (σ 1 4) (σ 1 5)) t) sl → Z g x 6 2 [(0, .ref (g.2.2.1 97)), (1, vI t), (2, vI sl), (3, vI k)] [] σ := by
  have n8 := hV.2.1
  have hpk := pk_WP hV ((cqF (cv σ 1) (σ 1 4) (σ 1 5)) t) sl hs0 hs1
  have hc5 := (hV.2.2 sl hs0 hs1).2.1
  intro f
  induction f with
  | zero => intro k h0 hk; exact absurd hk (by omega)
  | succ f ih =>
    intro k hk hf hkp
    refine z_iload_n hO 3 dX1_takingLike_2 rfl ?_
    refine z_iconst hO dX1_takingLike_3 ?_
    refine z_icmp_ge hO 39 dX1_takingLike_4 (by decide) (by omega) (by decide) (fun c4 => ?_) (fun c4 => ?_)
    ·
      exfalso; omega
    ·
      have hx := (hA.2.1 sl k (by omega) (by omega) (by omega) (by omega)).2
      have hl := tkg_lt (cv σ 1) (σ 1 4) (σ 1 5) (rdN (cv σ 1)).toNat sl k
      have hl2 : (tkg (cv σ 1) (σ 1 4) (σ 1 5) (rdN (cv σ 1)).toNat sl k) < 1152921504606846976 := Nat.lt_of_lt_of_le hl (by rw [show (1152921504606846976 : Nat) = 2 ^ 60 from rfl]; exact Nat.pow_le_pow_right (by decide) (by omega))
      have hbt := tkg_in hV (K := (σ 1 4)) (S := (σ 1 5)) (i := sl) (k := k) (t := t) (by omega) (by omega)
      have hte := Nat.testBit_eq_decide_div_mod_eq (x := (tkg (cv σ 1) (σ 1 4) (σ 1 5) (rdN (cv σ 1)).toNat sl k)) (i := t)
      refine z_aload_n hO 0 dX1_takingLike_7 rfl ?_
      refine z_getR hO (102) fl_X1_24 rfl rfl dX1_takingLike_8 ?_
      refine z_iload_n hO 2 dX1_takingLike_11 rfl ?_
      refine z_iconst hO dX1_takingLike_12 ?_
      refine z_imul hO dX1_takingLike_13 ?_
      refine z_iload_n hO 3 dX1_takingLike_14 rfl ?_
      refine z_iadd hO dX1_takingLike_15 ?_
      refine z_lald hO rfl (by omega) (by decide) dX1_takingLike_16 (fun r16 => ?_)
      rw [hx] at r16 ⊢
      refine z_lstore hO (L' := [(4, _), (0, _), (1, _), (2, _), (3, _)]) dX1_takingLike_17 (by decide) rfl ?_
      refine z_lload hO 0 dX1_takingLike_19 rfl ?_
      refine z_iload_n hO 2 dX1_takingLike_21 rfl ?_
      refine z_lushr hO ((((tkg (cv σ 1) (σ 1 4) (σ 1 5) (rdN (cv σ 1)).toNat sl k) / 2 ^ t : Nat) : Int)) dX1_takingLike_22 (bl_ushr (by omega) (by omega)) ?_
      refine z_lconst hO 1 dX1_takingLike_23 (by decide) ?_
      refine z_land hO ((((tkg (cv σ 1) (σ 1 4) (σ 1 5) (rdN (cv σ 1)).toNat sl k) / 2 ^ t % 2 : Nat) : Int)) dX1_takingLike_24 (by rw [show ((1 : Int)) = ((1 : Nat) : Int) from rfl, bl_and, Nat.and_one_is_mod]) ?_
      refine z_lconst hO 0 dX1_takingLike_25 (by decide) ?_
      refine z_lcmp hO dX1_takingLike_26 (by omega) (by omega) (fun c26 => ?_) (fun c26 => ?_) (fun c26 => ?_)
      ·
        refine z_if_eq hO 33 dX1_takingLike_27 (by decide) (by decide) (fun c27 => absurd c27 (by omega)) (fun c27 => ?_)
        refine z_lload hO 0 dX1_takingLike_30 rfl ?_
        exact z_retEL hO hR dX1_takingLike_32 (by have heq : pk (cv σ 1) ((cqF (cv σ 1) (σ 1 4) (σ 1 5)) t) sl = k := (hbt.mp (by rw [hte]; exact decide_eq_true (by omega))).2; rw [heq]) rfl
      ·
        refine z_if_eq hO 33 dX1_takingLike_27 (by decide) (by decide) (fun c27 => ?_) (fun c27 => absurd c27 (by omega))
        refine z_iinc hO (L' := [(3, _), (4, _), (0, _), (1, _), (2, _)]) 4 dX1_takingLike_33 rfl (by decide) rfl ?_
        refine z_goto hO 2 dX1_takingLike_36 (by decide) ?_
        exact z_pick [2, 3, 4, 0] rfl (ih (k + 1) (by omega) (by omega) (by have hne : pk (cv σ 1) ((cqF (cv σ 1) (σ 1 4) (σ 1 5)) t) sl ≠ k := (fun z => by rw [hbt.mpr ⟨by omega, z⟩] at hte; have := of_decide_eq_true hte.symm; omega); omega))
      ·
        exfalso; omega

set_option maxHeartbeats 4000000 in
set_option maxRecDepth 100000 in
theorem t_X1_takingLike {g : G} {σ : Sg} {m t : Nat} {sl : Int} (hV : WV (cv σ 1)) (hA : ccA (cv σ 1) (σ 1 4) (σ 1 5) (rdN (cv σ 1)).toNat σ) (hm : (m : Int) = nCt (cv σ 1) (σ 1 4) (σ 1 5) (rdN (cv σ 1)).toNat) (h60 : m ≤ 60) (ht : t < m) (hs0 : 0 ≤ sl) (hs1 : sl < (cv σ 1).1) : MM g mX1_takingLike [.ref (g.2.2.1 97), vI t, vI sl] σ (pL (pE (((tkg (cv σ 1) (σ 1 4) (σ 1 5) (rdN (cv σ 1)).toNat sl (pk (cv σ 1) ((cqF (cv σ 1) (σ 1 4) (σ 1 5)) t) sl) : Nat) : Int)) σ)) := by
  refine mm_of rfl (by decide) rfl rfl (Nat.le_of_ble_eq_true rfl) (fun x hO hR => ?_)
  refine z_iconst hO dX1_takingLike_0 ?_
  refine z_istore_n hO (L' := [(3, _), (0, _), (1, _), (2, _)]) dX1_takingLike_1 (by decide) rfl ?_
  exact z_pick [1, 2, 3, 0] rfl (lp_takingLike hO hR hV hA hm h60 ht hs0 hs1 5 0 (by omega) (by omega) (pk_WP hV ((cqF (cv σ 1) (σ 1 4) (σ 1 5)) t) sl hs0 hs1).1)
