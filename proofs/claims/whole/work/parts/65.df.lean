theorem beg_r (σ : Sg) : begS σ 90 0 = 0 ∧ begS σ 91 0 = 0 ∧ begS σ 92 0 = 0 ∧ begS σ 93 0 = 0 ∧ begS σ 94 0 = 0 ∧ begS σ 95 0 = 1 := by
  unfold begS; refine ⟨?_, ?_, ?_, ?_, ?_, ?_⟩ <;> simp (disch := omega) only [up_ne, up_eq]
theorem WI_beg {V : Hv} {σ : Sg} (hV : WV V) : WI V (begS σ) 0 := by
  have h0 := hV.1
  have x8 : begS σ 88 8 = 0 := by unfold begS; simp (disch := omega) only [up_ne, up_eq]
  have x89 : begS σ 89 0 = 0 := by unfold begS; simp (disch := omega) only [up_ne, up_eq]
  refine ⟨by omega, ?_, ?_, ?_⟩
  · rw [x8]
    refine ⟨fun e e0 e1 => absurd e1 (by omega), fun e he => ?_⟩
    obtain rfl : e = 0 := by omega
    exact ⟨(0, 0, 0, []), rfl, ⟨(beg_r σ).1, (beg_r σ).2.1, (beg_r σ).2.2.1, (beg_r σ).2.2.2.1, fun j hj => absurd hj (Nat.not_lt_zero j)⟩, (beg_r σ).2.2.2.2.1, (beg_r σ).2.2.2.2.2⟩
  · rw [x8, x89]; intro _ z; have := hV.2.2 0 (by omega) z; omega
  · rw [x8]; unfold psn
    rw [if_neg (by omega)]
    split
    · rw [x89]; show 0 = (0 * _ + 0) * _; rw [Int.zero_mul]; omega
    · rw [show V.1.toNat = 0 by omega]; rfl
theorem Fm_beg {σ τ : Sg} (h : Fm fWk σ τ) : Fm fWk σ (begS τ) := by unfold begS; exact (((((((h.up rfl).up rfl).up rfl).up rfl).up rfl).up rfl).up rfl).up rfl
/-- the walk along given candidates -/
def IS (V : Hv) (p : Int → Int) (τ : Sg) (d : Nat) : Prop := ∃ s, aD V p d = some s ∧ SA τ d s ∧ τ 94 d = sumC V p d ∧ τ 95 d = prW V p d
theorem IS_b {V : Hv} {p : Int → Int} {τ : Sg} {d : Nat} (hV : WV V) (hp : WP V p) (h : IS V p τ d) (h1 : (d : Int) ≤ V.1) : 0 ≤ τ 93 d ∧ (0 ≤ τ 91 d ∧ τ 91 d ≤ 999000) ∧ (0 ≤ τ 92 d ∧ τ 92 d ≤ 999) ∧ (0 ≤ τ 94 d ∧ τ 94 d ≤ 100) ∧ (0 ≤ τ 95 d ∧ τ 95 d ≤ 10000000000) := by
  obtain ⟨s, s1, s2, s3, s4⟩ := h
  have h8 := hV.2.1
  have ai := aD_AI hV hp d s (by omega) s1
  have r1 := sumC_r hV hp d (by omega)
  have r2 := prW_r hV hp d (by omega)
  have r3 := pow10_le (m := d) (by omega)
  obtain ⟨b0, b1, b2, b3, _⟩ := s2
  have := ai.r
  have := ai.1
  refine ⟨by omega, by omega, by omega, by omega, by omega⟩
theorem IS_0 {V : Hv} {p : Int → Int} {τ : Sg} : IS V p (begS τ) 0 := by
  exact ⟨(0, 0, 0, []), rfl, ⟨(beg_r τ).1, (beg_r τ).2.1, (beg_r τ).2.2.1, (beg_r τ).2.2.2.1, fun j hj => absurd hj (Nat.not_lt_zero j)⟩, (beg_r τ).2.2.2.2.1, (beg_r τ).2.2.2.2.2⟩
theorem IS_s {V : Hv} {p : Int → Int} {τ : Sg} {d : Nat} (hV : WV V) (hp : WP V p) (h : IS V p τ d) (h1 : (d : Int) < V.1) (h4 : τ 4 (d * 4 + p d) = V.2.2.2 d (p d)) : (entOk τ d (V.2.2.1 d (p d)) → IS V p (entR τ d (p d) (V.2.2.1 d (p d))) (d + 1)) ∧ (¬ entOk τ d (V.2.2.1 d (p d)) → (sdP V p).2 = false) := by
  obtain ⟨s, s1, s2, s3, s4⟩ := h
  have a := hp d (by omega) h1
  have b := (hV.2.2 d (by omega) h1).2.2 (p d) a.1 a.2
  have hw : 0 ≤ V.2.2.1 d (p d) ∧ V.2.2.1 d (p d) ≤ 31 := by omega
  have e := entR_SA (k := p d) s2 hw
  constructor
  · intro ok
    obtain ⟨t, t1, t2⟩ := e.1 ok
    have ec : ((d + 1 : Nat) : Int) = (d : Int) + 1 := by omega
    refine ⟨t, by rw [aD_s, s1]; exact t1, by rw [ec]; exact t2, ?_, ?_⟩
    · rw [ec, entR_9x hw (by omega), entS_94, sumC_s, s3, h4]
    · rw [ec, entR_9x hw (by omega), entS_95, prW_s, s4, h4]
  · intro no
    have n := e.2 no
    have e0 : aD V p (d + 1) = none := by rw [aD_s, s1]; exact n
    have z := aD_sd hV hp
    rw [aD_none e0 V.1.toNat (by omega)] at z
    change none = _ at z
    split at z
    · cases z
    · rename_i q; exact Bool.not_eq_true _ ▸ q
theorem IS_n {V : Hv} {p : Int → Int} {τ : Sg} (hV : WV V) (hp : WP V p) (h : IS V p τ V.1.toNat) : (((τ 90 V.1 ≠ 0 ∧ τ 90 V.1 ≠ 5) ∧ τ 93 V.1 < 4) → (sdP V p).2 = true ∧ rowIs (finS τ V.1 96) (sdP V p).1 ∧ finS τ V.1 88 10 = (sdP V p).1.length) ∧ (¬ ((τ 90 V.1 ≠ 0 ∧ τ 90 V.1 ≠ 5) ∧ τ 93 V.1 < 4) → (sdP V p).2 = false) := by
  obtain ⟨s, s1, s2, s3, s4⟩ := h
  have h0 := hV.1
  rw [show ((V.1.toNat : Nat) : Int) = V.1 by omega] at s2
  obtain ⟨b0, b1, b2, b3, b6⟩ := s2
  have z := aD_sd hV hp
  rw [s1] at z
  change aF s = _ at z
  constructor
  · intro c
    have e2 : aF s = some (s.2.2.2 ++ [s.2.1 + s.2.2.1]) := by unfold aF; rw [b0, b3] at c; rw [if_pos c]
    rw [e2] at z
    split at z
    · rename_i q
      refine ⟨q, ?_, ?_⟩
      · rw [← Option.some.inj z]
        refine rowIs_snoc (r := τ 96) b6 (fun j hj => ?_) ?_
        · unfold finS; rw [up_ne (by omega), up_ne (by omega), up_ne (by omega), up_nk (by omega)]
        · unfold finS; rw [up_ne (by omega), up_ne (by omega), up_ne (by omega), ← b3, up_eq, b1, b2]
      · rw [← Option.some.inj z]; unfold finS; rw [up_nk (by omega), up_nk (by omega), up_eq, b3, List.length_append, List.length_singleton]; omega
    · cases z
  · intro c
    have e2 : aF s = none := by unfold aF; rw [b0, b3] at c; rw [if_neg c]
    rw [e2] at z
    split at z
    · cases z
    · rename_i q; exact Bool.not_eq_true _ ▸ q

set_option maxHeartbeats 4000000 in
set_option maxRecDepth 100000 in
theorem lp_wIsSaid {g : G} {x : Cx} {σ : Sg} (hO : Ok g x RX7 cX7_isSaid 3 3) (hR : Rt g x (some .boolean) (pB (fun b σ' => b = (sdP (cv σ 1) (σ 86)).2 ∧ (b = true → rowIs (σ' 96) (sdP (cv σ 1) (σ 86)).1 ∧ σ' 88 10 = (sdP (cv σ 1) (σ 86)).1.length) ∧ Fm fWk σ σ'))) (hV : WV (cv σ 1)) (hp : WP (cv σ 1) (σ 86)) : ∀ (f d : Nat) (τ : Sg), (d : Int) ≤ (cv σ 1).1 → (cv σ 1).1 - d < f → IS (cv σ 1) (σ 86) τ d → Fm fWk σ τ → Z g x 3 6 [(0, .ref (g.2.2.1 88)), (1, .ref (g.2.2.1 86)), (2, vI d)] [] τ := by
  have hn8 := hV.2.1
  have hn0 := hV.1
  have hn : (cv σ 1).1 = σ 1 3 := rfl
  intro f
  induction f with
  | zero => intro d τ hl h0; exact absurd h0 (by omega)
  | succ f ih =>
    intro d τ hd1 hf hI hFm
    have hb := IS_b hV hp hI hd1
    have e1 : τ 1 = σ 1 := hFm.row 1 (fun _ => rfl)
    have e3 : τ 3 = σ 3 := hFm.row 3 (fun _ => rfl)
    have e4 : τ 4 = σ 4 := hFm.row 4 (fun _ => rfl)
    have e86 : τ 86 = σ 86 := hFm.row 86 (fun _ => rfl)
    refine z_iload_n hO 2 dX7_isSaid_6 rfl ?_
    refine z_aload_n hO 0 dX7_isSaid_7 rfl ?_
    refine z_getR hO (1) fl_X7_37 rfl rfl dX7_isSaid_8 ?_
    refine z_getI hO 3 fl_X7_46 rfl rfl rfl dX7_isSaid_11 (fun r11 => ?_)
    try simp (disch := omega) only [fl_row_ne, fl_ne, up_row_ne, up_ne, up_eq, up_nk, up_up, up_self, ne_eq, Nat.reduceEqDiff, Int.reduceEq, reduceCtorEq, not_false_eq_true, not_true_eq_false, e1, e86] at r11 ⊢
    refine z_icmp_ge hO 36 dX7_isSaid_14 (by decide) (by omega) (by omega) (fun c14 => ?_) (fun c14 => ?_)
    ·
      have hd : (d : Int) = σ 1 3 := by omega
      have hdn : d = (cv σ 1).1.toNat := by omega
      refine z_aload_n hO 0 dX7_isSaid_36 rfl ?_
      refine z_aload_n hO 0 dX7_isSaid_37 rfl ?_
      refine z_getR hO (1) fl_X7_37 rfl rfl dX7_isSaid_38 ?_
      refine z_getI hO 3 fl_X7_46 rfl rfl rfl dX7_isSaid_41 (fun r41 => ?_)
      try simp (disch := omega) only [fl_row_ne, fl_ne, up_row_ne, up_ne, up_eq, up_nk, up_up, up_self, ne_eq, Nat.reduceEqDiff, Int.reduceEq, reduceCtorEq, not_false_eq_true, not_true_eq_false, e1, e86] at r41 ⊢
      refine z_cvB hO (t_X7_finish (by omega) (by rw [← hd]; exact hb.1) (by rw [← hd]; exact hb.2.1) (by rw [← hd]; exact hb.2.2.1)) cv_X7_51 rfl rfl rfl rfl (by decide) (Nat.le_of_ble_eq_true rfl) dX7_isSaid_44 (fun s44 p44 => ?_) (fun s44 p44 => ?_)
      ·
        obtain ⟨k44, e44⟩ := p44.1 rfl
        subst e44
        have hz := (IS_n hV hp (by rw [← hdn]; exact hI)).1 k44
        exact z_retT hO hR dX7_isSaid_47 (by first | exact ⟨hz.1.symm, fun _ => hz.2, Fm_finS hFm⟩ | exact ⟨hz.symm, fun z => absurd z (by decide), hFm⟩)
      ·
        obtain ⟨k44, e44⟩ := p44.2 rfl
        rw [e44]
        have hz := (IS_n hV hp (by rw [← hdn]; exact hI)).2 k44
        exact z_retF hO hR dX7_isSaid_47 (by first | exact ⟨hz.1.symm, fun _ => hz.2, Fm_finS hFm⟩ | exact ⟨hz.symm, fun z => absurd z (by decide), hFm⟩)
    ·
      have ha := hp d (by omega) (by omega)
      have hb5 := hV.2.2 d (by omega) (by omega)
      have hc5 := hb5.2.2 (σ 86 d) ha.1 ha.2
      have ew : τ 3 (d * 4 + σ 86 d) = (cv σ 1).2.2.1 d (σ 86 d) := by rw [e3]; rfl
      have eq5 : τ 4 (d * 4 + σ 86 d) = (cv σ 1).2.2.2 d (σ 86 d) := by rw [e4]; rfl
      have hs := IS_s hV hp hI (by omega) eq5
      refine z_aload_n hO 0 dX7_isSaid_17 rfl ?_
      refine z_iload_n hO 2 dX7_isSaid_18 rfl ?_
      refine z_aload_n hO 1 dX7_isSaid_19 rfl ?_
      refine z_iload_n hO 2 dX7_isSaid_20 rfl ?_
      refine z_iald hO rfl (by omega) (by decide) dX7_isSaid_21 (fun r21 => ?_)
      try simp (disch := omega) only [fl_row_ne, fl_ne, up_row_ne, up_ne, up_eq, up_nk, up_up, up_self, ne_eq, Nat.reduceEqDiff, Int.reduceEq, reduceCtorEq, not_false_eq_true, not_true_eq_false, e1, e86] at r21 ⊢
      refine z_cvB hO (t_X7_enter (by omega) (by omega) (by rw [ew]; omega) (by rw [eq5]; omega) hb.1 hb.2.1 hb.2.2.1 hb.2.2.2.1 hb.2.2.2.2) cv_X7_58 rfl rfl rfl rfl (by decide) (Nat.le_of_ble_eq_true rfl) dX7_isSaid_22 (fun s22 p22 => ?_) (fun s22 p22 => ?_)
      ·
        rw [ew] at p22
        obtain ⟨k22, e22⟩ := p22.1 rfl
        subst e22
        refine z_if_ne hO 30 dX7_isSaid_25 (by decide) (by decide) (fun c25 => ?_) (fun c25 => absurd c25 (by omega))
        refine z_iinc hO (L' := [(2, _), (0, _), (1, _)]) 2 dX7_isSaid_30 rfl (by decide) rfl ?_
        refine z_goto hO 6 dX7_isSaid_33 (by decide) ?_
        exact z_pick [1, 2, 0] rfl (ih (d + 1) _ (by omega) (by omega) (hs.1 k22) (Fm_entR hFm (by omega)))
      ·
        rw [ew] at p22
        obtain ⟨k22, e22⟩ := p22.2 rfl
        subst e22
        refine z_if_ne hO 30 dX7_isSaid_25 (by decide) (by decide) (fun c25 => absurd c25 (by omega)) (fun c25 => ?_)
        refine z_iconst hO dX7_isSaid_28 ?_
        exact z_retF hO hR dX7_isSaid_29 (⟨(hs.2 k22).symm, fun z => absurd z (by decide), Fm_entS hFm⟩)

set_option maxHeartbeats 4000000 in
set_option maxRecDepth 100000 in
theorem t_X7_isSaid {g : G} {σ : Sg} (hV : WV (cv σ 1)) (hp : WP (cv σ 1) (σ 86)) : MM g mX7_isSaid [.ref (g.2.2.1 88), .ref (g.2.2.1 86)] σ (pB (fun b σ' => b = (sdP (cv σ 1) (σ 86)).2 ∧ (b = true → rowIs (σ' 96) (sdP (cv σ 1) (σ 86)).1 ∧ σ' 88 10 = (sdP (cv σ 1) (σ 86)).1.length) ∧ Fm fWk σ σ')) := by
  refine mm_of rfl (by decide) rfl rfl (Nat.le_of_ble_eq_true rfl) (fun x hO hR => ?_)
  refine z_aload_n hO 0 dX7_isSaid_0 rfl ?_
  refine z_cvV hO (t_X7_begin) cv_X7_62 rfl rfl rfl rfl (by decide) (Nat.le_of_ble_eq_true rfl) dX7_isSaid_1 (fun s1 p1 => ?_)
  subst p1
  refine z_iconst hO dX7_isSaid_4 ?_
  refine z_istore_n hO (L' := [(2, _), (0, _), (1, _)]) dX7_isSaid_5 (by decide) rfl ?_
  exact z_pick [1, 2, 0] rfl (lp_wIsSaid hO hR hV hp 9 0 _ hV.1 (by have := hV.2.1; omega) IS_0 (Fm_beg Fm.rf))
