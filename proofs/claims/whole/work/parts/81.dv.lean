theorem setF_bit (p : Nat → Bool) (n x : Nat) : (setF p n).testBit x = (decide (x < n) && p x) := by
  induction n with
  | zero => rw [show setF p 0 = 0 from rfl, Nat.zero_testBit]; simp
  | succ n ih =>
    have hl := setF_lt p n
    rw [setF_s]
    by_cases h : p n = true
    · rw [if_pos h, ← bl_addbit hl, Nat.testBit_or, ih, Nat.testBit_two_pow]
      by_cases q : n = x
      · subst q; simp [h]
      · simp only [q, decide_false, Bool.or_false]
        congr 1; apply decide_eq_decide.mpr; omega
    · rw [if_neg h, Nat.add_zero, ih]
      by_cases q : n = x
      · subst q; simp [h]
      · congr 1; apply decide_eq_decide.mpr; omega
theorem setF_or {p q : Nat → Bool} {n w : Nat} (hw : w < n) (h : ∀ x, x < n → q x = (p x || decide (x = w))) : setF p n ||| 2 ^ w = setF q n := by
  apply Nat.eq_of_testBit_eq; intro x
  rw [Nat.testBit_or, setF_bit, setF_bit, Nat.testBit_two_pow]
  by_cases hx : x < n
  · rw [h x hx]; simp only [hx, decide_true, Bool.true_and]
    congr 1; apply decide_eq_decide.mpr; omega
  · have : ¬ w = x := by omega
    simp [hx, this]
theorem hvn_pos {V : Hv} {K S : Int} (m : Nat) (i w : Int) : 0 < hvn V K S m i w ↔ ∃ q : Nat, q < m ∧ ctd V K S q = true ∧ V.2.2.1 i (pk V q i) = w := by
  induction m with
  | zero => exact ⟨fun h => absurd h (by show ¬ (0 : Int) < 0; decide), fun ⟨q, h, _⟩ => absurd h (Nat.not_lt_zero q)⟩
  | succ m ih =>
    have r := hvn_r V K S m i w
    rw [hvn_s]
    by_cases h : ctd V K S m = true ∧ V.2.2.1 i (pk V m i) = w
    · rw [if_pos h]; exact ⟨fun _ => ⟨m, by omega, h⟩, fun _ => by omega⟩
    · rw [if_neg h, Int.add_zero, ih]
      constructor
      · rintro ⟨q, a, b⟩; exact ⟨q, by omega, b⟩
      · rintro ⟨q, a, b⟩
        by_cases e : q = m
        · subst e; exact absurd b h
        · exact ⟨q, by omega, b⟩
theorem tal_pos {V : Hv} {K S : Int} (m : Nat) (i k : Int) : 0 < tal V K S m i k ↔ ∃ q : Nat, q < m ∧ ctd V K S q = true ∧ (0 ≤ i ∧ i < V.1) ∧ pk V q i = k := by
  induction m with
  | zero => exact ⟨fun h => absurd h (by show ¬ (0 : Int) < 0; decide), fun ⟨q, h, _⟩ => absurd h (Nat.not_lt_zero q)⟩
  | succ m ih =>
    have r := tal_r V K S m i k
    rw [tal_s]
    by_cases h : ctd V K S m = true ∧ (0 ≤ i ∧ i < V.1) ∧ pk V m i = k
    · rw [if_pos h]; exact ⟨fun _ => ⟨m, by omega, h⟩, fun _ => by omega⟩
    · rw [if_neg h, Int.add_zero, ih]
      constructor
      · rintro ⟨q, a, b⟩; exact ⟨q, by omega, b⟩
      · rintro ⟨q, a, b⟩
        by_cases e : q = m
        · subst e; exact absurd b h
        · exact ⟨q, by omega, b⟩
/-- words of the first k candidates that are had -/
noncomputable def cwP (V : Hv) (K S : Int) (m : Nat) (s : Int) (k : Nat) : Nat → Bool := fun w => dec (∃ j : Int, 0 ≤ j ∧ j < k ∧ V.2.2.1 s j = (w : Int) ∧ 0 < tal V K S m s j)
theorem cwP_all {V : Hv} (hV : WV V) {K S : Int} {m : Nat} {s : Int} (h0 : 0 ≤ s) (h1 : s < V.1) {k : Nat} (hk : (k : Int) = V.2.1 s) : setF (cwP V K S m s k) 32 = setF (fun w => decide (0 < hvn V K S m s (w : Int))) 32 := by
  refine setF_congr 32 (fun w _ => ?_)
  have e : (∃ j : Int, 0 ≤ j ∧ j < k ∧ V.2.2.1 s j = (w : Int) ∧ 0 < tal V K S m s j) ↔ 0 < hvn V K S m s (w : Int) := by
    rw [hvn_pos]
    constructor
    · rintro ⟨j, _, _, a, b⟩
      obtain ⟨q, q1, q2, _, q4⟩ := (tal_pos m s j).mp b
      exact ⟨q, q1, q2, by rw [q4]; exact a⟩
    · rintro ⟨q, q1, q2, q3⟩
      have p := pk_WP hV q s h0 h1
      exact ⟨pk V q s, p.1, by rw [hk]; exact p.2, q3, (tal_pos m s _).mpr ⟨q, q1, q2, ⟨h0, h1⟩, rfl⟩⟩
  unfold cwP
  by_cases h : 0 < hvn V K S m s (w : Int)
  · rw [dec_iff.mpr (e.mpr h)]; simp [h]
  · rw [dec_not.mpr (fun z => h (e.mp z))]; simp [h]
theorem cwP_t {V : Hv} {K S : Int} {m : Nat} {s : Int} {k w : Nat} (hw : V.2.2.1 s k = (w : Int)) (ht : 0 < tal V K S m s k) : ∀ x, x < 32 → cwP V K S m s (k + 1) x = (cwP V K S m s k x || decide (x = w)) := by
  intro x _
  unfold cwP
  by_cases h : ∃ j : Int, 0 ≤ j ∧ j < k ∧ V.2.2.1 s j = (x : Int) ∧ 0 < tal V K S m s j
  · rw [dec_iff.mpr h, Bool.true_or]; obtain ⟨j, a, b, c⟩ := h; exact dec_iff.mpr ⟨j, a, by omega, c⟩
  · rw [dec_not.mpr h, Bool.false_or]
    by_cases q : x = w
    · subst q; rw [decide_eq_true rfl]; exact dec_iff.mpr ⟨k, by omega, by omega, hw, ht⟩
    · rw [decide_eq_false q]
      refine dec_not.mpr ?_
      rintro ⟨j, a, b, c, d⟩
      by_cases e : j = k
      · rw [e, hw] at c; omega
      · exact h ⟨j, a, by omega, c, d⟩
theorem cwP_f {V : Hv} {K S : Int} {m : Nat} {s : Int} {k : Nat} (ht : ¬ 0 < tal V K S m s k) : setF (cwP V K S m s (k + 1)) 32 = setF (cwP V K S m s k) 32 := by
  refine setF_congr 32 (fun x _ => ?_)
  unfold cwP
  by_cases h : ∃ j : Int, 0 ≤ j ∧ j < k ∧ V.2.2.1 s j = (x : Int) ∧ 0 < tal V K S m s j
  · rw [dec_iff.mpr h]; obtain ⟨j, a, b, c⟩ := h; exact dec_iff.mpr ⟨j, a, by omega, c⟩
  · rw [dec_not.mpr h]
    refine dec_not.mpr ?_
    rintro ⟨j, a, b, c, d⟩
    by_cases e : j = k
    · rw [e] at d; exact ht d
    · exact h ⟨j, a, by omega, c, d⟩
theorem cwP_0 {V : Hv} {K S : Int} {m : Nat} {s : Int} : setF (cwP V K S m s 0) 32 = 0 := by
  have h := setF_congr (p := cwP V K S m s 0) (q := fun _ => false) 32 (fun x _ => dec_not.mpr (fun ⟨j, a, b, _⟩ => absurd b (by omega)))
  rw [h]; decide
theorem nCt_ex {V : Hv} {K S k : Int} (m : Nat) (h0 : 0 ≤ k) (h1 : k < nCt V K S m) : ∃ q : Nat, q < m ∧ ctd V K S q = true ∧ nCt V K S q = k := by
  induction m with
  | zero => exact absurd h1 (by show ¬ k < 0; omega)
  | succ m ih =>
    by_cases h : ctd V K S m = true
    · rw [nCt_t h] at h1
      by_cases e : nCt V K S m = k
      · exact ⟨m, by omega, h, e⟩
      · obtain ⟨q, a, b⟩ := ih (by omega); exact ⟨q, by omega, b⟩
    · have h := Bool.not_eq_true _ ▸ h
      rw [nCt_f h] at h1
      obtain ⟨q, a, b⟩ := ih h1; exact ⟨q, by omega, b⟩

set_option maxHeartbeats 4000000 in
set_option maxRecDepth 100000 in
theorem lp_cwords {g : G} {x : Cx} {σ τ : Sg} {s : Int} {P : Int → Sg → Prop} (hO : Ok g x RX6 cX6_countedWords 6 6) (hR : Rt g x (some .long) (pL P)) (hV : WV (cv σ 1)) (hs : 0 ≤ s ∧ s < (cv σ 1).1) (ha : ccA (cv σ 1) (σ 1 4) (σ 1 5) (rdN (cv σ 1)).toNat τ) (e1 : τ 1 = σ 1) (e2 : τ 2 = σ 2) (e3 : τ 3 = σ 3) (hP : P ((setF (fun w => decide (0 < hvn (cv σ 1) (σ 1 4) (σ 1 5) (rdN (cv σ 1)).toNat s (w : Int))) 32 : Nat) : Int) τ) : ∀ (f k : Nat), (k : Int) ≤ σ 2 s → σ 2 s - k < f → Z g x 6 9 [(0, .ref (g.2.2.1 83)), (1, vI s), (2, vL ((setF (cwP (cv σ 1) (σ 1 4) (σ 1 5) (rdN (cv σ 1)).toNat s k) 32 : Nat) : Int)), (4, vI k)] [] τ := by
  have h8 := hV.2.1
  have hc5 := hV.2.2 s hs.1 hs.2
  have hcc : (cv σ 1).2.1 s = σ 2 s := rfl
  intro f
  induction f with
  | zero => intro k h0 hk; exact absurd hk (by omega)
  | succ f ih =>
    intro k hk hf
    refine z_iload hO 3 dX6_countedWords_9 rfl ?_
    refine z_aload_n hO 0 dX6_countedWords_11 rfl ?_
    refine z_getR hO (1) fl_X6_31 rfl rfl dX6_countedWords_12 ?_
    refine z_getR hO (2) fl_X6_95 rfl rfl dX6_countedWords_15 ?_
    refine z_iload_n hO 1 dX6_countedWords_18 rfl ?_
    refine z_iald hO rfl (by omega) (by decide) dX6_countedWords_19 (fun r19 => ?_)
    try simp (disch := omega) only [fl_row_ne, fl_ne, up_row_ne, up_ne, up_eq, up_nk, up_up, up_self, ne_eq, Nat.reduceEqDiff, Int.reduceEq, reduceCtorEq, not_false_eq_true, not_true_eq_false, e2, e3] at r19 ⊢
    refine z_icmp_ge hO 65 dX6_countedWords_20 (by decide) (by omega) (by omega) (fun c20 => ?_) (fun c20 => ?_)
    ·
      have hkc : (k : Int) = σ 2 s := by omega
      refine z_lload_n hO 2 dX6_countedWords_65 rfl ?_
      exact z_retL hO hR dX6_countedWords_66 (by rw [cwP_all hV hs.1 hs.2 hkc]; exact hP)
    ·
      have hw5 := hc5.2.2 k (by omega) (by omega)
      have ht5 := (ha.2.1 s k (by omega) (by omega) (by omega) (by omega)).1
      obtain ⟨wn, hwn⟩ : ∃ wn : Nat, σ 3 (s * 4 + k) = wn := ⟨(σ 3 (s * 4 + k)).toNat, by have : (cv σ 1).2.2.1 s k = σ 3 (s * 4 + k) := rfl; omega⟩
      have hw6 : (cv σ 1).2.2.1 s k = wn := hwn
      have hlt := setF_lt (cwP (cv σ 1) (σ 1 4) (σ 1 5) (rdN (cv σ 1)).toNat s (k + 1)) 32
      refine z_iload_n hO 1 dX6_countedWords_23 rfl ?_
      refine z_iconst hO dX6_countedWords_24 ?_
      refine z_imul hO dX6_countedWords_25 ?_
      refine z_iload hO 3 dX6_countedWords_26 rfl ?_
      refine z_iadd hO dX6_countedWords_28 ?_
      refine z_istore hO (L' := [(5, _), (0, _), (1, _), (2, _), (4, _)]) dX6_countedWords_29 (by decide) rfl ?_
      refine z_aload_n hO 1 dX6_countedWords_31 rfl ?_
      refine z_getR hO (97) fl_X6_12 rfl rfl dX6_countedWords_32 ?_
      refine z_getR hO (98) fl_X6_81 rfl rfl dX6_countedWords_35 ?_
      refine z_iload hO 0 dX6_countedWords_38 rfl ?_
      refine z_iald hO rfl (by omega) (by decide) dX6_countedWords_40 (fun r40 => ?_)
      try simp (disch := omega) only [fl_row_ne, fl_ne, up_row_ne, up_ne, up_eq, up_nk, up_up, up_self, ne_eq, Nat.reduceEqDiff, Int.reduceEq, reduceCtorEq, not_false_eq_true, not_true_eq_false, e2, e3] at r40 ⊢
      rw [ht5] at r40 ⊢
      refine z_if_le hO 59 dX6_countedWords_41 (by decide) (by omega) (fun c41 => ?_) (fun c41 => ?_)
      ·
        have hse := cwP_f (V := (cv σ 1)) (K := (σ 1 4)) (S := (σ 1 5)) (m := (rdN (cv σ 1)).toNat) (s := s) (k := k) (by omega)
        refine z_iinc hO (L' := [(4, _), (5, _), (0, _), (1, _), (2, _)]) 4 dX6_countedWords_59 rfl (by decide) rfl ?_
        refine z_goto hO 9 dX6_countedWords_62 (by decide) ?_
        rw [← hse]
        exact z_pick [2, 3, 4, 0] rfl (ih (k + 1) (by omega) (by omega))
      ·
        have hse := setF_or (n := 32) (w := wn) (by omega) (cwP_t (V := (cv σ 1)) (K := (σ 1 4)) (S := (σ 1 5)) (m := (rdN (cv σ 1)).toNat) hw6 c41)
        refine z_lload_n hO 3 dX6_countedWords_44 rfl ?_
        refine z_lconst hO 1 dX6_countedWords_45 (by decide) ?_
        refine z_aload_n hO 1 dX6_countedWords_46 rfl ?_
        refine z_getR hO (1) fl_X6_31 rfl rfl dX6_countedWords_47 ?_
        refine z_getR hO (3) fl_X6_70 rfl rfl dX6_countedWords_50 ?_
        refine z_iload hO 0 dX6_countedWords_53 rfl ?_
        refine z_iald hO rfl (by omega) (by decide) dX6_countedWords_55 (fun r55 => ?_)
        try simp (disch := omega) only [fl_row_ne, fl_ne, up_row_ne, up_ne, up_eq, up_nk, up_up, up_self, ne_eq, Nat.reduceEqDiff, Int.reduceEq, reduceCtorEq, not_false_eq_true, not_true_eq_false, e2, e3] at r55 ⊢
        rw [hwn] at r55 ⊢
        refine z_lshl hO (((2 ^ wn : Nat) : Int)) dX6_countedWords_56 (bl_shl1 wn (by omega)) ?_
        refine z_lor hO (((setF (cwP (cv σ 1) (σ 1 4) (σ 1 5) (rdN (cv σ 1)).toNat s (k + 1)) 32 : Nat) : Int)) dX6_countedWords_57 (by rw [bl_or, hse]) ?_
        refine z_lstore_n hO (L' := [(2, _), (5, _), (0, _), (1, _), (4, _)]) dX6_countedWords_58 (by decide) rfl ?_
        refine z_iinc hO (L' := [(4, _), (2, _), (5, _), (0, _), (1, _)]) 4 dX6_countedWords_59 rfl (by decide) rfl ?_
        refine z_goto hO 9 dX6_countedWords_62 (by decide) ?_
        exact z_pick [3, 4, 1, 0] rfl (ih (k + 1) (by omega) (by omega))

set_option maxHeartbeats 4000000 in
set_option maxRecDepth 100000 in
theorem t_X6_countedWords {g : G} {σ : Sg} {s : Int} (hs : 0 ≤ s ∧ s < (cv σ 1).1) (hV : WV (cv σ 1)) (hI : SI σ) (hS : 0 ≤ σ 1 5 ∧ σ 1 5 ≤ 20) : MM g mX6_countedWords [.ref (g.2.2.1 83), vI s] σ (pL (fun r σ' => r = ((setF (fun w => decide (0 < hvn (cv σ 1) (σ 1 4) (σ 1 5) (rdN (cv σ 1)).toNat s (w : Int))) 32 : Nat) : Int) ∧ SI σ' ∧ Fm fSv σ σ')) := by
  refine mm_of rfl (by decide) rfl rfl (Nat.le_of_ble_eq_true rfl) (fun x hO hR => ?_)
  refine z_aload_n hO 0 dX6_countedWords_0 rfl ?_
  refine z_cvV hO (t_X6_findCounted hV hI hS) cv_X6_75 rfl rfl rfl rfl (by decide) (Nat.le_of_ble_eq_true rfl) dX6_countedWords_1 (fun s1 p1 => ?_)
  have hSI := SI_FC hI p1
  obtain ⟨⟨a1, a2⟩, a3, a4, a5, a6, a7⟩ := p1
  have eV := Fm_cv a7 fFC_4
  have e1 : s1 1 = σ 1 := a7.row 1 (fun k => fFC_4 1 k (by decide))
  have e2 : s1 2 = σ 2 := a7.row 2 (fun k => fFC_4 2 k (by decide))
  have e3 : s1 3 = σ 3 := a7.row 3 (fun k => fFC_4 3 k (by decide))
  have hz0 : (0 : Int) = ((setF (cwP (cv σ 1) (σ 1 4) (σ 1 5) (rdN (cv σ 1)).toNat s 0) 32 : Nat) : Int) := by rw [cwP_0]; rfl
  refine z_lconst hO 0 dX6_countedWords_4 (by decide) ?_
  refine z_topL hz0 ?_
  refine z_lstore_n hO (L' := [(2, _), (0, _), (1, _)]) dX6_countedWords_5 (by decide) rfl ?_
  refine z_iconst hO dX6_countedWords_6 ?_
  refine z_istore hO (L' := [(4, _), (2, _), (0, _), (1, _)]) dX6_countedWords_7 (by decide) rfl ?_
  exact z_pick [2, 3, 1, 0] rfl (lp_cwords (σ := σ) hO hR hV hs a1 e1 e2 e3 ⟨rfl, hSI, a7.mono fFC_Sv⟩ 6 0 (by have h := (hV.2.2 s hs.1 hs.2).1; change 1 ≤ σ 2 s at h; omega) (by have h := (hV.2.2 s hs.1 hs.2).2.1; change σ 2 s ≤ 4 at h; omega))

set_option maxHeartbeats 4000000 in
set_option maxRecDepth 100000 in
theorem t_X8_open {g : G} {σ : Sg} {s : Int} (rs : -2147483648 ≤ s ∧ s ≤ 2147483647) (hV : WV (cv σ 1)) (hI : SI σ) (hS : 0 ≤ σ 1 5 ∧ σ 1 5 ≤ 20) : MM g mX8_open [.ref (g.2.2.1 0), vI s] σ (pL (fun r σ' => r = (if ¬ (0 ≤ s ∧ s < σ 1 3) then -1 else ((setF (fun w => decide (0 < hvn (cv σ 1) (σ 1 4) (σ 1 5) (rdN (cv σ 1)).toNat s (w : Int))) 32 : Nat) : Int)) ∧ SI σ' ∧ Fm fSv σ σ')) := by
  refine mm_of rfl (by decide) rfl rfl (Nat.le_of_ble_eq_true rfl) (fun x hO hR => ?_)
  refine z_aload_n hO 0 dX8_open_0 rfl ?_
  refine z_getR hO (1) fl_X8_12 rfl rfl dX8_open_1 ?_
  refine z_iload_n hO 1 dX8_open_4 rfl ?_
  refine z_cvQ hO (t_X2_isSlot hd_1 (by omega)) cv_X8_76 rfl rfl rfl rfl (by decide) (Nat.le_of_ble_eq_true rfl) dX8_open_5 (fun c5 => ?_) (fun c5 => ?_)
  ·
    refine z_if_eq hO 22 dX8_open_8 (by decide) (by decide) (fun c8 => absurd c8 (by omega)) (fun c8 => ?_)
    refine z_aload_n hO 0 dX8_open_11 rfl ?_
    refine z_getR hO (83) fl_X8_44 rfl rfl dX8_open_12 ?_
    refine z_iload_n hO 1 dX8_open_15 rfl ?_
    refine z_cvL hO (t_X6_countedWords (by exact ⟨by omega, by show s < σ 1 3; omega⟩) hV hI hS) cv_X8_173 rfl rfl rfl rfl (by decide) (Nat.le_of_ble_eq_true rfl) dX8_open_16 (fun v16 s16 p16 => ?_)
    refine z_goto hO 25 dX8_open_19 (by decide) ?_
    exact z_retL hO hR dX8_open_25 (by first | exact ⟨by rw [if_neg (by omega)]; exact p16.1, p16.2⟩ | exact ⟨by rw [if_pos (by omega)], hI, Fm.rf⟩)
  ·
    refine z_if_eq hO 22 dX8_open_8 (by decide) (by decide) (fun c8 => ?_) (fun c8 => absurd c8 (by omega))
    refine z_ldc2 hO k_X8_177 dX8_open_22 ?_
    exact z_retL hO hR dX8_open_25 (by first | exact ⟨by rw [if_neg (by omega)]; exact p16.1, p16.2⟩ | exact ⟨by rw [if_pos (by omega)], hI, Fm.rf⟩)
