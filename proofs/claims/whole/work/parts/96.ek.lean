/-! ===== those counted, one by one ===== -/
noncomputable def cqF (V : Hv) (K S : Int) (t : Nat) : Nat := @dite _ (∃ q : Nat, (q : Int) < rdN V ∧ ctd V K S q = true ∧ nCt V K S q = t) (Classical.propDecidable _) (fun h => Classical.choose h) (fun _ => 0)
theorem cqF_p {V : Hv} (hV : WV V) {K S : Int} {t : Nat} (h : (t : Int) < nCt V K S (rdN V).toNat) : (cqF V K S t : Int) < rdN V ∧ ctd V K S (cqF V K S t) = true ∧ nCt V K S (cqF V K S t) = t := by
  have hr := rdN_r hV
  have e : ∃ q : Nat, (q : Int) < rdN V ∧ ctd V K S q = true ∧ nCt V K S q = t := by
    obtain ⟨q, a, b, d⟩ := nCt_ex (V := V) (K := K) (S := S) (k := t) _ (by omega) h
    exact ⟨q, by omega, b, d⟩
  unfold cqF; rw [dif_pos e]; exact Classical.choose_spec e
theorem cqF_u {V : Hv} (hV : WV V) {K S : Int} {t q : Nat} (h : (t : Int) < nCt V K S (rdN V).toNat) (hc : ctd V K S q = true) (hn : nCt V K S q = t) : q = cqF V K S t := by
  have a := cqF_p hV h
  exact nCt_inj hc a.2.1 (by rw [hn, a.2.2])
theorem tkg_bit {V : Hv} {K S : Int} {i k : Int} {t : Nat} : ∀ M : Nat, (tkg V K S M i k).testBit t = true ↔ t < 60 ∧ ∃ q : Nat, q < M ∧ ctd V K S q = true ∧ nCt V K S q = t ∧ (0 ≤ i ∧ i < V.1) ∧ pk V q i = k := by
  intro M
  induction M with
  | zero =>
    rw [show tkg V K S 0 i k = 0 from rfl, Nat.zero_testBit]
    exact ⟨fun z => absurd z (by decide), fun ⟨_, q, z, _⟩ => absurd z (Nat.not_lt_zero q)⟩
  | succ M ih =>
    have hr := nCt_r V K S M
    rw [tkg_s]
    by_cases c : ctd V K S M = true ∧ (0 ≤ i ∧ i < V.1) ∧ pk V M i = k
    · rw [if_pos c]
      have hl := tkg_lt V K S M i k
      rw [← adB_or hr.1 hl, Nat.testBit_or, Bool.or_eq_true, ih]
      unfold adB
      by_cases q : nCt V K S M < 60
      · rw [if_pos q, Nat.testBit_two_pow, decide_eq_true_eq]
        constructor
        · rintro (⟨a, r, b, d⟩ | z)
          · exact ⟨a, r, by omega, d⟩
          · exact ⟨by omega, M, by omega, c.1, by omega, c.2⟩
        · rintro ⟨a, r, b, d, e, f⟩
          by_cases x : r = M
          · subst x; exact Or.inr (by omega)
          · exact Or.inl ⟨a, r, by omega, d, e, f⟩
      · rw [if_neg q, Nat.zero_testBit]
        constructor
        · rintro (⟨a, r, b, d⟩ | z)
          · exact ⟨a, r, by omega, d⟩
          · exact absurd z (by decide)
        · rintro ⟨a, r, b, d, e, f⟩
          by_cases x : r = M
          · subst x; exfalso; omega
          · exact Or.inl ⟨a, r, by omega, d, e, f⟩
    · rw [if_neg c, Nat.add_zero, ih]
      constructor
      · rintro ⟨a, r, b, d⟩; exact ⟨a, r, by omega, d⟩
      · rintro ⟨a, r, b, d, e, f⟩
        by_cases x : r = M
        · subst x; exact absurd ⟨d, f⟩ c
        · exact ⟨a, r, by omega, d, e, f⟩
theorem tkg_in {V : Hv} (hV : WV V) {K S : Int} {i k : Int} {t : Nat} (h : (t : Int) < nCt V K S (rdN V).toNat) (h60 : nCt V K S (rdN V).toNat ≤ 60) : (tkg V K S (rdN V).toNat i k).testBit t = true ↔ (0 ≤ i ∧ i < V.1) ∧ pk V (cqF V K S t) i = k := by
  rw [tkg_bit]
  constructor
  · rintro ⟨a, q, b, d, e, f, g⟩
    rw [cqF_u hV h d e] at g; exact ⟨f, g⟩
  · rintro ⟨a, b⟩
    have p := cqF_p hV h
    exact ⟨by omega, _, by omega, p.2.1, p.2.2, a, b⟩
theorem cntB_ta {x m : Nat} {p : Nat → Prop} {F : Nat → Int} (h0 : F 0 = 0) (hF : ∀ t, (p t → F (t + 1) = F t + 1) ∧ (¬ p t → F (t + 1) = F t)) (hp : ∀ t, t < m → (x.testBit t = true ↔ p t)) (hx : ∀ t, m ≤ t → x.testBit t = false) : ∀ d : Nat, (cntB x (m + d) : Int) = F m := by
  have key : ∀ j : Nat, j ≤ m → (cntB x j : Int) = F j := by
    intro j
    induction j with
    | zero => intro _; rw [h0]; rfl
    | succ j ih =>
      intro hj
      have e := Nat.testBit_eq_decide_div_mod_eq (x := x) (i := j)
      have z := hp j (by omega)
      rw [cntB_s]
      have y := ih (by omega)
      by_cases q : p j
      · rw [(hF j).1 q]
        have w : x / 2 ^ j % 2 = 1 := by rw [z.mpr q] at e; exact of_decide_eq_true e.symm
        omega
      · rw [(hF j).2 q]
        have w : ¬ x / 2 ^ j % 2 = 1 := by
          intro v; exact q (z.mp (by rw [e]; exact decide_eq_true v))
        omega
  intro d
  induction d with
  | zero => exact key m (Nat.le_refl m)
  | succ d ih =>
    have e := Nat.testBit_eq_decide_div_mod_eq (x := x) (i := m + d)
    rw [hx (m + d) (by omega)] at e
    have w : ¬ x / 2 ^ (m + d) % 2 = 1 := of_decide_eq_false e.symm
    rw [show m + (d + 1) = (m + d) + 1 by omega, cntB_s]
    omega
theorem bc_nS {s m : Nat} (hs : s < 2 ^ m) (hm : m ≤ 60) : ((bc 8 s : Nat) : Int) = nS s m := by
  rw [← cnt_bc, show (64 : Nat) = m + (64 - m) by omega]
  exact cntB_ta (p := fun t => s.testBit t = true) (F := nS s) rfl (fun t => ⟨fun z => by rw [nS_s, if_pos z], fun z => by rw [nS_s, if_neg z]; omega⟩) (fun t _ => Iff.rfl) (fun t ht => Nat.testBit_lt_two_pow (Nat.lt_of_lt_of_le hs (Nat.pow_le_pow_right (by decide) ht))) _
theorem bc_ta {V : Hv} (hV : WV V) {K S : Int} {s m : Nat} (hm : (m : Int) = nCt V K S (rdN V).toNat) (h60 : m ≤ 60) (hs : s < 2 ^ m) (i k : Int) (h0 : 0 ≤ i) : ((bc 8 (s &&& tkg V K S (rdN V).toNat i k) : Nat) : Int) = if i < V.1 then taT V (cqF V K S) s i k m else 0 := by
  have hz : ∀ t, m ≤ t → (s &&& tkg V K S (rdN V).toNat i k).testBit t = false := fun t ht => by
    rw [Nat.testBit_and, Nat.testBit_lt_two_pow (Nat.lt_of_lt_of_le hs (Nat.pow_le_pow_right (by decide) ht)), Bool.false_and]
  rw [← cnt_bc]
  by_cases q : i < V.1
  · rw [if_pos q]
    have h := cntB_ta (x := s &&& tkg V K S (rdN V).toNat i k) (m := m) (p := fun t => s.testBit t = true ∧ pk V (cqF V K S t) i = k) (F := taT V (cqF V K S) s i k) rfl (fun t => ⟨fun z => by rw [taT_s, if_pos z], fun z => by rw [taT_s, if_neg z]; omega⟩) (fun t ht => by
      rw [Nat.testBit_and, Bool.and_eq_true, tkg_in hV (by omega) (by omega)]
      exact ⟨fun z => ⟨z.1, z.2.2⟩, fun z => ⟨z.1, ⟨h0, q⟩, z.2⟩⟩) hz (64 - m)
    rw [show m + (64 - m) = 64 by omega] at h; exact h
  · rw [if_neg q]
    have h := cntB_ta (x := s &&& tkg V K S (rdN V).toNat i k) (m := m) (p := fun _ => False) (F := fun _ => 0) rfl (fun t => ⟨fun z => absurd z (fun y => y), fun _ => rfl⟩) (fun t ht => by
      rw [Nat.testBit_and, Bool.and_eq_true, tkg_in hV (by omega) (by omega)]
      exact ⟨fun z => absurd z.2.1.2 q, fun z => absurd z (fun y => y)⟩) hz (64 - m)
    rw [show m + (64 - m) = 64 by omega] at h; exact h
theorem prt_and {V : Hv} (hV : WV V) {K S : Int} {s m : Nat} (hm : (m : Int) = nCt V K S (rdN V).toNat) (h60 : m ≤ 60) (hs : s < 2 ^ m) {i k : Int} (h0 : 0 ≤ i) (h1 : i < V.1) : s &&& tkg V K S (rdN V).toNat i k = prt V (cqF V K S) s m i k := by
  apply Nat.eq_of_testBit_eq; intro t
  rw [Bool.eq_iff_iff, Nat.testBit_and, Bool.and_eq_true, prt_bit]
  by_cases q : t < m
  · rw [tkg_in hV (by omega) (by omega)]
    exact ⟨fun z => ⟨q, z.1, z.2.2⟩, fun z => ⟨z.2.1, ⟨h0, h1⟩, z.2.2⟩⟩
  · have := Nat.testBit_lt_two_pow (Nat.lt_of_lt_of_le hs (Nat.pow_le_pow_right (by decide) (show m ≤ t by omega)))
    exact ⟨fun z => by rw [this] at z; exact absurd z.1 (by decide), fun z => absurd z.1 q⟩
theorem prt_lt (V : Hv) (c : Nat → Nat) (s m : Nat) (i k : Int) : prt V c s m i k < 2 ^ m := setF_lt _ m
theorem full_bit {m t : Nat} : (2 ^ m - 1).testBit t = true ↔ t < m := by rw [Nat.testBit_two_pow_sub_one, decide_eq_true_eq]
theorem bl_andn (s a : Nat) : Int64.ofInt (s : Int) &&& (Int64.ofInt (a : Int) ^^^ Int64.ofInt (-1)) = Int64.ofInt ((s ^^^ (s &&& a) : Nat) : Int) := by
  apply Int64.toBitVec_inj.mp
  rw [Int64.toBitVec_and, Int64.toBitVec_xor, l_bv, l_bv, l_bv, show (Int64.ofInt (-1)).toBitVec = BitVec.allOnes 64 by decide]
  apply BitVec.eq_of_getLsbD_eq
  intro i hi
  rw [BitVec.getLsbD_and, BitVec.getLsbD_xor, BitVec.getLsbD_allOnes, BitVec.getLsbD_ofNat, BitVec.getLsbD_ofNat, BitVec.getLsbD_ofNat, Nat.testBit_xor, Nat.testBit_and]
  simp only [hi, decide_true, Bool.true_and]
  cases s.testBit i <;> cases a.testBit i <;> rfl
theorem andn_0 {s a : Nat} : s ^^^ (s &&& a) = 0 ↔ ∀ t, s.testBit t = true → a.testBit t = true := by
  constructor
  · intro h t ht
    have e := congrArg (fun x => Nat.testBit x t) h
    simp only [Nat.testBit_xor, Nat.testBit_and, Nat.zero_testBit, ht, Bool.true_and] at e
    cases q : a.testBit t
    · rw [q] at e; exact absurd e (by decide)
    · rfl
  · intro h
    apply Nat.eq_of_testBit_eq; intro t
    rw [Nat.testBit_xor, Nat.testBit_and, Nat.zero_testBit]
    cases q : s.testBit t
    · rfl
    · rw [h t q]; rfl
theorem andn_lt {s a m : Nat} (h : s < 2 ^ m) : s ^^^ (s &&& a) < 2 ^ m := Nat.xor_lt_two_pow h (Nat.lt_of_le_of_lt Nat.and_le_left h)
