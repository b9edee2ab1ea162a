/-! ===== where the walk stands, by the numbers of readings ===== -/
/-- what the walk has taken of each slot -/
def trP (τ : Sg) : Int → Int := fun e => τ 89 e - 1
def SA (τ : Sg) (e : Int) (s : AS) : Prop := τ 90 e = s.1 ∧ τ 91 e = s.2.1 ∧ τ 92 e = s.2.2.1 ∧ τ 93 e = s.2.2.2.length ∧ rowIs (τ 96) s.2.2.2
theorem aD_congr {V : Hv} {p p' : Int → Int} (d : Nat) (h : ∀ j : Int, 0 ≤ j → j < d → p j = p' j) : aD V p d = aD V p' d := by rw [aD_R, aD_R, lstW_congr d h]
theorem aN_len {s t : AS} {w : Int} (h : aN s w = some t) : s.2.2.2.length ≤ t.2.2.2.length := by
  unfold aN at h
  split at h
  · cases h; exact Nat.le_refl _
  · split at h
    · split at h
      · cases h; simp
      · cases h
    · split at h
      · split at h
        · cases h; exact Nat.le_refl _
        · cases h
      · split at h
        · split at h
          · cases h; exact Nat.le_refl _
          · cases h
        · split at h
          · split at h
            · cases h; exact Nat.le_refl _
            · cases h
          · split at h
            · cases h
              unfold lst
              split
              · split <;> exact Nat.le_refl _
              · exact Nat.le_refl _
            · cases h
theorem aD_mono {V : Hv} {p : Int → Int} : ∀ (d e : Nat) (s t : AS), e ≤ d → aD V p e = some s → aD V p d = some t → s.2.2.2.length ≤ t.2.2.2.length := by
  intro d
  induction d with
  | zero =>
    intro e s t he h1 h2
    obtain rfl : e = 0 := by omega
    rw [h1] at h2; cases h2; exact Nat.le_refl _
  | succ d ih =>
    intro e s t he h1 h2
    by_cases q : e = d + 1
    · subst q; rw [h1] at h2; cases h2; exact Nat.le_refl _
    · rw [aD_s] at h2
      cases hu : aD V p d with
      | none => rw [hu] at h2; cases h2
      | some u => rw [hu] at h2; exact Nat.le_trans (ih e s u (by omega) h1 hu) (aN_len h2)
theorem aD_none {V : Hv} {p : Int → Int} {m : Nat} (e : aD V p m = none) : ∀ d : Nat, m ≤ d → aD V p d = none := by
  intro d
  induction d with
  | zero => intro h; obtain rfl : m = 0 := by omega
            exact e
  | succ d ih =>
    intro h
    by_cases q : m = d + 1
    · subst q; exact e
    · rw [aD_s, ih (by omega)]; rfl
/-- the number of a beginning of a reading -/
def pf (V : Hv) (p : Int → Int) : Nat → Int
  | 0 => 0
  | e + 1 => pf V p e * V.2.1 e + p e
theorem pf_s (V : Hv) (p : Int → Int) (e : Nat) : pf V p (e + 1) = pf V p e * V.2.1 e + p e := rfl
theorem pf_congr {V : Hv} {p p' : Int → Int} (m : Nat) (h : ∀ j : Int, 0 ≤ j → j < m → p j = p' j) : pf V p m = pf V p' m := by
  induction m with
  | zero => rfl
  | succ m ih => rw [pf_s, pf_s, ih (fun j h0 h1 => h j h0 (by omega)), h m (by omega) (by omega)]
theorem pq_at {V : Hv} {d : Int} (h0 : 0 ≤ d) (h1 : d < V.1) : pq V (V.1 - d).toNat = V.2.1 d * pq V (V.1 - 1 - d).toNat := by
  rw [show (V.1 - d).toNat = (V.1 - 1 - d).toNat + 1 by omega, pq_s, show V.1 - (((V.1 - 1 - d).toNat : Int) + 1) = d by omega]
theorem pk_pf {V : Hv} {p : Int → Int} (hV : WV V) : ∀ (d : Nat) (r : Int), (d : Int) ≤ V.1 → (∀ e : Int, 0 ≤ e → e < d → 0 ≤ p e ∧ p e < V.2.1 e) → r / pq V (V.1 - d).toNat = pf V p d → ∀ e : Int, 0 ≤ e → e < d → pk V r e = p e := by
  intro d
  induction d with
  | zero => intro r _ _ _ e h0 h1; exact absurd h1 (by omega)
  | succ d ih =>
    intro r hd hp hr e h0 h1
    have c := hV.2.2 d (by omega) (by omega)
    have hpd := hp d (by omega) (by omega)
    rw [pf_s, show (V.1 - ((d + 1 : Nat) : Int)).toNat = (V.1 - 1 - d).toNat by omega] at hr
    by_cases q : e = d
    · subst q
      unfold pk
      rw [hr, Int.add_comm, Int.mul_comm (pf V p d), Int.add_mul_emod_self_left, Int.emod_eq_of_lt hpd.1 hpd.2]
    · refine ih r (by omega) (fun j j0 j1 => hp j j0 (by omega)) ?_ e h0 (by omega)
      rw [pq_at (by omega) (by omega), Int.mul_comm (V.2.1 d), ← Int.ediv_ediv_of_nonneg (by have := pq_r hV (V.1 - 1 - d).toNat (by omega); omega), hr, Int.add_comm, Int.add_mul_ediv_right _ _ (by omega), Int.ediv_eq_zero_of_lt hpd.1 hpd.2, Int.zero_add]
/-- readings that begin alike -/
theorem pk_block {V : Hv} {p : Int → Int} (hV : WV V) {d : Nat} (hd : (d : Int) ≤ V.1) (hp : ∀ e : Int, 0 ≤ e → e < d → 0 ≤ p e ∧ p e < V.2.1 e) {y : Int} (y0 : pf V p d * pq V (V.1 - d).toNat ≤ y) (y1 : y < (pf V p d + 1) * pq V (V.1 - d).toNat) : ∀ e : Int, 0 ≤ e → e < d → pk V y e = p e := by
  have hq := pq_r hV (V.1 - d).toNat (by omega)
  refine pk_pf hV d y hd hp ?_
  apply Int.le_antisymm
  · have := (Int.ediv_lt_iff_lt_mul (show 0 < pq V (V.1 - d).toNat by omega)).mpr y1
    omega
  · exact (Int.le_ediv_iff_mul_le (by omega)).mpr y0
/-- the place of the walk among readings -/
def psn (V : Hv) (τ : Sg) (d : Int) : Int := if d < 0 then pq V V.1.toNat else if d < V.1 then (pf V (trP τ) d.toNat * V.2.1 d + τ 89 d) * pq V (V.1 - 1 - d).toNat else pf V (trP τ) V.1.toNat
theorem psn_pred {V : Hv} {τ : Sg} {d : Int} (h0 : 0 ≤ d) (h1 : d ≤ V.1) : psn V τ (d - 1) = (pf V (trP τ) d.toNat + 1) * pq V (V.1 - d).toNat := by
  unfold psn
  by_cases q : d = 0
  · subst q
    rw [if_pos (by omega)]
    show _ = (0 + 1) * _
    rw [show V.1 - 0 = V.1 by omega]; omega
  · rw [if_neg (by omega), if_pos (by omega), show V.1 - 1 - (d - 1) = V.1 - d by omega]
    congr 1
    rw [show d.toNat = (d - 1).toNat + 1 by omega, pf_s, show (((d - 1).toNat : Nat) : Int) = d - 1 by omega]
    unfold trP; omega
def WD (V : Hv) (τ : Sg) (d : Int) : Prop := (∀ e : Int, 0 ≤ e → e < d → 1 ≤ τ 89 e ∧ τ 89 e ≤ V.2.1 e) ∧ ∀ e : Nat, (e : Int) ≤ d → ∃ s, aD V (trP τ) e = some s ∧ SA τ e s ∧ τ 94 e = sumC V (trP τ) e ∧ τ 95 e = prW V (trP τ) e
/-- the walk stands ahead of reading r -/
def WI (V : Hv) (τ : Sg) (r : Int) : Prop := (-1 ≤ τ 88 8 ∧ τ 88 8 ≤ V.1) ∧ WD V τ (τ 88 8) ∧ (0 ≤ τ 88 8 → τ 88 8 < V.1 → 0 ≤ τ 89 (τ 88 8) ∧ τ 89 (τ 88 8) ≤ V.2.1 (τ 88 8)) ∧ r = psn V τ (τ 88 8)
theorem WD_keep {V : Hv} {τ τ' : Sg} {d d' : Int} (h : WD V τ d) (hd : d' ≤ d) (h89 : ∀ e : Int, 0 ≤ e → e < d' → τ' 89 e = τ 89 e) (hr : ∀ (c : Nat) (e : Int), 90 ≤ c → c ≤ 95 → 0 ≤ e → e ≤ d' → τ' c e = τ c e) (h96 : ∀ j : Int, 0 ≤ j → j < τ 93 d' → τ' 96 j = τ 96 j) : WD V τ' d' := by
  refine ⟨fun e e0 e1 => by rw [h89 e e0 e1]; exact h.1 e e0 (by omega), fun e he => ?_⟩
  obtain ⟨s, s1, s2, s3, s4⟩ := h.2 e (by omega)
  obtain ⟨t, t1, t2, _, _⟩ := h.2 d'.toNat (by omega)
  have hp : ∀ j : Int, 0 ≤ j → j < e → trP τ' j = trP τ j := fun j j0 j1 => by unfold trP; rw [h89 j j0 (by omega)]
  have hm := aD_mono d'.toNat e s t (by omega) s1 t1
  have ht : τ 93 d' = t.2.2.2.length := by have := t2.2.2.2.1; rwa [show ((d'.toNat : Nat) : Int) = d' by omega] at this
  refine ⟨s, by rw [aD_congr e hp]; exact s1, ⟨?_, ?_, ?_, ?_, ?_⟩, ?_, ?_⟩
  · rw [hr 90 e (by decide) (by decide) (by omega) he]; exact s2.1
  · rw [hr 91 e (by decide) (by decide) (by omega) he]; exact s2.2.1
  · rw [hr 92 e (by decide) (by decide) (by omega) he]; exact s2.2.2.1
  · rw [hr 93 e (by decide) (by decide) (by omega) he]; exact s2.2.2.2.1
  · exact rowIs_keep s2.2.2.2.2 (fun j j0 j1 => h96 j j0 (by omega))
  · rw [hr 94 e (by decide) (by decide) (by omega) he, sumC_congr e hp]; exact s3
  · rw [hr 95 e (by decide) (by decide) (by omega) he, prW_congr e hp]; exact s4
theorem WD_ext {V : Hv} {τ : Sg} {d k : Int} (h0 : 0 ≤ d) (h : WD V τ d) (hk : τ 89 d = k + 1) (k0 : 0 ≤ k) (k1 : k < V.2.1 d) {s t : AS} (hs : aD V (trP τ) d.toNat = some s) (hn : aN s (V.2.2.1 d k) = some t) (hA : SA τ (d + 1) t) (h94 : τ 94 (d + 1) = τ 94 d + V.2.2.2 d k) (h95 : τ 95 (d + 1) = τ 95 d * (10 - V.2.2.2 d k)) : WD V τ (d + 1) := by
  refine ⟨fun e e0 e1 => ?_, fun e he => ?_⟩
  · by_cases q : e = d
    · subst q; omega
    · exact h.1 e e0 (by omega)
  · by_cases q : (e : Int) = d + 1
    · obtain rfl : e = d.toNat + 1 := by omega
      have ed : ((d.toNat : Nat) : Int) = d := by omega
      obtain ⟨u, _, _, u3, u4⟩ := h.2 d.toNat (by omega)
      rw [ed] at u3 u4
      have ep : trP τ d = k := by unfold trP; omega
      rw [show ((d.toNat + 1 : Nat) : Int) = d + 1 by omega]
      refine ⟨t, ?_, hA, ?_, ?_⟩
      · rw [aD_s, hs, ed, ep]; exact hn
      · rw [sumC_s, ed, ep, h94, u3]
      · rw [prW_s, ed, ep, h95, u4]
    · exact h.2 e (by omega)
/-! a candidate taken -/
theorem entS_ne {τ : Sg} {d k e : Int} {c : Nat} (h : c < 90 ∨ 95 < c ∨ e ≠ d + 1) : entS τ d k c e = τ c e := by
  unfold entS up
  rcases h with h | h | h
  · simp (disch := omega) only [if_neg]
  · simp (disch := omega) only [if_neg]
  · simp only [h, if_false, ite_self]
theorem entS_90 {τ : Sg} {d k : Int} : entS τ d k 90 (d + 1) = τ 90 d := by unfold entS; simp (disch := omega) only [up_ne, up_eq]
theorem entS_91 {τ : Sg} {d k : Int} : entS τ d k 91 (d + 1) = τ 91 d := by unfold entS; simp (disch := omega) only [up_ne, up_eq]
theorem entS_92 {τ : Sg} {d k : Int} : entS τ d k 92 (d + 1) = τ 92 d := by unfold entS; simp (disch := omega) only [up_ne, up_eq]
theorem entS_93 {τ : Sg} {d k : Int} : entS τ d k 93 (d + 1) = τ 93 d := by unfold entS; simp (disch := omega) only [up_ne, up_eq]
theorem entS_94 {τ : Sg} {d k : Int} : entS τ d k 94 (d + 1) = τ 94 d + τ 4 (d * 4 + k) := by unfold entS; simp (disch := omega) only [up_ne, up_eq]
theorem entS_95 {τ : Sg} {d k : Int} : entS τ d k 95 (d + 1) = τ 95 d * (10 - τ 4 (d * 4 + k)) := by unfold entS; simp (disch := omega) only [up_ne, up_eq]
theorem entS_96 {τ : Sg} {d k : Int} : entS τ d k 96 = τ 96 := funext fun _ => entS_ne (by omega)
theorem ent_cases {w : Int} (hw : 0 ≤ w ∧ w ≤ 31) : w = 0 ∨ w = 31 ∨ w = 30 ∨ w = 28 ∨ w = 29 ∨ (1 ≤ w ∧ w ≤ 27) := by omega
theorem entR_0 {τ : Sg} {d k : Int} : entR τ d k 0 = entS τ d k := by unfold entR; rw [if_pos rfl]
theorem entR_31 {τ : Sg} {d k : Int} : entR τ d k 31 = stpS (entS τ d k) (d + 1) := by unfold entR; rw [if_neg (by decide), if_pos rfl]
theorem entR_30 {τ : Sg} {d k : Int} : entR τ d k 30 = up (entS τ d k) 90 (d + 1) 5 := by unfold entR; rw [if_neg (by decide), if_neg (by decide), if_pos rfl]
theorem entR_28 {τ : Sg} {d k : Int} : entR τ d k 28 = hunS (entS τ d k) (d + 1) := by unfold entR; rw [if_neg (by decide), if_neg (by decide), if_neg (by decide), if_pos rfl]
theorem entR_29 {τ : Sg} {d k : Int} : entR τ d k 29 = thoS (entS τ d k) (d + 1) := by unfold entR; rw [if_neg (by decide), if_neg (by decide), if_neg (by decide), if_neg (by decide), if_pos rfl]
theorem entR_lo {τ : Sg} {d k w : Int} (h : 1 ≤ w ∧ w ≤ 27) : entR τ d k w = lowS (entS τ d k) (d + 1) w := by unfold entR; rw [if_neg (by omega), if_neg (by omega), if_neg (by omega), if_neg (by omega), if_neg (by omega)]
/-- what no candidate changes -/
theorem entR_ne {τ : Sg} {d k w e : Int} {c : Nat} (hw : 0 ≤ w ∧ w ≤ 31) (h : c < 90 ∨ 96 < c ∨ (c ≠ 96 ∧ e ≠ d + 1)) : entR τ d k w c e = τ c e := by
  rw [← entS_ne (τ := τ) (d := d) (k := k) (c := c) (e := e) (by omega)]
  rcases ent_cases hw with rfl | rfl | rfl | rfl | rfl | q
  · rw [entR_0]
  · rw [entR_31]; generalize entS τ d k = υ; unfold stpS up; rcases h with h | h | h
    · simp (disch := omega) only [if_neg]
    · simp (disch := omega) only [if_neg]
    · simp only [h.1, h.2, if_false, ite_self]
  · rw [entR_30]; generalize entS τ d k = υ; unfold up; rcases h with h | h | h
    · simp (disch := omega) only [if_neg]
    · simp (disch := omega) only [if_neg]
    · simp only [h.2, if_false, ite_self]
  · rw [entR_28]; generalize entS τ d k = υ; unfold hunS up; rcases h with h | h | h
    · simp (disch := omega) only [if_neg]
    · simp (disch := omega) only [if_neg]
    · simp only [h.2, if_false, ite_self]
  · rw [entR_29]; generalize entS τ d k = υ; unfold thoS up; rcases h with h | h | h
    · simp (disch := omega) only [if_neg]
    · simp (disch := omega) only [if_neg]
    · simp only [h.2, if_false, ite_self]
  · rw [entR_lo q]; generalize entS τ d k = υ; unfold lowS
    have key : ∀ a b : Int, up (up υ 92 (d + 1) a) 90 (d + 1) b c e = υ c e := by
      intro a b
      rcases h with h | h | h
      · rw [up_ne (by omega), up_ne (by omega)]
      · rw [up_ne (by omega), up_ne (by omega)]
      · rw [up_nk h.2, up_nk h.2]
    split
    · split <;> exact key _ _
    · exact key _ _
theorem entR_9x {τ : Sg} {d k w : Int} {c : Nat} (hw : 0 ≤ w ∧ w ≤ 31) (h : c = 94 ∨ c = 95) : entR τ d k w c (d + 1) = entS τ d k c (d + 1) := by
  rcases ent_cases hw with rfl | rfl | rfl | rfl | rfl | q
  · rw [entR_0]
  · rw [entR_31]; unfold stpS; simp (disch := omega) only [up_ne]
  · rw [entR_30]; simp (disch := omega) only [up_ne]
  · rw [entR_28]; unfold hunS; simp (disch := omega) only [up_ne]
  · rw [entR_29]; unfold thoS; simp (disch := omega) only [up_ne]
  · rw [entR_lo q]; unfold lowS
    split
    · split <;> simp (disch := omega) only [up_ne]
    · simp (disch := omega) only [up_ne]
theorem entR_96 {τ : Sg} {d k w j : Int} (hw : 0 ≤ w ∧ w ≤ 31) (h : j ≠ τ 93 d) : entR τ d k w 96 j = τ 96 j := by
  rcases ent_cases hw with rfl | rfl | rfl | rfl | rfl | q
  · rw [entR_0, entS_96]
  · rw [entR_31]; unfold stpS; rw [up_ne (by omega), up_ne (by omega), up_ne (by omega), up_ne (by omega), entS_93, up_nk h, entS_96]
  · rw [entR_30, up_ne (by omega), entS_96]
  · rw [entR_28]; unfold hunS; rw [up_ne (by omega), up_ne (by omega), entS_96]
  · rw [entR_29]; unfold thoS; rw [up_ne (by omega), up_ne (by omega), up_ne (by omega), entS_96]
  · rw [entR_lo q]; unfold lowS
    split
    · split <;> rw [up_ne (by omega), up_ne (by omega), entS_96]
    · rw [up_ne (by omega), up_ne (by omega), entS_96]
theorem entR_row {τ : Sg} {d k w : Int} (hw : 0 ≤ w ∧ w ≤ 30) : entR τ d k w 96 = τ 96 := by
  rcases ent_cases (w := w) (by omega) with rfl | rfl | rfl | rfl | rfl | q
  · rw [entR_0, entS_96]
  · omega
  · funext j; rw [entR_30, up_ne (by omega), entS_96]
  · funext j; rw [entR_28]; unfold hunS; rw [up_ne (by omega), up_ne (by omega), entS_96]
  · funext j; rw [entR_29]; unfold thoS; rw [up_ne (by omega), up_ne (by omega), up_ne (by omega), entS_96]
  · funext j; rw [entR_lo q]; unfold lowS
    split
    · split <;> rw [up_ne (by omega), up_ne (by omega), entS_96]
    · rw [up_ne (by omega), up_ne (by omega), entS_96]
theorem entR_SA {τ : Sg} {d k w : Int} {s : AS} (hA : SA τ d s) (hw : 0 ≤ w ∧ w ≤ 31) : (entOk τ d w → ∃ t, aN s w = some t ∧ SA (entR τ d k w) (d + 1) t) ∧ (¬ entOk τ d w → aN s w = none) := by
  obtain ⟨p, th, sm, ns⟩ := s
  obtain ⟨a0, a1, a2, a3, a6⟩ := hA
  simp only at a0 a1 a2 a3 a6
  unfold entOk
  rcases ent_cases hw with rfl | rfl | rfl | rfl | rfl | q
  · rw [if_pos rfl]
    refine ⟨fun _ => ⟨_, aN_0 _, ?_⟩, fun z => absurd trivial z⟩
    rw [entR_0]
    exact ⟨by rw [entS_90]; exact a0, by rw [entS_91]; exact a1, by rw [entS_92]; exact a2, by rw [entS_93]; exact a3, by rw [entS_96]; exact a6⟩
  · rw [if_neg (by decide), if_pos rfl, a0, a3]
    refine ⟨fun z => ⟨_, aN_31 z.1 z.2, ?_⟩, fun z => aN_31f z⟩
    rw [entR_31]; unfold stpS
    rw [entS_93, entS_91, entS_92, a1, a2, a3]
    refine ⟨?_, ?_, ?_, ?_, ?_⟩
    · simp (disch := omega) only [up_ne, up_eq]
    · simp (disch := omega) only [up_ne, up_eq]
    · simp (disch := omega) only [up_ne, up_eq]
    · simp (disch := omega) only [up_ne, up_eq]; simp only [List.length_append, List.length_singleton]; omega
    · refine rowIs_snoc (r := τ 96) a6 (fun j hj => ?_) ?_
      · rw [up_ne (by omega), up_ne (by omega), up_ne (by omega), up_ne (by omega), up_nk (by omega), entS_96]
      · simp (disch := omega) only [up_ne, up_eq]
  · rw [if_neg (by decide), if_neg (by decide), if_pos rfl, a0]
    refine ⟨fun z => ⟨_, aN_30 z, ?_⟩, fun z => aN_30f z⟩
    refine ⟨?_, ?_, ?_, ?_, by rw [entR_row (by decide)]; exact a6⟩ <;> rw [entR_30]
    · rw [up_eq]
    · rw [up_ne (by omega), entS_91]; exact a1
    · rw [up_ne (by omega), entS_92]; exact a2
    · rw [up_ne (by omega), entS_93]; exact a3
  · rw [if_neg (by decide), if_neg (by decide), if_neg (by decide), if_pos rfl, a0]
    refine ⟨fun z => ?_, fun z => aN_28f z⟩
    subst z
    refine ⟨_, aN_28, ?_, ?_, ?_, ?_, by rw [entR_row (by decide)]; exact a6⟩ <;> (rw [entR_28]; unfold hunS)
    · rw [up_eq]
    · rw [up_ne (by omega), up_ne (by omega), entS_91]; exact a1
    · rw [up_ne (by omega), up_eq, entS_92, a2]
    · rw [up_ne (by omega), up_ne (by omega), entS_93]; exact a3
  · rw [if_neg (by decide), if_neg (by decide), if_neg (by decide), if_neg (by decide), if_pos rfl, a0, a1]
    refine ⟨fun z => ?_, fun z => aN_29f z⟩
    obtain ⟨z1, rfl⟩ := z
    refine ⟨_, aN_29 z1, ?_, ?_, ?_, ?_, by rw [entR_row (by decide)]; exact a6⟩ <;> (rw [entR_29]; unfold thoS)
    · rw [up_eq]
    · rw [up_ne (by omega), up_ne (by omega), up_eq, entS_92, a2]
    · rw [up_ne (by omega), up_eq]
    · rw [up_ne (by omega), up_ne (by omega), up_ne (by omega), entS_93]; exact a3
  · rw [if_neg (by omega), if_neg (by omega), if_neg (by omega), if_neg (by omega), if_neg (by omega), a0]
    unfold lowOk
    refine ⟨fun z => ⟨_, aN_low q z, ?_⟩, fun z => aN_lowf q z⟩
    rw [show SA (entR τ d k w) (d + 1) (lst p th sm ns w) ↔ SA (lowS (entS τ d k) (d + 1) w) (d + 1) (lst p th sm ns w) by rw [entR_lo q]]
    unfold lowS lst
    rw [entS_90, entS_92, a0, a2]
    have key : ∀ a b : Int, SA (up (up (entS τ d k) 92 (d + 1) a) 90 (d + 1) b) (d + 1) (b, th, a, ns) := by
      intro a b
      refine ⟨by rw [up_eq], by rw [up_ne (by omega), up_ne (by omega), entS_91]; exact a1, by rw [up_ne (by omega), up_eq], by rw [up_ne (by omega), up_ne (by omega), entS_93]; exact a3, ?_⟩
      exact rowIs_keep a6 (fun j _ _ => by rw [up_ne (by omega), up_ne (by omega), entS_96])
    by_cases c1 : w ≤ 19
    · rw [if_pos c1, if_pos c1]
      by_cases c2 : (p = 0 ∨ p = 6) ∧ w ≤ 9
      · rw [if_pos c2, if_pos c2]; exact key _ _
      · rw [if_neg c2, if_neg c2]; exact key _ _
    · rw [if_neg c1, if_neg c1]; exact key _ _
