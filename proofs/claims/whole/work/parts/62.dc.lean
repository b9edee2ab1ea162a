/-! ===== the walk's steps ===== -/
/-- rounds for a tree of m slots at most -/
def Nb : Nat → Int
  | 0 => 1
  | m + 1 => 5 + 4 * Nb m
theorem Nb_s (m : Nat) : Nb (m + 1) = 5 + 4 * Nb m := rfl
theorem Nb_1 (m : Nat) : 1 ≤ Nb m := by
  induction m with
  | zero => exact Int.le_refl 1
  | succ m ih => rw [Nb_s]; omega
theorem Nb_8 {m : Nat} (h : m ≤ 8) : Nb m ≤ 174761 := by
  rcases (show m = 0 ∨ m = 1 ∨ m = 2 ∨ m = 3 ∨ m = 4 ∨ m = 5 ∨ m = 6 ∨ m = 7 ∨ m = 8 by omega) with rfl | rfl | rfl | rfl | rfl | rfl | rfl | rfl | rfl <;> decide
def psi (V : Hv) (t : Int → Int) : Nat → Int
  | 0 => 0
  | e + 1 => psi V t e + (1 + (V.2.1 e - t e) * (1 + Nb (V.1 - 1 - e).toNat))
theorem psi_s (V : Hv) (t : Int → Int) (e : Nat) : psi V t (e + 1) = psi V t e + (1 + (V.2.1 e - t e) * (1 + Nb (V.1 - 1 - e).toNat)) := rfl
theorem psi_congr {V : Hv} {t t' : Int → Int} (m : Nat) (h : ∀ j : Int, 0 ≤ j → j < m → t j = t' j) : psi V t m = psi V t' m := by
  induction m with
  | zero => rfl
  | succ m ih => rw [psi_s, psi_s, ih (fun j h0 h1 => h j h0 (by omega)), h m (by omega) (by omega)]
def Psi (V : Hv) (τ : Sg) (d : Int) : Int := if d < 0 then 0 else psi V (τ 89) d.toNat + (if d < V.1 then 1 + (V.2.1 d - τ 89 d) * (1 + Nb (V.1 - 1 - d).toNat) else 1)
theorem Psi_pred {V : Hv} {τ : Sg} {d : Int} (h0 : 0 ≤ d) (h1 : d ≤ V.1) : Psi V τ (d - 1) = psi V (τ 89) d.toNat := by
  unfold Psi
  by_cases q : d = 0
  · subst q; rw [if_pos (by omega)]; rfl
  · rw [if_neg (by omega), if_pos (by omega), show d.toNat = (d - 1).toNat + 1 by omega, psi_s, show (((d - 1).toNat : Nat) : Int) = d - 1 by omega]
theorem Psi_lt {V : Hv} {τ : Sg} {d : Int} (h0 : 0 ≤ d) (h1 : d < V.1) : Psi V τ d = psi V (τ 89) d.toNat + (1 + (V.2.1 d - τ 89 d) * (1 + Nb (V.1 - 1 - d).toNat)) := by
  unfold Psi; rw [if_neg (by omega), if_pos h1]
theorem Psi_n {V : Hv} {τ : Sg} (h0 : 0 ≤ V.1) : Psi V τ V.1 = psi V (τ 89) V.1.toNat + 1 := by
  unfold Psi; rw [if_neg (by omega), if_neg (by omega)]
theorem psi_le {V : Hv} {τ : Sg} {d : Int} (hV : WV V) (h : WD V τ d) (hd : d ≤ V.1) : ∀ e : Nat, (e : Int) ≤ d → 0 ≤ psi V (τ 89) e ∧ psi V (τ 89) e + Nb (V.1 - e).toNat ≤ Nb V.1.toNat := by
  intro e
  induction e with
  | zero =>
    intro _
    refine ⟨Int.le_refl 0, ?_⟩
    show 0 + _ ≤ _
    rw [show V.1 - ((0 : Nat) : Int) = V.1 by omega]; omega
  | succ e ih =>
    intro he
    have a := ih (by omega)
    have b := h.1 e (by omega) (by omega)
    have c := hV.2.2 e (by omega) (by omega)
    have n1 := Nb_1 (V.1 - 1 - e).toNat
    rw [show (V.1 - (e : Int)).toNat = (V.1 - 1 - e).toNat + 1 by omega, Nb_s] at a
    rw [psi_s, show (V.1 - ((e + 1 : Nat) : Int)).toNat = (V.1 - 1 - e).toNat by omega]
    have m1 := Int.mul_le_mul_of_nonneg_right (show V.2.1 e - τ 89 e ≤ 3 by omega) (show 0 ≤ 1 + Nb (V.1 - 1 - e).toNat by omega)
    have m0 := Int.mul_nonneg (show 0 ≤ V.2.1 e - τ 89 e by omega) (show 0 ≤ 1 + Nb (V.1 - 1 - e).toNat by omega)
    omega
theorem Psi_le {V : Hv} {τ : Sg} {r : Int} (hV : WV V) (h : WI V τ r) : Psi V τ (τ 88 8) ≤ 174761 := by
  obtain ⟨h1, h2, h3, _⟩ := h
  have h8 := hV.2.1
  have n8 := Nb_8 (m := V.1.toNat) (by omega)
  have n1 := Nb_1 V.1.toNat
  by_cases q : τ 88 8 < 0
  · unfold Psi; rw [if_pos q]; omega
  · have a := psi_le hV h2 h1.2 (τ 88 8).toNat (by omega)
    rw [show (((τ 88 8).toNat : Nat) : Int) = τ 88 8 by omega] at a
    by_cases p : τ 88 8 < V.1
    · have b := h3 (by omega) p
      have c := hV.2.2 (τ 88 8) (by omega) p
      have n2 := Nb_1 (V.1 - 1 - τ 88 8).toNat
      rw [Psi_lt (by omega) p]
      rw [show (V.1 - τ 88 8).toNat = (V.1 - 1 - τ 88 8).toNat + 1 by omega, Nb_s] at a
      have m1 := Int.mul_le_mul_of_nonneg_right (show V.2.1 (τ 88 8) - τ 89 (τ 88 8) ≤ 4 by omega) (show 0 ≤ 1 + Nb (V.1 - 1 - τ 88 8).toNat by omega)
      omega
    · have e : τ 88 8 = V.1 := by omega
      rw [e] at a ⊢
      rw [Psi_n (by omega)]
      rw [show (V.1 - V.1).toNat = 0 by omega] at a
      have : Nb 0 = 1 := rfl
      omega
theorem Psi_1 {V : Hv} {τ : Sg} {r : Int} (hV : WV V) (h : WI V τ r) (h0 : 0 ≤ τ 88 8) : 1 ≤ Psi V τ (τ 88 8) := by
  obtain ⟨h1, h2, h3, _⟩ := h
  have a := psi_le hV h2 h1.2 (τ 88 8).toNat (by omega)
  by_cases p : τ 88 8 < V.1
  · have b := h3 (by omega) p
    have n2 := Nb_1 (V.1 - 1 - τ 88 8).toNat
    have m0 := Int.mul_nonneg (show 0 ≤ V.2.1 (τ 88 8) - τ 89 (τ 88 8) by omega) (show 0 ≤ 1 + Nb (V.1 - 1 - τ 88 8).toNat by omega)
    rw [Psi_lt (by omega) p]; omega
  · have e : τ 88 8 = V.1 := by omega
    rw [e] at a ⊢
    rw [Psi_n (by omega)]; omega
/-- what step has found -/
def Fnd (V : Hv) (r : Int) (τ : Sg) : Prop := rowIs (τ 96) (nm V r) ∧ τ 88 10 = (nm V r).length ∧ τ 88 11 = cst V r ∧ τ 88 12 = wgt V r ∧ ∀ e : Int, 0 ≤ e → e < V.1 → τ 89 e - 1 = pk V r e
theorem said_aD {V : Hv} (hV : WV V) (r : Int) : (aD V (pk V r) V.1.toNat).bind aF = if said V r = true then some (nm V r) else none := aD_sd hV (pk_WP hV r)
theorem said_t {V : Hv} (hV : WV V) {r : Int} {s : AS} {l : List Int} (h : aD V (pk V r) V.1.toNat = some s) (hl : aF s = some l) : said V r = true ∧ nm V r = l := by
  have a := said_aD hV r
  rw [h] at a
  change aF s = _ at a
  rw [hl] at a
  split at a
  · rename_i q; exact ⟨q, (Option.some.inj a).symm⟩
  · cases a
theorem said_f {V : Hv} (hV : WV V) {r : Int} (h : (aD V (pk V r) V.1.toNat).bind aF = none) : said V r = false := by
  have a := said_aD hV r
  rw [h] at a
  split at a
  · cases a
  · rename_i q; exact Bool.not_eq_true _ ▸ q
/-- the numbers of a place of the walk -/
theorem WD_p {V : Hv} {τ : Sg} {d : Int} (h : WD V τ d) : ∀ e : Int, 0 ≤ e → e < d → 0 ≤ trP τ e ∧ trP τ e < V.2.1 e := by
  intro e h0 h1
  have := h.1 e h0 h1
  unfold trP; omega
theorem T_n {V : Hv} {τ : Sg} {r : Int} (hV : WV V) (h : WI V τ r) (hd : τ 88 8 = V.1) : r = pf V (trP τ) V.1.toNat ∧ ∀ e : Int, 0 ≤ e → e < V.1 → pk V r e = trP τ e := by
  obtain ⟨_, h2, _, h4⟩ := h
  have h0 := hV.1
  rw [hd] at h2 h4
  have e : r = pf V (trP τ) V.1.toNat := by rw [h4]; unfold psn; rw [if_neg (by omega), if_neg (by omega)]
  refine ⟨e, fun j j0 j1 => pk_pf hV V.1.toNat r (by omega) (fun e e0 e1 => WD_p h2 e e0 (by omega)) ?_ j j0 (by omega)⟩
  rw [show (V.1 - (V.1.toNat : Int)).toNat = 0 by omega]
  show r / 1 = _
  rw [Int.ediv_one]; exact e
theorem psn_congr {V : Hv} {τ τ' : Sg} {d : Int} (h : ∀ e : Int, 0 ≤ e → e ≤ d → e < V.1 → τ' 89 e = τ 89 e) (h1 : d ≤ V.1) : psn V τ' d = psn V τ d := by
  unfold psn
  by_cases a : d < 0
  · rw [if_pos a, if_pos a]
  · rw [if_neg a, if_neg a]
    by_cases b : d < V.1
    · rw [if_pos b, if_pos b, h d (by omega) (by omega) b, pf_congr (p := trP τ') (p' := trP τ) d.toNat (fun j j0 j1 => by unfold trP; rw [h j j0 (by omega) (by omega)])]
    · rw [if_neg b, if_neg b, pf_congr (p := trP τ') (p' := trP τ) V.1.toNat (fun j j0 j1 => by unfold trP; rw [h j j0 (by omega) (by omega)])]
theorem Psi_congr {V : Hv} {τ τ' : Sg} {d : Int} (h : ∀ e : Int, 0 ≤ e → e ≤ d → e < V.1 → τ' 89 e = τ 89 e) (h1 : d ≤ V.1) : Psi V τ' d = Psi V τ d := by
  unfold Psi
  by_cases a : d < 0
  · rw [if_pos a, if_pos a]
  · rw [if_neg a, if_neg a]
    by_cases b : d < V.1
    · rw [if_pos b, if_pos b, h d (by omega) (by omega) b, psi_congr (t := τ' 89) (t' := τ 89) d.toNat (fun j j0 j1 => h j j0 (by omega) (by omega))]
    · rw [if_neg b, if_neg b, psi_congr (t := τ' 89) (t' := τ 89) d.toNat (fun j j0 j1 => h j j0 (by omega) (by omega))]
/-- one slot up -/
theorem WI_pred {V : Hv} {τ τ' : Sg} {d : Int} (h : WD V τ d) (h0 : 0 ≤ d) (h1 : d ≤ V.1) (hd : τ' 88 8 = d - 1) (h89 : ∀ e : Int, 0 ≤ e → e < d → τ' 89 e = τ 89 e) (hr : ∀ (c : Nat) (e : Int), 90 ≤ c → c ≤ 95 → 0 ≤ e → e ≤ d → τ' c e = τ c e) (h96 : ∀ j : Int, 0 ≤ j → j < τ 93 d → τ' 96 j = τ 96 j) : WI V τ' ((pf V (trP τ) d.toNat + 1) * pq V (V.1 - d).toNat) := by
  have hk := WD_keep h (Int.le_refl d) h89 hr h96
  have hp := psn_pred (V := V) (τ := τ') h0 h1
  refine ⟨by rw [hd]; omega, ?_, ?_, ?_⟩
  · rw [hd]; exact ⟨fun e e0 e1 => hk.1 e e0 (by omega), fun e e1 => hk.2 e (by omega)⟩
  · rw [hd]; intro a b
    have := hk.1 (d - 1) a (by omega)
    omega
  · rw [hd, hp, pf_congr (p := trP τ') (p' := trP τ) d.toNat (fun j j0 j1 => by unfold trP; rw [h89 j j0 (by omega)])]
theorem T_fin {V : Hv} {τ : Sg} {r : Int} (hV : WV V) (h : WI V τ r) (hd : τ 88 8 = V.1) (c : (τ 90 (τ 88 8) ≠ 0 ∧ τ 90 (τ 88 8) ≠ 5) ∧ τ 93 (τ 88 8) < 4) : said V r = true ∧ Fnd V r (up (finS τ (τ 88 8)) 88 8 (τ 88 8 - 1)) ∧ WI V (up (finS τ (τ 88 8)) 88 8 (τ 88 8 - 1)) (r + 1) := by
  have hn := T_n hV h hd
  obtain ⟨h1, h2, h3, h4⟩ := h
  have h0 := hV.1
  rw [hd] at h2 c ⊢
  obtain ⟨s, s1, s2, s3, s4⟩ := h2.2 V.1.toNat (by omega)
  have en : ((V.1.toNat : Nat) : Int) = V.1 := by omega
  rw [en] at s2 s3 s4
  obtain ⟨b0, b1, b2, b3, b6⟩ := s2
  have e1 : aD V (pk V r) V.1.toNat = some s := by rw [← s1]; exact aD_congr _ (fun j j0 j1 => hn.2 j j0 (by omega))
  have e2 : aF s = some (s.2.2.2 ++ [s.2.1 + s.2.2.1]) := by unfold aF; rw [b0, b3] at c; rw [if_pos c]
  have e3 := said_t hV e1 e2
  have f89 : ∀ e : Int, up (finS τ V.1) 88 8 (V.1 - 1) 89 e = τ 89 e := fun e => by unfold finS; simp (disch := omega) only [up_ne]
  refine ⟨e3.1, ⟨?_, ?_, ?_, ?_, ?_⟩, ?_⟩
  · rw [e3.2]
    refine rowIs_snoc (r := τ 96) b6 (fun j hj => ?_) ?_
    · unfold finS; rw [up_ne (by omega), up_ne (by omega), up_ne (by omega), up_ne (by omega), up_nk (by omega)]
    · unfold finS; rw [up_ne (by omega), up_ne (by omega), up_ne (by omega), up_ne (by omega), ← b3, up_eq, b1, b2]
  · rw [e3.2]; unfold finS; rw [up_nk (by omega), up_nk (by omega), up_nk (by omega), up_eq, b3, List.length_append, List.length_singleton]; omega
  · unfold finS; rw [up_nk (by omega), up_nk (by omega), up_eq, s3]; unfold cst; exact sumC_congr _ (fun j j0 j1 => (hn.2 j j0 (by omega)).symm)
  · unfold finS; rw [up_nk (by omega), up_eq, s4]; unfold wgt; exact prW_congr _ (fun j j0 j1 => (hn.2 j j0 (by omega)).symm)
  · intro e e0 e1; rw [f89, hn.2 e e0 e1]; rfl
  · have w := WI_pred (τ' := up (finS τ V.1) 88 8 (V.1 - 1)) h2 h0 (Int.le_refl _) up_eq (fun e _ _ => f89 e) (fun c e c0 c1 _ _ => by unfold finS; simp (disch := omega) only [up_ne]) (fun j j0 j1 => by unfold finS; rw [up_ne (by omega), up_ne (by omega), up_ne (by omega), up_ne (by omega), up_nk (by omega)])
    rw [show (V.1 - V.1).toNat = 0 by omega, ← hn.1, show pq V 0 = 1 from rfl, Int.mul_one] at w
    exact w
theorem T_nof {V : Hv} {τ : Sg} {r : Int} (hV : WV V) (h : WI V τ r) (hd : τ 88 8 = V.1) (c : ¬ ((τ 90 (τ 88 8) ≠ 0 ∧ τ 90 (τ 88 8) ≠ 5) ∧ τ 93 (τ 88 8) < 4)) : said V r = false ∧ WI V (up τ 88 8 (τ 88 8 - 1)) (r + 1) ∧ Psi V (up τ 88 8 (τ 88 8 - 1)) (τ 88 8 - 1) + 1 ≤ Psi V τ (τ 88 8) := by
  have hn := T_n hV h hd
  obtain ⟨h1, h2, h3, h4⟩ := h
  have h0 := hV.1
  rw [hd] at h2 c ⊢
  obtain ⟨s, s1, s2, s3, s4⟩ := h2.2 V.1.toNat (by omega)
  have en : ((V.1.toNat : Nat) : Int) = V.1 := by omega
  rw [en] at s2 s3 s4
  obtain ⟨b0, b1, b2, b3, b6⟩ := s2
  have e1 : aD V (pk V r) V.1.toNat = some s := by rw [← s1]; exact aD_congr _ (fun j j0 j1 => hn.2 j j0 (by omega))
  have e2 : aF s = none := by unfold aF; rw [b0, b3] at c; rw [if_neg c]
  have f89 : ∀ e : Int, up τ 88 8 (V.1 - 1) 89 e = τ 89 e := fun e => up_ne (by omega)
  refine ⟨said_f hV (by rw [e1]; exact e2), ?_, ?_⟩
  · have w := WI_pred (τ' := up τ 88 8 (V.1 - 1)) h2 h0 (Int.le_refl _) up_eq (fun e _ _ => f89 e) (fun c e c0 c1 _ _ => up_ne (by omega)) (fun j j0 j1 => up_ne (by omega))
    rw [show (V.1 - V.1).toNat = 0 by omega, ← hn.1, show pq V 0 = 1 from rfl, Int.mul_one] at w
    exact w
  · rw [Psi_pred h0 (Int.le_refl _), Psi_n h0, psi_congr (t := up τ 88 8 (V.1 - 1) 89) (t' := τ 89) _ (fun j _ _ => f89 j)]; omega
theorem T_pop {V : Hv} {τ : Sg} {r : Int} (hV : WV V) (h : WI V τ r) (d0 : 0 ≤ τ 88 8) (d1 : τ 88 8 < V.1) (c : V.2.1 (τ 88 8) ≤ τ 89 (τ 88 8)) : WI V (up τ 88 8 (τ 88 8 - 1)) r ∧ Psi V (up τ 88 8 (τ 88 8 - 1)) (τ 88 8 - 1) + 1 ≤ Psi V τ (τ 88 8) := by
  obtain ⟨h1, h2, h3, h4⟩ := h
  have h5 := h3 d0 d1
  generalize τ 88 8 = d at *
  have f89 : ∀ e : Int, up τ 88 8 (d - 1) 89 e = τ 89 e := fun e => up_ne (by omega)
  constructor
  · have w := WI_pred (τ' := up τ 88 8 (d - 1)) h2 d0 (by omega) up_eq (fun e _ _ => f89 e) (fun c e c0 c1 _ _ => up_ne (by omega)) (fun j j0 j1 => up_ne (by omega))
    have e : r = (pf V (trP τ) d.toNat + 1) * pq V (V.1 - d).toNat := by
      rw [h4]; unfold psn
      rw [if_neg (by omega), if_pos d1, pq_at d0 d1, ← Int.mul_assoc]
      congr 1; rw [Int.add_mul, Int.one_mul]; omega
    rw [e]; exact w
  · rw [Psi_pred d0 (by omega), Psi_lt d0 d1, psi_congr (t := up τ 88 8 (d - 1) 89) (t' := τ 89) _ (fun j _ _ => f89 j)]
    have : V.2.1 d - τ 89 d = 0 := by omega
    rw [this, Int.zero_mul]; omega
