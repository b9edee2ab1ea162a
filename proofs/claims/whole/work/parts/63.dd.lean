theorem T_ent {V : Hv} {τ : Sg} {r : Int} (hV : WV V) (h : WI V τ r) (d0 : 0 ≤ τ 88 8) (d1 : τ 88 8 < V.1) (c : τ 89 (τ 88 8) < V.2.1 (τ 88 8)) (hc4 : τ 4 (τ 88 8 * 4 + τ 89 (τ 88 8)) = V.2.2.2 (τ 88 8) (τ 89 (τ 88 8))) (ok : entOk (up τ 89 (τ 88 8) (τ 89 (τ 88 8) + 1)) (τ 88 8) (V.2.2.1 (τ 88 8) (τ 89 (τ 88 8)))) : WI V (up (up (entR (up τ 89 (τ 88 8) (τ 89 (τ 88 8) + 1)) (τ 88 8) (τ 89 (τ 88 8)) (V.2.2.1 (τ 88 8) (τ 89 (τ 88 8)))) 88 8 (τ 88 8 + 1)) 89 (τ 88 8 + 1) 0) r ∧ Psi V (up (up (entR (up τ 89 (τ 88 8) (τ 89 (τ 88 8) + 1)) (τ 88 8) (τ 89 (τ 88 8)) (V.2.2.1 (τ 88 8) (τ 89 (τ 88 8)))) 88 8 (τ 88 8 + 1)) 89 (τ 88 8 + 1) 0) (τ 88 8 + 1) + 1 ≤ Psi V τ (τ 88 8) := by
  obtain ⟨h1, h2, h3, h4⟩ := h
  have h5 := h3 d0 d1
  generalize τ 88 8 = d at *
  generalize hk : τ 89 d = k at *
  have cd := hV.2.2 d d0 d1
  have cw := cd.2.2 k h5.1 c
  have hw : 0 ≤ V.2.2.1 d k ∧ V.2.2.1 d k ≤ 31 := by omega
  obtain ⟨s, s1, s2, s3, s4⟩ := h2.2 d.toNat (by omega)
  rw [show ((d.toNat : Nat) : Int) = d by omega] at s2 s3 s4
  have hA : SA (up τ 89 d (k + 1)) d s := s2
  obtain ⟨t, t1, t2⟩ := (entR_SA (k := k) hA hw).1 ok
  generalize hw' : V.2.2.1 d k = w at *
  have x89 : ∀ e : Int, e ≠ d → e ≠ d + 1 → up (up (entR (up τ 89 d (k + 1)) d k w) 88 8 (d + 1)) 89 (d + 1) 0 89 e = τ 89 e := fun e e0 e1 => by rw [up_nk e1, up_ne (by omega), entR_ne hw (by omega), up_nk e0]
  have x89d : up (up (entR (up τ 89 d (k + 1)) d k w) 88 8 (d + 1)) 89 (d + 1) 0 89 d = k + 1 := by rw [up_nk (by omega), up_ne (by omega), entR_ne hw (by omega), up_eq]
  have x8 : up (up (entR (up τ 89 d (k + 1)) d k w) 88 8 (d + 1)) 89 (d + 1) 0 88 8 = d + 1 := by rw [up_ne (by omega), up_eq]
  have xr : ∀ (c : Nat) (e : Int), 90 ≤ c → up (up (entR (up τ 89 d (k + 1)) d k w) 88 8 (d + 1)) 89 (d + 1) 0 c e = entR (up τ 89 d (k + 1)) d k w c e := fun c e c0 => by rw [up_ne (by omega), up_ne (by omega)]
  have x90 : up (up (entR (up τ 89 d (k + 1)) d k w) 88 8 (d + 1)) 89 (d + 1) 0 89 (d + 1) = 0 := up_eq
  generalize hτ : up (up (entR (up τ 89 d (k + 1)) d k w) 88 8 (d + 1)) 89 (d + 1) 0 = τ' at *
  have xr2 : ∀ (c : Nat) (e : Int), 90 ≤ c → c ≤ 95 → e ≠ d + 1 → τ' c e = τ c e := fun c e c0 c1 e1 => by rw [xr c e c0, entR_ne hw (by omega), up_ne (by omega)]
  have kp := WD_keep (τ' := τ') h2 (Int.le_refl d) (fun e e0 e1 => x89 e (by omega) (by omega)) (fun c e c0 c1 e0 e1 => xr2 c e c0 c1 (by omega)) (fun j j0 j1 => by rw [xr 96 j (by decide), entR_96 hw (by rw [up_ne (by omega)]; omega), up_ne (by omega)])
  have hs' : aD V (trP τ') d.toNat = some s := by rw [← s1]; exact aD_congr _ (fun j j0 j1 => by unfold trP; rw [x89 j (by omega) (by omega)])
  have hAt : SA τ' (d + 1) t := by
    obtain ⟨b0, b1, b2, b3, b6⟩ := t2
    refine ⟨by rw [xr _ _ (by decide)]; exact b0, by rw [xr _ _ (by decide)]; exact b1, by rw [xr _ _ (by decide)]; exact b2, by rw [xr _ _ (by decide)]; exact b3, rowIs_keep b6 (fun j _ _ => xr 96 j (by decide))⟩
  have ext := WD_ext (τ := τ') (k := k) d0 kp x89d h5.1 c hs' (by rw [hw']; exact t1) hAt (by rw [xr 94 _ (by decide), entR_9x hw (by omega), entS_94, xr2 94 d (by decide) (by decide) (by omega), up_ne (by omega), up_ne (by omega), hc4]) (by rw [xr 95 _ (by decide), entR_9x hw (by omega), entS_95, xr2 95 d (by decide) (by decide) (by omega), up_ne (by omega), up_ne (by omega), hc4])
  have pfe : pf V (trP τ') (d + 1).toNat = pf V (trP τ) d.toNat * V.2.1 d + k := by
    rw [show (d + 1).toNat = d.toNat + 1 by omega, pf_s, show ((d.toNat : Nat) : Int) = d by omega, pf_congr (p := trP τ') (p' := trP τ) d.toNat (fun j j0 j1 => by unfold trP; rw [x89 j (by omega) (by omega)])]
    unfold trP; rw [x89d]; omega
  have hps : psn V τ d = (pf V (trP τ) d.toNat * V.2.1 d + k) * pq V (V.1 - 1 - d).toNat := by unfold psn; rw [if_neg (by omega), if_pos d1, hk]
  have psie : psi V (τ' 89) (d + 1).toNat = psi V (τ 89) d.toNat + (1 + (V.2.1 d - (k + 1)) * (1 + Nb (V.1 - 1 - d).toNat)) := by
    rw [show (d + 1).toNat = d.toNat + 1 by omega, psi_s, show ((d.toNat : Nat) : Int) = d by omega, psi_congr (t := τ' 89) (t' := τ 89) d.toNat (fun j j0 j1 => x89 j (by omega) (by omega)), x89d]
  refine ⟨⟨by omega, by rw [x8]; exact ext, ?_, ?_⟩, ?_⟩
  · rw [x8, x90]; intro _ q
    have := hV.2.2 (d + 1) (by omega) q
    omega
  · rw [x8, h4, hps]
    unfold psn
    rw [if_neg (by omega)]
    by_cases q : d + 1 < V.1
    · rw [if_pos q, pfe, x90, Int.add_zero, show V.1 - 1 - d = V.1 - (d + 1) by omega, pq_at (by omega) q, Int.mul_assoc]
    · rw [if_neg q, show V.1.toNat = (d + 1).toNat by omega, pfe, show (V.1 - 1 - d).toNat = 0 by omega, show pq V 0 = 1 from rfl, Int.mul_one]
  · rw [Psi_lt d0 d1, hk]
    have n1 := Nb_1 (V.1 - 1 - d).toNat
    have e : (V.2.1 d - (k + 1)) * (1 + Nb (V.1 - 1 - d).toNat) = (V.2.1 d - k) * (1 + Nb (V.1 - 1 - d).toNat) - (1 + Nb (V.1 - 1 - d).toNat) := by
      rw [show V.2.1 d - (k + 1) = (V.2.1 d - k) - 1 by omega, Int.sub_mul, Int.one_mul]
    by_cases q : d + 1 < V.1
    · have c2 := hV.2.2 (d + 1) (by omega) q
      rw [Psi_lt (by omega) q, psie, x90, e]
      have n2 : Nb (V.1 - 1 - d).toNat = 5 + 4 * Nb (V.1 - 1 - (d + 1)).toNat := by rw [show (V.1 - 1 - d).toNat = (V.1 - 1 - (d + 1)).toNat + 1 by omega, Nb_s]
      have n3 := Nb_1 (V.1 - 1 - (d + 1)).toNat
      have m1 := Int.mul_le_mul_of_nonneg_right (show V.2.1 (d + 1) - 0 ≤ 4 by omega) (show 0 ≤ 1 + Nb (V.1 - 1 - (d + 1)).toNat by omega)
      omega
    · have e2 : d + 1 = V.1 := by omega
      rw [e2] at psie ⊢
      rw [Psi_n (by omega), psie, e]
      omega
theorem T_enf {V : Hv} {τ : Sg} {r : Int} (hV : WV V) (h : WI V τ r) (d0 : 0 ≤ τ 88 8) (d1 : τ 88 8 < V.1) (c : τ 89 (τ 88 8) < V.2.1 (τ 88 8)) (ok : ¬ entOk (up τ 89 (τ 88 8) (τ 89 (τ 88 8) + 1)) (τ 88 8) (V.2.2.1 (τ 88 8) (τ 89 (τ 88 8)))) : WI V (entS (up τ 89 (τ 88 8) (τ 89 (τ 88 8) + 1)) (τ 88 8) (τ 89 (τ 88 8))) (r + pq V (V.1 - 1 - τ 88 8).toNat) ∧ 1 ≤ pq V (V.1 - 1 - τ 88 8).toNat ∧ (∀ y : Int, r ≤ y → y < r + pq V (V.1 - 1 - τ 88 8).toNat → said V y = false) ∧ Psi V (entS (up τ 89 (τ 88 8) (τ 89 (τ 88 8) + 1)) (τ 88 8) (τ 89 (τ 88 8))) (τ 88 8) + 1 ≤ Psi V τ (τ 88 8) := by
  obtain ⟨h1, h2, h3, h4⟩ := h
  have h5 := h3 d0 d1
  have y8 : entS (up τ 89 (τ 88 8) (τ 89 (τ 88 8) + 1)) (τ 88 8) (τ 89 (τ 88 8)) 88 8 = τ 88 8 := by rw [entS_ne (by omega), up_ne (by omega)]
  generalize τ 88 8 = d at *
  generalize hk : τ 89 d = k at *
  have cd := hV.2.2 d d0 d1
  have cw := cd.2.2 k h5.1 c
  have hw : 0 ≤ V.2.2.1 d k ∧ V.2.2.1 d k ≤ 31 := by omega
  obtain ⟨s, s1, s2, s3, s4⟩ := h2.2 d.toNat (by omega)
  rw [show ((d.toNat : Nat) : Int) = d by omega] at s2 s3 s4
  have hA : SA (up τ 89 d (k + 1)) d s := s2
  have hno := (entR_SA (k := k) hA hw).2 ok
  have x89 : ∀ e : Int, e ≠ d → entS (up τ 89 d (k + 1)) d k 89 e = τ 89 e := fun e e0 => by rw [entS_ne (by omega), up_nk e0]
  have x89d : entS (up τ 89 d (k + 1)) d k 89 d = k + 1 := by rw [entS_ne (by omega), up_eq]
  have xr : ∀ (c : Nat) (e : Int), 90 ≤ c → c ≤ 96 → e ≤ d → entS (up τ 89 d (k + 1)) d k c e = τ c e := fun c e c0 c1 e1 => by rw [entS_ne (by omega), up_ne (by omega)]
  have x96 : ∀ (e : Int), entS (up τ 89 d (k + 1)) d k 96 e = τ 96 e := fun e => by rw [entS_ne (by omega), up_ne (by omega)]
  generalize hτ : entS (up τ 89 d (k + 1)) d k = τ' at *
  have kp := WD_keep (τ' := τ') h2 (Int.le_refl d) (fun e e0 e1 => x89 e (by omega)) (fun c e c0 c1 e0 e1 => xr c e c0 (by omega) e1) (fun j j0 j1 => x96 j)
  have hpf : pf V (trP τ') d.toNat = pf V (trP τ) d.toNat := pf_congr d.toNat (fun j j0 j1 => by unfold trP; rw [x89 j (by omega)])
  have hq := pq_r hV (V.1 - 1 - d).toNat (by omega)
  have hps : r = (pf V (trP τ) d.toNat * V.2.1 d + k) * pq V (V.1 - 1 - d).toNat := by rw [h4]; unfold psn; rw [if_neg (by omega), if_pos d1, hk]
  refine ⟨⟨by omega, by rw [y8]; exact kp, ?_, ?_⟩, hq.1, ?_, ?_⟩
  · rw [y8, x89d]; intro _ _; omega
  · rw [y8]; unfold psn; rw [if_neg (by omega), if_pos d1, x89d, hpf, hps, ← Int.add_assoc, Int.add_mul _ 1, Int.one_mul]
  · intro y y0 y1
    -- the beginning with k taken at d
    have hpp : ∀ e : Int, 0 ≤ e → e < ((d.toNat + 1 : Nat) : Int) → 0 ≤ trP τ' e ∧ trP τ' e < V.2.1 e := by
      intro e e0 e1
      by_cases q : e = d
      · subst q; unfold trP; rw [x89d]; omega
      · have := WD_p kp e e0 (by omega); exact this
    have hpf1 : pf V (trP τ') (d.toNat + 1) = pf V (trP τ) d.toNat * V.2.1 d + k := by
      rw [pf_s, hpf, show ((d.toNat : Nat) : Int) = d by omega]; unfold trP; rw [x89d]; omega
    have en : (V.1 - ((d.toNat + 1 : Nat) : Int)).toNat = (V.1 - 1 - d).toNat := by omega
    have hb := pk_block (p := trP τ') hV (d := d.toNat + 1) (by omega) hpp (y := y) (by rw [hpf1, en]; omega) (by rw [hpf1, en, Int.add_mul, Int.one_mul]; omega)
    have e0 : aD V (pk V y) (d.toNat + 1) = none := by
      rw [aD_congr (p' := trP τ') (d.toNat + 1) (fun j j0 j1 => hb j j0 j1), aD_s, show aD V (trP τ') d.toNat = some s by rw [← s1]; exact aD_congr _ (fun j j0 j1 => by unfold trP; rw [x89 j (by omega)])]
      rw [show ((d.toNat : Nat) : Int) = d by omega, show trP τ' d = k by unfold trP; rw [x89d]; omega]
      exact hno
    exact said_f hV (by rw [aD_none e0 V.1.toNat (by omega)]; rfl)
  · rw [Psi_lt d0 d1, Psi_lt d0 d1, x89d, hk, psi_congr (t := τ' 89) (t' := τ 89) d.toNat (fun j j0 j1 => x89 j (by omega))]
    have n1 := Nb_1 (V.1 - 1 - d).toNat
    have e : (V.2.1 d - (k + 1)) * (1 + Nb (V.1 - 1 - d).toNat) = (V.2.1 d - k) * (1 + Nb (V.1 - 1 - d).toNat) - (1 + Nb (V.1 - 1 - d).toNat) := by
      rw [show V.2.1 d - (k + 1) = (V.2.1 d - k) - 1 by omega, Int.sub_mul, Int.one_mul]
    rw [e]; omega
