/-! ===== storm, both halves ===== -/
theorem turn_lo {σ : Sg} {c : Nat} {k : Int} (h : c < 113) : turnS σ c k = σ c k := by
  have e : trn0 σ c k = σ c k := by unfold trn0; rw [up_ne (by omega), noteS_ne (by omega)]
  unfold turnS; split
  · unfold comS; rw [up_ne (by omega), up_ne (by omega), up_ne (by omega), e]
  · exact e
theorem und_lo {σ : Sg} {c : Nat} {k : Int} (h : 113 ≤ c) : undS σ c k = σ c k := undS_r (by omega)
theorem ctn_hi {σ : Sg} {c : Nat} {k : Int} (h : 113 ≤ c) : ctnS σ c k = σ c k := by
  unfold ctnS; rw [ctr_ne (by omega), und_lo h]
/-- the two halves of a world -/
def glu (a b : Sg) : Sg := fun c k => if c < 113 then a c k else b c k
theorem glu_lo {a b : Sg} {c : Nat} (h : c < 113) : glu a b c = a c := funext fun k => if_pos h
theorem glu_hi {a b : Sg} {c : Nat} (h : 113 ≤ c) : glu a b c = b c := funext fun k => if_neg (by omega)
theorem glu_up_hi {a b : Sg} {c : Nat} {k v : Int} (h : 113 ≤ c) : glu a (up b c k v) = up (glu a b) c k v := by
  funext c' k'; simp only [glu, up]
  by_cases e : c' < 113
  · simp only [if_pos e, if_neg (show ¬ c' = c by omega)]
  · simp only [if_neg e]
theorem glu_up_lo {a b : Sg} {c : Nat} {k v : Int} (h : c < 113) : glu (up a c k v) b = up (glu a b) c k v := by
  funext c' k'; simp only [glu, up]
  by_cases e : c' < 113
  · simp only [if_pos e]
  · simp only [if_neg e, if_neg (show ¬ c' = c by omega)]
theorem glu_fl_hi {a b : Sg} {c : Nat} {lo hi : Int} {f : Int → Int} (h : 113 ≤ c) : glu a (fl b c lo hi f) = fl (glu a b) c lo hi f := by
  funext c' k'; simp only [glu, fl]
  by_cases e : c' < 113
  · simp only [if_pos e, if_neg (show ¬ (c' = c ∧ lo ≤ k' ∧ k' < hi) by omega)]
  · simp only [if_neg e]
theorem glu_note1 (a b : Sg) : note1 (glu a b) = glu a (note1 b) := by
  unfold note1
  rw [glu_hi (c := 113) (by decide), glu_hi (c := 127) (by decide)]
  split
  · rw [glu_up_hi (by decide), glu_fl_hi (by decide)]
  · rfl
theorem glu_noteS (a b : Sg) : noteS (glu a b) = glu a (noteS b) := by
  unfold noteS
  rw [glu_note1, glu_hi (c := 113) (by decide), glu_hi (c := 114) (by decide), glu_up_hi (by decide), glu_fl_hi (by decide)]
theorem glu_trn0 (a b : Sg) : trn0 (glu a b) = glu a (trn0 b) := by
  unfold trn0; rw [glu_noteS, glu_hi (c := 114) (by decide), glu_up_hi (by decide)]
theorem glu_comS (a b : Sg) (s w q : Int) : comS (glu a b) s w q = glu a (comS b s w q) := by
  unfold comS; rw [glu_hi (c := 114) (by decide), glu_up_hi (by decide), glu_up_hi (by decide), glu_up_hi (by decide)]
theorem glu_turn (a b : Sg) : turnS (glu a b) = glu a (turnS b) := by
  unfold turnS trnC
  rw [glu_trn0, glu_comS, glu_hi (c := 114) (by decide)]
  split <;> rfl
theorem glu_storm (a b : Sg) (n : Nat) : stormS (glu a b) n = glu a (stormS b n) := by
  induction n with
  | zero => rfl
  | succ n ih => show turnS (stormS (glu a b) n) = _; rw [ih, glu_turn]; rfl
theorem glu_self (a : Sg) : glu a a = a := by funext c k; unfold glu; split <;> rfl
theorem glu_cp {a b : Sg} {x y : Nat} {i j n : Int} (hx : x < 113) (hy : y < 113) : glu (cp a x i y j n) b = cp (glu a b) x i y j n := by
  funext c' k'; simp only [glu, cp]
  by_cases e : c' < 113
  · simp only [if_pos e, if_pos hx, if_pos hy]
  · simp only [if_neg e, if_neg (show ¬ c' = y by omega)]
theorem glu_tkS {a b : Sg} {o q : Nat} (ho : o < 100) (hq : q < 100) : tkS (glu a b) o q = glu (tkS a o q) b := by
  unfold tkS tkSl
  rw [glu_up_lo (by omega), glu_up_lo (by omega), glu_up_lo (by omega), glu_up_lo (by omega), glu_cp (by omega) (by omega), glu_cp (by omega) (by omega), glu_cp (by omega) (by omega), glu_lo (c := q) (by omega)]
theorem glu_keep1 (a b : Sg) : keep1 (glu a b) = glu (keep1 a) b := by
  unfold keep1
  rw [glu_lo (c := 13) (by decide)]
  split
  · rw [glu_up_lo (by decide), glu_up_lo (by decide)]
  · rfl
theorem glu_keepS (a b : Sg) : keepS (glu a b) = glu (keepS a) b := by
  unfold keepS
  rw [glu_keep1, glu_lo (c := 13) (by decide), glu_tkS (by omega) (by omega), glu_up_lo (by decide)]
theorem glu_undS (a b : Sg) : undS (glu a b) = glu (undS a) b := by
  unfold undS fgtS
  rw [glu_keepS, glu_up_lo (by decide), glu_up_lo (by decide), glu_up_lo (by decide)]
theorem glu_ctr (a b : Sg) : ctrS (glu a b) 1 = glu (ctrS a 1) b := by
  unfold ctrS widS
  rw [glu_lo (c := 1) (by decide), glu_lo (c := 1 + 1) (by decide), glu_lo (c := 1 + 2) (by decide)]
  split
  · rw [glu_up_lo (by decide), glu_up_lo (by decide), glu_up_lo (by decide), glu_up_lo (by decide), ← glu_up_lo (by decide), glu_lo (c := 1 + 1) (by decide)]
  · rw [glu_up_lo (by decide)]
theorem glu_ctn (a b : Sg) : ctnS (glu a b) = glu (ctnS a) b := by
  unfold ctnS; rw [glu_undS, glu_ctr]
theorem cst_hi {σ : Sg} (n : Nat) {c : Nat} {k : Int} (h : 113 ≤ c) : cstS σ n c k = σ c k := by
  induction n with
  | zero => rfl
  | succ n ih => show ctnS (cstS σ n) c k = _; rw [ctn_hi h, ih]
theorem cst_glu (σ : Sg) (n : Nat) : cstS σ n = glu (cstS σ n) σ := by
  funext c k; unfold glu; split
  · rfl
  · rw [cst_hi n (by omega)]
/-- a turn on both sides -/
theorem R1_drw {σ τ : Sg} {d : Int} (h : R1 σ) (hd : 0 ≤ d ∧ d ≤ 2147483647) (e1 : ∀ k : Int, k ≠ 6 → τ 1 k = σ 1 k) (e6 : τ 1 6 = d) (e : ∀ (c : Nat) (k : Int), 2 ≤ c → c ≤ 4 → τ c k = σ c k) (f : ∀ k : Int, k ≠ 3 → τ 114 k = σ 114 k) (f3 : τ 114 3 = d) : R1 τ := by
  refine ⟨HR_meta h.1 h.2 (e1 _ (by decide)) (fun c k c0 c1 => e c k (by omega) (by omega)) (f _ (by decide)) (fun k k0 k1 => f _ (by omega)) ?_ ?_ ?_, HW_meta h.2 (f _ (by decide)) (fun k k0 k1 => f _ (by omega)) ?_ ?_ ?_⟩
  · rw [f _ (by decide), e1 _ (by decide)]; exact h.1.2.1
  · rw [f _ (by decide), e1 _ (by decide)]; exact h.1.2.2.1
  · rw [f3, e6]
  · rw [f _ (by decide)]; exact h.2.2.2.1
  · rw [f _ (by decide)]; exact h.2.2.2.2.1
  · rw [f3]; exact hd
theorem q_turn {σ : Sg} (h : Rel σ) : Rel (turnS (ctnS σ)) := by
  obtain ⟨⟨n0, n1, n2⟩, hs⟩ := R1_sOK h.1
  have e3 : σ 114 3 = σ 1 6 := h.1.1.2.2.2
  have hd := drw_r (σ 1 6)
  have x114 : ctnS σ 114 = σ 114 := funext fun k => ctn_hi (by decide)
  by_cases b : (0 < σ 1 3 ∧ σ 2 (drw (σ 1 6) / 65536 % σ 1 3) < 4 ∧ ∀ k, 0 ≤ k → k < σ 2 (drw (σ 1 6) / 65536 % σ 1 3) → σ 3 (drw (σ 1 6) / 65536 % σ 1 3 * 4 + k) ≠ drw (σ 1 6) / 65536 / 8 % 32)
  · have hs0 : 0 ≤ drw (σ 1 6) / 65536 % σ 1 3 ∧ drw (σ 1 6) / 65536 % σ 1 3 < σ 1 3 := ⟨Int.emod_nonneg _ (by omega), Int.emod_lt_of_pos _ (by omega)⟩
    have hw0 : 0 ≤ drw (σ 1 6) / 65536 / 8 % 32 ∧ drw (σ 1 6) / 65536 / 8 % 32 ≤ 31 := by omega
    have hq0 : 0 ≤ drw (σ 1 6) / 65536 / 256 % 10 ∧ drw (σ 1 6) / 65536 / 256 % 10 ≤ 9 := by omega
    have hT : trnC (ctnS σ) (drw (ctnS σ 114 3) / 65536) := by
      unfold trnC
      rw [x114, e3, n0]
      obtain ⟨a1, a2, a3, a4⟩ := hs _ hs0.1 hs0.2
      refine ⟨b.1, by rw [a1]; exact b.2.1, fun k k0 k1 g => ?_⟩
      rw [a1] at k1
      exact b.2.2 k k0 k1 ((a3 k k0 k1).1.symm.trans g)
    have f : ctnS σ = widS (up (undS σ) 1 6 (drw (σ 1 6))) 1 (drw (σ 1 6) / 65536 % σ 1 3) (drw (σ 1 6) / 65536 / 8 % 32) (drw (σ 1 6) / 65536 / 256 % 10) := by
      unfold ctnS ctrS
      split
      · simp only [undS_1 (show (1 : Nat) < 13 by decide), undS_1 (show (1 + 1 : Nat) < 13 by decide), undS_1 (show (1 + 2 : Nat) < 13 by decide)]
      · rename_i nb
        exact (nb (by simp only [undS_1 (show (1 : Nat) < 13 by decide), undS_1 (show (1 + 1 : Nat) < 13 by decide), undS_1 (show (1 + 2 : Nat) < 13 by decide)]; exact b)).elim
    have f2 : turnS (ctnS σ) = comS (trn0 (ctnS σ)) (drw (σ 1 6) / 65536 % σ 1 3) (drw (σ 1 6) / 65536 / 8 % 32) (drw (σ 1 6) / 65536 / 256 % 10) := by
      unfold turnS; rw [if_pos hT, x114, e3, n0]
    obtain ⟨a1, a2, a3, a4⟩ := hs _ hs0.1 hs0.2
    obtain ⟨b1, b2, k2⟩ := b
    generalize drw (σ 1 6) / 65536 % σ 1 3 = s at *
    generalize drw (σ 1 6) / 65536 / 8 % 32 = w at *
    generalize drw (σ 1 6) / 65536 / 256 % 10 = q at *
    have gE : widS (up (undS σ) 1 6 (drw (σ 1 6))) 1 s w q = up (up (up (up (undS σ) 1 6 (drw (σ 1 6))) 3 (s * 4 + σ 2 s) w) 4 (s * 4 + σ 2 s) q) 2 s (σ 2 s + 1) := by
      unfold widS; rw [up_ne (by decide), undS_1 (by decide)]
    rw [gE] at f
    have gF : comS (trn0 (ctnS σ)) s w q = up (up (up (up (noteS (ctnS σ)) 114 3 (drw (σ 1 6))) 114 (4 + 9 * s + 1 + σ 2 s) w) 114 (4 + 9 * s + 5 + σ 2 s) q) 114 (4 + 9 * s) (σ 2 s + 1) := by
      unfold comS; rw [trn0_n _ (by omega), x114, a1]; unfold trn0; rw [x114, e3]
    rw [gF] at f2
    generalize drw (σ 1 6) = d at *
    generalize ctnS σ = σ1 at *
    generalize turnS σ1 = σ2 at *
    have x0 : ∀ (c : Nat) (k : Int), (c = 0 ∨ 5 ≤ c) → σ1 c k = undS σ c k := fun c k hc => by
      rw [f, up_ne (by omega), up_ne (by omega), up_ne (by omega), up_ne (by omega)]
    have x1 : ∀ k : Int, k ≠ 6 → σ1 1 k = σ 1 k := fun k hk => by
      rw [f, up_ne (by decide), up_ne (by decide), up_ne (by decide), up_nk hk, undS_1 (by decide)]
    have x6 : σ1 1 6 = d := by rw [f, up_ne (by decide), up_ne (by decide), up_ne (by decide), up_eq]
    have c2 : ∀ k : Int, k ≠ s → σ1 2 k = σ 2 k := fun k hk => by rw [f, up_nk hk, up_ne (by decide), up_ne (by decide), up_ne (by decide), undS_1 (by decide)]
    have c2s : σ1 2 s = σ 2 s + 1 := by rw [f, up_eq]
    have c3 : ∀ k : Int, k ≠ s * 4 + σ 2 s → σ1 3 k = σ 3 k := fun k hk => by rw [f, up_ne (by decide), up_ne (by decide), up_nk hk, up_ne (by decide), undS_1 (by decide)]
    have c3s : σ1 3 (s * 4 + σ 2 s) = w := by rw [f, up_ne (by decide), up_ne (by decide), up_eq]
    have c4 : ∀ k : Int, k ≠ s * 4 + σ 2 s → σ1 4 k = σ 4 k := fun k hk => by rw [f, up_ne (by decide), up_nk hk, up_ne (by decide), up_ne (by decide), undS_1 (by decide)]
    have c4s : σ1 4 (s * 4 + σ 2 s) = q := by rw [f, up_ne (by decide), up_eq]
    have y0 : ∀ (c : Nat) (k : Int), c ≠ 114 → σ2 c k = noteS σ1 c k := fun c k hc => by rw [f2, up_ne hc, up_ne hc, up_ne hc, up_ne hc]
    have y1 : ∀ (c : Nat) (k : Int), c < 113 → σ2 c k = σ1 c k := fun c k hc => by rw [y0 c k (by omega), noteS_ne (by omega)]
    have z : ∀ k : Int, k ≠ 3 → k ≠ 4 + 9 * s → k ≠ 4 + 9 * s + 1 + σ 2 s → k ≠ 4 + 9 * s + 5 + σ 2 s → σ2 114 k = σ 114 k := fun k b0 b1 b2 b3 => by
      rw [f2, up_nk b1, up_nk b3, up_nk b2, up_nk b0, noteS_ne (by omega), x114]
    have z3 : σ2 114 3 = d := by rw [f2, up_nk (by omega), up_nk (by omega), up_nk (by omega), up_eq]
    have z0 : σ2 114 (4 + 9 * s) = σ 2 s + 1 := by rw [f2, up_eq]
    have z1 : σ2 114 (4 + 9 * s + 1 + σ 2 s) = w := by rw [f2, up_nk (by omega), up_nk (by omega), up_eq]
    have z5 : σ2 114 (4 + 9 * s + 5 + σ 2 s) = q := by rw [f2, up_nk (by omega), up_eq]
    have w13 : σ2 1 3 = σ 1 3 := by rw [y1 _ _ (by decide), x1 _ (by decide)]
    have hR : R1 (up (up σ 1 6 d) 114 3 d) := R1_drw h.1 hd (fun k hk => by rw [up_ne (by decide), up_nk hk]) (by rw [up_ne (by decide), up_eq]) (fun c k c0 c1 => by rw [up_ne (by omega), up_ne (by omega)]) (fun k hk => by rw [up_nk hk, up_ne (by decide)]) (by rw [up_eq])
    refine Rel_und h (σ1 := σ1) (fun c k hc => x0 c k (by omega)) (fun c k hc => y0 c k (by omega)) (R1_of hR ?_ ?_ (fun i i0 i1 => ?_) (fun k k0 k1 => ?_) (fun k k0 k1 => ?_))
    · rw [z 0 (by omega) (by omega) (by omega) (by omega), w13, n0]
    · rw [w13]; omega
    · rw [w13] at i1
      by_cases g : i = s
      · rw [g]
        have w2 : σ2 2 s = σ 2 s + 1 := by rw [y1 _ _ (by decide), c2s]
        refine ⟨by rw [z0, w2], by rw [w2]; omega, fun k k0 k1 => ?_, fun k l k0 k1 l0 l1 g2 => ?_⟩
        · rw [w2] at k1
          rw [y1 3 _ (by decide), y1 4 _ (by decide)]
          by_cases g2 : k = σ 2 s
          · rw [g2, z1, z5, c3s, c4s]; exact ⟨rfl, rfl, hw0, hq0⟩
          · rw [z _ (by omega) (by omega) (by omega) (by omega), z _ (by omega) (by omega) (by omega) (by omega), c3 _ (by omega), c4 _ (by omega)]
            exact a3 k k0 (by omega)
        · rw [w2] at k1 l1
          rw [y1 _ _ (by decide), y1 _ _ (by decide)] at g2
          by_cases g3 : k = σ 2 s
          · by_cases g4 : l = σ 2 s
            · omega
            · rw [g3, c3s, c3 _ (by omega)] at g2
              exact absurd g2.symm (k2 l l0 (by omega))
          · by_cases g4 : l = σ 2 s
            · rw [g4, c3s, c3 _ (by omega)] at g2
              exact absurd g2 (k2 k k0 (by omega))
            · rw [c3 _ (by omega), c3 _ (by omega)] at g2
              exact a4 k l k0 (by omega) l0 (by omega) g2
      · refine sOK_keep (hs i i0 i1) (fun k k0 k1 => z _ (by omega) (by omega) (by omega) (by omega)) (by rw [y1 _ _ (by decide), c2 _ g]) (fun k k0 k1 => ?_)
        rw [y1 _ _ (by decide), y1 _ _ (by decide), c3 _ (by omega), c4 _ (by omega)]; exact ⟨rfl, rfl⟩
    · rw [y1 _ _ (by decide), up_ne (by decide)]
      by_cases g : k = 6
      · rw [g, x6, up_eq]
      · rw [x1 k g, up_nk g]
    · by_cases g : k = 3
      · rw [g, z3, up_eq]
      · rw [z k g (by omega) (by omega) (by omega), up_nk g, up_ne (by decide)]
  · have hT : ¬ trnC (ctnS σ) (drw (ctnS σ 114 3) / 65536) := by
      unfold trnC
      rw [x114, e3, n0]
      rintro ⟨t1, t2, t3⟩
      have hs0 : 0 ≤ drw (σ 1 6) / 65536 % σ 1 3 ∧ drw (σ 1 6) / 65536 % σ 1 3 < σ 1 3 := ⟨Int.emod_nonneg _ (by omega), Int.emod_lt_of_pos _ (by omega)⟩
      obtain ⟨a1, a2, a3, a4⟩ := hs _ hs0.1 hs0.2
      rw [a1] at t2 t3
      exact b ⟨t1, t2, fun k k0 k1 g => t3 k k0 k1 ((a3 k k0 k1).1.trans g)⟩
    have f : ctnS σ = up (undS σ) 1 6 (drw (σ 1 6)) := by
      unfold ctnS ctrS
      split
      · rename_i nb
        refine (b ?_).elim
        simp only [undS_1 (show (1 : Nat) < 13 by decide), undS_1 (show (1 + 1 : Nat) < 13 by decide), undS_1 (show (1 + 2 : Nat) < 13 by decide)] at nb
        exact nb
      · simp only [undS_1 (show (1 : Nat) < 13 by decide), undS_1 (show (1 + 1 : Nat) < 13 by decide), undS_1 (show (1 + 2 : Nat) < 13 by decide)]
    have f2 : turnS (ctnS σ) = up (noteS (ctnS σ)) 114 3 (drw (σ 1 6)) := by
      unfold turnS; rw [if_neg hT]; unfold trn0; rw [x114, e3]
    generalize drw (σ 1 6) = d at *
    generalize ctnS σ = σ1 at *
    generalize turnS σ1 = σ2 at *
    have y0 : ∀ (c : Nat) (k : Int), c ≠ 114 → σ2 c k = noteS σ1 c k := fun c k hc => by rw [f2, up_ne hc]
    refine Rel_und h (σ1 := σ1) (fun c k hc => by rw [f, up_ne (by omega)]) (fun c k hc => y0 c k (by omega)) (R1_drw h.1 hd (fun k hk => ?_) ?_ (fun c k c0 c1 => ?_) (fun k hk => ?_) ?_)
    · rw [y0 _ _ (by decide), noteS_ne (by omega), f, up_nk hk, undS_1 (by decide)]
    · rw [y0 _ _ (by decide), noteS_ne (by omega), f, up_eq]
    · rw [y0 _ _ (by omega), noteS_ne (by omega), f, up_ne (by omega), undS_1 (by omega)]
    · rw [f2, up_nk hk, noteS_ne (by omega), x114]
    · rw [f2, up_eq]
theorem q_stn {σ : Sg} (h : Rel σ) (n : Nat) : Rel (glu (cstS σ n) (stormS σ n)) := by
  induction n with
  | zero => show Rel (glu σ σ); rw [glu_self]; exact h
  | succ n ih =>
    have := q_turn ih
    rw [glu_ctn, glu_turn] at this
    exact this
theorem eq_cntA {V W : Hv} (e : EqV V W) (m : Nat) : (m : Int) ≤ V.1 → cntA V m = cntA W m := by
  induction m with
  | zero => intro _; rfl
  | succ m ih => intro hm; rw [cntA_s, cntA_s, ih (by omega), (e.2 m (by omega) (by omega)).1]
theorem q_storm {σ σ1 σ2 : Sg} {v r1 r2 : Int} (h : Rel σ) (p : (r1, σ1) = if ¬ (1 ≤ v ∧ v ≤ 40) then (-1, σ) else (cntA (cv (cstS σ v.toNat) 1) (cstS σ v.toNat 1 3).toNat, cstS σ v.toNat)) (q : (r2, σ2) = if ¬ (1 ≤ v ∧ v ≤ 40) then (-1, σ1) else (cntA (mv (stormS σ1 v.toNat 114)) (stormS σ1 v.toNat 114 0).toNat, stormS σ1 v.toNat)) : r1 = r2 ∧ Rel σ2 := by
  by_cases b : ¬ (1 ≤ v ∧ v ≤ 40)
  · rw [if_pos b] at p q; cases p; cases q; exact ⟨rfl, h⟩
  · rw [if_neg b] at p q
    obtain ⟨e, f⟩ := Prod.mk.inj p
    obtain ⟨e2, f2⟩ := Prod.mk.inj q
    have g : stormS σ1 v.toNat = glu (cstS σ v.toNat) (stormS σ v.toNat) := by
      rw [f, cst_glu, glu_storm]; funext c k; unfold glu; split <;> simp_all
    have hR := q_stn h v.toNat
    rw [← g, ← f2] at hR
    have lo : ∀ c, c < 113 → σ2 c = cstS σ v.toNat c := fun c hc => by rw [f2, g, glu_lo hc]
    obtain ⟨V1, V2, V3, V4, _⟩ := Rel_V hR
    refine ⟨?_, hR⟩
    rw [e, e2, ← f2]
    have ec : cv (cstS σ v.toNat) 1 = cv σ2 1 := (cv_of (fun c k c0 c1 => by rw [lo c (by omega)])).symm
    have e13 : cstS σ v.toNat 1 3 = σ2 1 3 := by rw [lo 1 (by decide)]
    have n0 : σ2 114 0 = σ2 1 3 := V1.1
    have w1 := V2.1
    rw [mv_n] at w1
    rw [ec, e13, ← n0]
    exact (eq_cntA V1 _ (by rw [mv_n]; omega)).symm
