/-! ===== the law: what a call of the class keeps ===== -/
/-- the reference's half is as it was -/
def Hk (σ τ : Sg) : Prop := ∀ (c : Nat) (k : Int), 113 ≤ c → τ c k = σ c k
theorem Hk.rf {σ : Sg} : Hk σ σ := fun _ _ _ => rfl
theorem Hk.up {σ τ : Sg} (h : Hk σ τ) {c : Nat} {k v : Int} (hc : c < 113) : Hk σ (up τ c k v) := fun c' k' hc' => by rw [up_ne (by omega)]; exact h c' k' hc'
theorem hk_type {σ σ1 : Sg} {l r1 : Int} (p : (r1, σ1) = if ¬ (32 ≤ l ∧ l ≤ 126) then (-1, σ) else if σ 81 1 = 120 then (-3, σ) else (σ 81 1 + 1, up (up σ 82 (σ 81 1) l) 81 1 (σ 81 1 + 1))) : Hk σ σ1 := by
  repeat' (split at p)
  all_goals (rw [(Prod.mk.inj p).2]; first | exact Hk.rf | exact (Hk.rf.up (by decide)).up (by decide))
theorem hk_words {σ σ1 : Sg} {r1 : Int} (p : ((txF (σ 82) (σ 81 1)).1 ≠ -1 ∧ r1 = -20 - (txF (σ 82) (σ 81 1)).1 ∧ σ1 81 1 = 0 ∧ ∀ (c : Nat) (k : Int), (c < 5 ∨ 8 < c) → c ≠ 81 → σ1 c k = σ c k) ∨ ((txF (σ 82) (σ 81 1)).1 = -1 ∧ r1 = ((txF (σ 82) (σ 81 1)).2.length : Int) ∧ ∃ τ, Fm fRe σ τ ∧ EqV (cv τ 5) (slV (txF (σ 82) (σ 81 1)).2) ∧ σ1 = fgtS (up (tkSl (up τ 81 1 0) 1 5) 13 2 0))) : Hk σ σ1 := by
  rcases p with ⟨_, _, _, f⟩ | ⟨_, _, τ, fm, _, f⟩
  · intro c k hc; exact f c k (by omega) (by omega)
  · rw [f]; intro c k hc; unfold fgtS; rw [up_ne (by omega), up_ne (by omega), up_ne (by omega), up_ne (by omega), tkSl_q (by omega), up_ne (by omega)]; exact fm c k (fRe_o (by omega))
theorem hk_say {σ σ1 : Sg} {v r1 : Int} (p : (¬ (1 ≤ v ∧ v ≤ 999999) ∧ r1 = -1 ∧ σ1 = σ) ∨ ((1 ≤ v ∧ v ≤ 999999) ∧ 8 < (numW v).length ∧ r1 = -3 ∧ FH 5 σ σ1) ∨ ((1 ≤ v ∧ v ≤ 999999) ∧ (numW v).length ≤ 8 ∧ r1 = (growL (up σ 5 3 0) 5 (numW v)) 5 3 ∧ σ1 = fgtS (up (tkSl (growL (up σ 5 3 0) 5 (numW v)) 1 5) 13 2 0))) : Hk σ σ1 := by
  rcases p with ⟨_, _, f⟩ | ⟨_, _, _, f⟩ | ⟨_, _, _, f⟩
  · rw [f]; exact Hk.rf
  · intro c k hc; exact f c k (by omega)
  · rw [f]; intro c k hc; unfold fgtS; rw [up_ne (by omega), up_ne (by omega), up_ne (by omega), up_ne (by omega), tkSl_q (by omega), growL_ne (by omega), up_ne (by omega)]
theorem hk_slot {σ σ1 : Sg} {s k q r1 : Int} (p : r1 = (if ¬ (0 ≤ s ∧ s < σ 1 3) ∨ k < -1 ∨ ¬ (0 ≤ q ∧ q ≤ 1) then -1 else if k = -1 then σ 2 s else if k < σ 2 s then (if q = 0 then σ 3 (s * 4 + k) else σ 4 (s * 4 + k)) else -4) ∧ σ1 = σ) : Hk σ σ1 := by
  rw [p.2]; exact Hk.rf
theorem hk_count {σ σ1 : Sg} {q r1 : Int} (p : r1 = (if q = 0 then σ 1 3 else if q = 1 then σ 1 4 else if q = 2 then σ 1 5 else if q = 3 then nSaid (cv σ 1) (rdN (cv σ 1)).toNat else if q = 4 then nSnd (cv σ 1) (σ 1 4) (rdN (cv σ 1)).toNat else if q = 5 then nCt (cv σ 1) (σ 1 4) (σ 1 5) (rdN (cv σ 1)).toNat else if q = 6 then lkF (cv σ 1) (σ 1 4) (σ 1 5) else if q = 7 then qsF (cv σ 1) (σ 1 4) (σ 1 5) else if q = 8 then (if nxt (cv σ 1) (σ 1 4) (rdN (cv σ 1)).toNat = 9999 then -4 else nxt (cv σ 1) (σ 1 4) (rdN (cv σ 1)).toNat) else if q = 9 then (if bR (cv σ 1) (σ 1 4) = -4 then -4 else spA (cv σ 1) (σ 1 4) (cv σ 1).1.toNat) else if q = 10 then σ 13 2 else -1) ∧ SI σ1 ∧ Fm fSv σ σ1) : Hk σ σ1 := by
  intro c k hc; exact p.2.2 c k (fSv_o (by omega))
theorem hk_hear {σ σ1 : Sg} {w q r1 : Int} (p : (r1, σ1) = if ¬ (0 ≤ w ∧ w ≤ 31) ∨ ¬ (0 ≤ q ∧ q ≤ 9) then (-1, σ) else if σ 1 3 = 8 then (-3, σ) else (σ 1 3 + 1, groS (undS σ) 1 w q)) : Hk σ σ1 := by
  repeat' (split at p)
  all_goals (rw [(Prod.mk.inj p).2]; first | exact Hk.rf | exact fun c k hc => by rw [groS_ne (by omega), und_lo hc])
theorem hk_also {σ σ1 : Sg} {s w q r1 : Int} (p : (¬ ((0 ≤ s ∧ s < σ 1 3) ∧ (0 ≤ w ∧ w ≤ 31) ∧ (0 ≤ q ∧ q ≤ 9)) ∧ r1 = -1 ∧ σ1 = σ) ∨ (((0 ≤ s ∧ s < σ 1 3) ∧ (0 ≤ w ∧ w ≤ 31) ∧ (0 ≤ q ∧ q ≤ 9)) ∧ (∃ k, 0 ≤ k ∧ k < σ 2 s ∧ σ 3 (s * 4 + k) = w) ∧ r1 = -2 ∧ σ1 = σ) ∨ (((0 ≤ s ∧ s < σ 1 3) ∧ (0 ≤ w ∧ w ≤ 31) ∧ (0 ≤ q ∧ q ≤ 9)) ∧ (∀ k, 0 ≤ k → k < σ 2 s → σ 3 (s * 4 + k) ≠ w) ∧ σ 2 s = 4 ∧ r1 = -3 ∧ σ1 = σ) ∨ (((0 ≤ s ∧ s < σ 1 3) ∧ (0 ≤ w ∧ w ≤ 31) ∧ (0 ≤ q ∧ q ≤ 9)) ∧ (∀ k, 0 ≤ k → k < σ 2 s → σ 3 (s * 4 + k) ≠ w) ∧ σ 2 s < 4 ∧ r1 = σ 2 s + 1 ∧ σ1 = widS (undS σ) 1 s w q)) : Hk σ σ1 := by
  rcases p with ⟨_, _, f⟩ | ⟨_, _, _, f⟩ | ⟨_, _, _, _, f⟩ | ⟨_, _, _, _, f⟩
  · rw [f]; exact Hk.rf
  · rw [f]; exact Hk.rf
  · rw [f]; exact Hk.rf
  · rw [f]; intro c k hc; rw [widS_ne (by omega), und_lo hc]
theorem hk_lose {σ σ1 : Sg} {s r1 : Int} (p : (r1, σ1) = if ¬ (0 ≤ s ∧ s < σ 1 3) then (-1, σ) else (σ 1 3 - 1, cutS (undS σ) 1 s)) : Hk σ σ1 := by
  repeat' (split at p)
  all_goals (rw [(Prod.mk.inj p).2]; first | exact Hk.rf | exact fun c k hc => by unfold cutS; rw [up_ne (by omega), cp_ne (by omega), cp_ne (by omega), cp_ne (by omega), und_lo hc])
theorem hk_settle {σ σ1 : Sg} {s w r1 : Int} (p : (¬ ((0 ≤ s ∧ s < σ 1 3) ∧ (0 ≤ w ∧ w ≤ 31)) ∧ r1 = -1 ∧ σ1 = σ) ∨ (((0 ≤ s ∧ s < σ 1 3) ∧ (0 ≤ w ∧ w ≤ 31)) ∧ ((∀ k, 0 ≤ k → k < σ 2 s → σ 3 (s * 4 + k) ≠ w) ∨ σ 2 s = 1) ∧ r1 = -2 ∧ σ1 = σ) ∨ (((0 ≤ s ∧ s < σ 1 3) ∧ (0 ≤ w ∧ w ≤ 31)) ∧ ∃ k, (0 ≤ k ∧ k < σ 2 s ∧ σ 3 (s * 4 + k) = w ∧ ∀ j, 0 ≤ j → j < k → σ 3 (s * 4 + j) ≠ w) ∧ σ 2 s ≠ 1 ∧ r1 = σ 2 s - 1 ∧ σ1 = narS (undS σ) 1 s k)) : Hk σ σ1 := by
  rcases p with ⟨_, _, f⟩ | ⟨_, _, _, f⟩ | ⟨_, j, _, _, _, f⟩
  · rw [f]; exact Hk.rf
  · rw [f]; exact Hk.rf
  · rw [f]; intro c k hc; unfold narS; rw [up_ne (by omega), up_ne (by omega), up_ne (by omega), und_lo hc]
theorem hk_check {σ σ1 : Sg} {v r1 : Int} (p : (r1, σ1) = if ¬ (0 ≤ v ∧ v ≤ 4) then (-1, σ) else if σ 1 4 = v then (-2, σ) else (σ 1 4, up (undS σ) 1 4 v)) : Hk σ σ1 := by
  repeat' (split at p)
  all_goals (rw [(Prod.mk.inj p).2]; first | exact Hk.rf | exact fun c k hc => by rw [up_ne (by omega), und_lo hc])
theorem hk_slack {σ σ1 : Sg} {v r1 : Int} (p : (r1, σ1) = if ¬ (0 ≤ v ∧ v ≤ 20) then (-1, σ) else if σ 1 5 = v then (-2, σ) else (σ 1 5, up (undS σ) 1 5 v)) : Hk σ σ1 := by
  repeat' (split at p)
  all_goals (rw [(Prod.mk.inj p).2]; first | exact Hk.rf | exact fun c k hc => by rw [up_ne (by omega), und_lo hc])
theorem hk_storm {σ σ1 : Sg} {v r1 : Int} (p : (r1, σ1) = if ¬ (1 ≤ v ∧ v ≤ 40) then (-1, σ) else (cntA (cv (cstS σ v.toNat) 1) (cstS σ v.toNat 1 3).toNat, cstS σ v.toNat)) : Hk σ σ1 := by
  repeat' (split at p)
  all_goals (rw [(Prod.mk.inj p).2]; first | exact Hk.rf | exact fun c k hc => cst_hi _ hc)
theorem hk_undo {σ σ1 : Sg} {r1 : Int} (p : (r1, σ1) = if σ 13 2 = 0 then (-4, σ) else (σ 13 2 - 1, fgtS (backS σ))) : Hk σ σ1 := by
  repeat' (split at p)
  all_goals (rw [(Prod.mk.inj p).2]; first | exact Hk.rf | exact fun c k hc => by unfold fgtS backS; rw [up_ne (by omega), up_ne (by omega), up_ne (by omega)]; split <;> first | rw [tkS_ne (by omega), up_ne (by omega)] | rfl)
theorem hk_seed {σ σ1 : Sg} {v r1 : Int} (p : (r1, σ1) = if v < 0 then (-1, σ) else (σ 1 6, up σ 1 6 v)) : Hk σ σ1 := by
  repeat' (split at p)
  all_goals (rw [(Prod.mk.inj p).2]; first | exact Hk.rf | exact Hk.rf.up (by decide))
theorem hk_best {σ σ1 : Sg} {k r1 : Int} (p : r1 = bestF (cv σ 1) (σ 1 4) k ∧ SI σ1 ∧ Fm fSv σ σ1) : Hk σ σ1 := by
  intro c k hc; exact p.2.2 c k (fSv_o (by omega))
theorem hk_taken {σ σ1 : Sg} {k r1 : Int} (p : r1 = takenF (cv σ 1) (σ 1 4) k ∧ SI σ1 ∧ Fm fSv σ σ1) : Hk σ σ1 := by
  intro c k hc; exact p.2.2 c k (fSv_o (by omega))
theorem hk_open {σ σ1 : Sg} {s r1 : Int} (p : r1 = (if ¬ (0 ≤ s ∧ s < σ 1 3) then -1 else ((setF (fun w => decide (0 < hvn (cv σ 1) (σ 1 4) (σ 1 5) (rdN (cv σ 1)).toNat s (w : Int))) 32 : Nat) : Int)) ∧ SI σ1 ∧ Fm fSv σ σ1) : Hk σ σ1 := by
  intro c k hc; exact p.2.2 c k (fSv_o (by omega))
theorem hk_counted {σ σ1 : Sg} {k w r1 : Int} (p : (¬ (0 ≤ k ∧ 0 ≤ w ∧ w ≤ 1) ∧ r1 = -1 ∧ σ1 = σ) ∨ (0 ≤ k ∧ (0 ≤ w ∧ w ≤ 1) ∧ cdQ (cv σ 1) (σ 1 4) (σ 1 5) k w r1 ∧ SI σ1 ∧ Fm fSv σ σ1)) : Hk σ σ1 := by
  rcases p with ⟨_, _, f⟩ | ⟨_, _, _, _, f⟩
  · rw [f]; exact Hk.rf
  · intro c k hc; exact f c k (fSv_o (by omega))
theorem hk_likely {σ σ1 : Sg} {u w r1 : Int} (p : r1 = (if ¬ ((0 ≤ u ∧ u ≤ 999999) ∧ 0 ≤ w ∧ w ≤ 1) then -1 else likF (cv σ 1) (σ 1 4) u w) ∧ SI σ1 ∧ Fm fSv σ σ1) : Hk σ σ1 := by
  intro c k hc; exact p.2.2 c k (fSv_o (by omega))
theorem hk_image {σ σ1 : Sg} {r1 : Int} (p : r1 = 1 ∧ σ1 = imgS σ) : Hk σ σ1 := by
  rw [p.2]; intro c k hc; unfold imgS pastS; rw [up_ne (by omega), up_ne (by omega), up_ne (by omega), tkA_ne 8 (by omega), tkS_ne (by omega)]
theorem hk_restore {σ σ1 : Sg} {r1 : Int} (p : (r1, σ1) = if σ 0 8 = 0 then (-4, σ) else (1, rstS σ)) : Hk σ σ1 := by
  repeat' (split at p)
  all_goals (rw [(Prod.mk.inj p).2]; first | exact Hk.rf | exact fun c k hc => by unfold rstS pastS fgtS; rw [up_ne (by omega), up_ne (by omega), up_ne (by omega), up_ne (by omega), up_ne (by omega), tkA_ne 8 (by omega), tkS_ne (by omega)])
theorem hk_meant {σ σ1 : Sg} {s lane i n r1 : Int} (p : (¬ ((0 ≤ s ∧ s ≤ 3) ∧ (0 ≤ lane ∧ lane ≤ 3) ∧ 1 ≤ n ∧ n ≤ 6) ∧ r1 = -1 ∧ σ1 = σ) ∨ (((0 ≤ s ∧ s ≤ 3) ∧ (0 ≤ lane ∧ lane ≤ 3) ∧ 1 ≤ n ∧ n ≤ 6) ∧ r1 ≠ 0 ∧ r1 = (if σ (105 + 2 * s.toNat) 1 = -1 then (-11 : Int) else if σ (105 + 2 * s.toNat) 1 ≠ lane then -12 else if i < 0 ∨ n < 0 ∨ σ (105 + 2 * s.toNat) 2 - n < i then -13 else 0) ∧ σ1 = σ) ∨ (((0 ≤ s ∧ s ≤ 3) ∧ (0 ≤ lane ∧ lane ≤ 3) ∧ 1 ≤ n ∧ n ≤ 6) ∧ (if σ (105 + 2 * s.toNat) 1 = -1 then (-11 : Int) else if σ (105 + 2 * s.toNat) 1 ≠ lane then -12 else if i < 0 ∨ n < 0 ∨ σ (105 + 2 * s.toNat) 2 - n < i then -13 else 0) = 0 ∧ r1 = ((setF (mP (cv σ 1) (fun j => σ (105 + 2 * s.toNat + 1) (i + j)) n (rdN (cv σ 1)).toNat 0) 5 : Nat) : Int) ∧ SI σ1 ∧ Fm fSv σ σ1)) : Hk σ σ1 := by
  rcases p with ⟨_, _, f⟩ | ⟨_, _, _, f⟩ | ⟨_, _, _, _, f⟩
  · rw [f]; exact Hk.rf
  · rw [f]; exact Hk.rf
  · intro c k hc; exact f c k (fSv_o (by omega))
theorem hk_film {σ σ1 : Sg} {s lane i0 r1 : Int} (p : (¬ ((0 ≤ s ∧ s ≤ 3) ∧ 0 ≤ lane ∧ lane ≤ 3) ∧ r1 = -1 ∧ σ1 = σ) ∨ (((0 ≤ s ∧ s ≤ 3) ∧ 0 ≤ lane ∧ lane ≤ 3) ∧ (bR (cv σ 1) (σ 1 4)) = -4 ∧ r1 = -4 ∧ SI σ1 ∧ Fm fSv σ σ1) ∨ (((0 ≤ s ∧ s ≤ 3) ∧ 0 ≤ lane ∧ lane ≤ 3) ∧ (bR (cv σ 1) (σ 1 4)) ≠ -4 ∧ r1 ≠ 0 ∧ r1 = (if σ (105 + 2 * s.toNat) 1 = -1 then (-11 : Int) else if σ (105 + 2 * s.toNat) 1 ≠ lane then -12 else if i0 < 0 ∨ ((nm (cv σ 1) (bR (cv σ 1) (σ 1 4))).length : Int) < 0 ∨ σ (105 + 2 * s.toNat) 2 - ((nm (cv σ 1) (bR (cv σ 1) (σ 1 4))).length : Int) < i0 then -13 else 0) ∧ SI σ1 ∧ Fm fSv σ σ1) ∨ (((0 ≤ s ∧ s ≤ 3) ∧ 0 ≤ lane ∧ lane ≤ 3) ∧ (bR (cv σ 1) (σ 1 4)) ≠ -4 ∧ (if σ (105 + 2 * s.toNat) 1 = -1 then (-11 : Int) else if σ (105 + 2 * s.toNat) 1 ≠ lane then -12 else if i0 < 0 ∨ ((nm (cv σ 1) (bR (cv σ 1) (σ 1 4))).length : Int) < 0 ∨ σ (105 + 2 * s.toNat) 2 - ((nm (cv σ 1) (bR (cv σ 1) (σ 1 4))).length : Int) < i0 then -13 else 0) = 0 ∧ r1 = ((nm (cv σ 1) (bR (cv σ 1) (σ 1 4))).length : Int) ∧ flmQ σ s lane i0 ((nm (cv σ 1) (bR (cv σ 1) (σ 1 4))).length : Int) σ1)) : Hk σ σ1 := by
  rcases p with ⟨_, _, f⟩ | ⟨_, _, _, _, f⟩ | ⟨_, _, _, _, _, f⟩ | ⟨b, _, _, _, f⟩
  · rw [f]; exact Hk.rf
  · intro c k hc; exact f c k (fSv_o (by omega))
  · intro c k hc; exact f c k (fSv_o (by omega))
  · intro c k hc; exact f.2.2 c k (by omega) (by omega)
theorem hk_sheet {σ σ1 : Sg} {s lane n r1 : Int} (p : (r1, σ1) = if ¬ (0 ≤ s ∧ s ≤ 3) ∨ ¬ (0 ≤ lane ∧ lane ≤ 3) ∨ 24 < n then (-1, σ) else if n < 0 then (-14, σ) else (n, renS σ (105 + 2 * s.toNat) lane n)) : Hk σ σ1 := by
  repeat' (split at p)
  all_goals (rw [(Prod.mk.inj p).2]; first | exact Hk.rf | exact fun c k hc => by unfold renS; rw [fl_ne (by omega), up_ne (by omega), up_ne (by omega)])
theorem hk_drop {σ σ1 : Sg} {s r1 : Int} (p : (r1, σ1) = if ¬ (0 ≤ s ∧ s ≤ 3) then (-1, σ) else if σ (105 + 2 * s.toNat) 1 < 0 then (-11, σ) else (σ (105 + 2 * s.toNat) 2, renS σ (105 + 2 * s.toNat) (-1) 0)) : Hk σ σ1 := by
  repeat' (split at p)
  all_goals (rw [(Prod.mk.inj p).2]; first | exact Hk.rf | exact fun c k hc => by unfold renS; rw [fl_ne (by omega), up_ne (by omega), up_ne (by omega)])
theorem hk_item {σ σ1 : Sg} {s lane i v r1 : Int} (p : (r1, σ1) = if ¬ (0 ≤ s ∧ s ≤ 3) ∨ ¬ (0 ≤ lane ∧ lane ≤ 3) then (-1, σ) else if σ (105 + 2 * s.toNat) 1 < 0 then (-11, σ) else if σ (105 + 2 * s.toNat) 1 ≠ lane then (-12, σ) else if i < 0 ∨ σ (105 + 2 * s.toNat) 2 - 1 < i then (-13, σ) else (1, up σ (105 + 2 * s.toNat + 1) i (cutF v (σ (105 + 2 * s.toNat) 1)))) : Hk σ σ1 := by
  repeat' (split at p)
  all_goals (rw [(Prod.mk.inj p).2]; first | exact Hk.rf | exact fun c k hc => by rw [up_ne (by omega)])
theorem hk_copy {σ σ1 : Sg} {a i b j n r1 : Int} (p : (r1, σ1) = if ¬ (0 ≤ a ∧ a ≤ 3) ∨ ¬ (0 ≤ b ∧ b ≤ 3) then (-1, σ) else if σ (105 + 2 * a.toNat) 1 < 0 ∨ σ (105 + 2 * b.toNat) 1 < 0 then (-11, σ) else if σ (105 + 2 * a.toNat) 1 ≠ σ (105 + 2 * b.toNat) 1 then (-12, σ) else if n < 0 ∨ i < 0 ∨ j < 0 ∨ σ (105 + 2 * a.toNat) 2 - n < i ∨ σ (105 + 2 * b.toNat) 2 - n < j then (-13, σ) else (n, cp σ (105 + 2 * a.toNat + 1) i (105 + 2 * b.toNat + 1) j n)) : Hk σ σ1 := by
  repeat' (split at p)
  all_goals (rw [(Prod.mk.inj p).2]; first | exact Hk.rf | exact fun c k hc => by rw [cp_ne (by omega)])
/-- what the reference's calls need -/
def RH (σ : Sg) : Prop := WV (mv (σ 114)) ∧ DV (mv (σ 114)) ∧ (0 ≤ σ 114 0 ∧ σ 114 0 ≤ 8) ∧ (0 ≤ σ 114 2 ∧ σ 114 2 ≤ 20) ∧ (0 ≤ σ 113 29 ∧ σ 113 29 ≤ 8) ∧ (0 ≤ σ 114 3 ∧ σ 114 3 ≤ 2147483647) ∧ TW (σ 124) (σ 113 23) ∧ ∀ s, 0 ≤ s → s ≤ 3 → 0 ≤ σ 131 s ∧ σ 131 s ≤ 24
theorem RH_of {σ : Sg} (h : Rel σ) : RH σ := by
  obtain ⟨h1, h2, h3, h4, h5, h6⟩ := h
  have w := h1.2.1
  refine ⟨w, h1.2.2.1, ⟨w.1, w.2.1⟩, h1.2.2.2.2.1, ?_, h1.2.2.2.2.2, h4.2.1, fun s s0 s1 => (h5 s s0 s1).2.1⟩
  have := h2.2.1; have := h2.2.2.1; omega
theorem RH_hk {σ τ : Sg} (h : RH σ) (e : Hk σ τ) : RH τ := by
  have e114 : τ 114 = σ 114 := funext fun k => e 114 k (by decide)
  have e113 : τ 113 = σ 113 := funext fun k => e 113 k (by decide)
  have e124 : τ 124 = σ 124 := funext fun k => e 124 k (by decide)
  have e131 : τ 131 = σ 131 := funext fun k => e 131 k (by decide)
  unfold RH; rw [e114, e113, e124, e131]; exact h
/-- what the class's calls need -/
def CH (σ : Sg) : Prop := WV (cv σ 1) ∧ DV (cv σ 1) ∧ SI σ ∧ (0 ≤ σ 1 5 ∧ σ 1 5 ≤ 20) ∧ 0 ≤ σ 1 6 ∧ (0 ≤ σ 13 1 ∧ σ 13 1 ≤ 7) ∧ (0 ≤ σ 13 2 ∧ σ 13 2 ≤ 8) ∧ GI σ 1 ∧ SZ σ ∧ TW (σ 82) (σ 81 1)
theorem CH_of {σ : Sg} (h : Rel σ) : CH σ := by
  obtain ⟨V1, V2, V3, V4, _, _, V5⟩ := Rel_V h
  obtain ⟨h1, h2, h3, h4, h5, h6⟩ := h
  refine ⟨V4, V1.DV V3, h6, V5, ?_, h2.1, h2.2.1, ⟨⟨V4.1, V4.2.1⟩, fun i i0 i1 => ?_⟩, fun s s0 s1 => ?_, ?_⟩
  · have a := h1.1.2.2.2; have b := h1.2.2.2.2.2; omega
  · have a := V4.2.2 i i0 i1; rw [cv_c] at a; omega
  · have a := h5 s s0 s1; omega
  · refine ⟨by rw [h4.1]; exact h4.2.1.1, fun i i0 i1 => ?_⟩
    rw [h4.1] at i1; rw [h4.2.2 i i1]; exact h4.2.1.2 i i0 i1
/-! ===== the law's script ===== -/
/-- script place k as a number -/
def scr (f : Nat → Int32) (k : Int) : Int := (f k.toNat).toInt
theorem scr_r (f : Nat → Int32) (k : Int) : -2147483648 ≤ scr f k ∧ scr f k ≤ 2147483647 := by
  unfold scr
  have a := Int32.le_toInt (f k.toNat)
  have b := Int32.toInt_lt (f k.toNat)
  omega
def SX (x : Cx) (b n : Nat) (f : Nat → Int32) : Prop := va_X b n f (xs x) (xs x).heap ∧ b < (xs x).heap.size ∧ ¬ xA x b
section ZS
variable {g : G} {x : Cx} {own : String} {cc : ByteArray} {nL dp pc : Nat} {L L' : List (Nat × Value)} {S : List Value} {σ : Sg}
theorem z_sld (h : Ok g x own cc nL dp) {b n : Nat} {f : Nat → Int32} (hX : SX x b n f) {i : Int} (hi : 0 ≤ i ∧ i < n) (hn : n ≤ 3072) (d : decode cc pc = .ok (.iaload, 1)) (k : Z g x nL (pc + 1) L (vI (scr f i) :: S) σ) : Z g x nL pc L (vI i :: .ref b :: S) σ := by
  intro H locs ls hr hP hS hl
  have e : (Int32.ofInt i).toInt = i := iI_toInt (by omega)
  have e2 : (Int32.ofInt i).toNatClampNeg = i.toNat := by show (Int32.ofInt i).toInt.toNat = i.toNat; rw [e]
  refine va_sld h.1 h.2.1 hX.1 hX.2.1 hX.2.2 hS (vp_in_iff.mpr (by rw [e]; omega)) d ?_
  rw [e2]
  have k1 := k H locs ls hr hP hS hl
  have e3 : Int32.ofInt (scr f i) = f i.toNat := by unfold scr; exact Int32.ofInt_toInt _
  unfold vI at k1
  rw [e3] at k1
  exact k1
theorem z_slen (h : Ok g x own cc nL dp) {b n : Nat} {f : Nat → Int32} (hX : SX x b n f) (d : decode cc pc = .ok (.arraylength, 1)) (k : Z g x nL (pc + 1) L (vI n :: S) σ) : Z g x nL pc L (.ref b :: S) σ := by
  intro H locs ls hr hP hS hl
  refine va_slen h.1 h.2.1 hX.1 hX.2.1 hX.2.2 hS d ?_
  exact k H locs ls hr hP hS hl
theorem z_icmpE (h : Ok g x own cc nL dp) {a b off : Int} (tgt : Nat) (d : decode cc pc = .ok (.if_icmp .eq off, 3)) (ht : (pc : Int) + off = (tgt : Int)) (e : a = b) (k : Z g x nL tgt L S σ) : Z g x nL pc L (vI b :: vI a :: S) σ :=
  fun H locs ls hr hP hS hl => lv_icmp_eq h.1 h.2.1 d ht (fun _ => k H locs ls hr hP hS hl) (fun c => absurd (by rw [e]) c)
theorem z_lcmpE (h : Ok g x own cc nL dp) {a b off : Int} (tgt : Nat) (d : decode cc pc = .ok (.lcmp, 1)) (d2 : decode cc (pc + 1) = .ok (.ifCond .eq off, 3)) (ht : ((pc + 1 : Nat) : Int) + off = (tgt : Int)) (e : a = b) (k : Z g x nL tgt L S σ) : Z g x nL pc L (vL b :: vL a :: S) σ := by
  intro H locs ls hr hP hS hl
  refine W.lcmp h.1 h.2.1 d ?_
  have e0 : lg_cmp (Int64.ofInt a) (Int64.ofInt b) = 0 := by rw [e]; unfold lg_cmp; simp
  rw [e0]
  exact lv_if_eq h.1 h.2.1 d2 ht (fun _ => k H locs ls hr hP hS hl) (fun c => absurd rfl c)
end ZS
