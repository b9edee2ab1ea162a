theorem eq_cqF {V W : Hv} (e : EqV V W) (hV : WV V) : cqF V = cqF W := by
  funext K S t; unfold cqF; rw [eq_ctd e hV, eq_nCt e hV, eq_rdN e hV.1]
theorem eq_hvT {V W : Hv} (e : EqV V W) (hV : WV V) {c : Nat → Nat} {s : Nat} {i : Int} (w : Int) (h0 : 0 ≤ i) (h1 : i < V.1) (m : Nat) : hvT V c s i w m = hvT W c s i w m := by
  induction m with
  | zero => rfl
  | succ m ih =>
    have p := pk_WP hV (c m) i h0 h1
    rw [hvT_s, hvT_s, ih, ((e.2 i h0 h1).2 _ p.1 p.2).1, eq_pk e _ h0 h1]
theorem eq_slF {V W : Hv} (e : EqV V W) (hV : WV V) {c : Nat → Nat} {s m : Nat} : slF V c s m = slF W c s m := by
  have h0 := hV.1
  unfold slF
  rw [← e.1, lookF_congr (H := hvS V c s m) (H' := hvS W c s m) V.1.toNat (fun a w a0 a1 w0 w1 => by rw [hvS_at _ _ _ _ w0 w1, hvS_at _ _ _ _ w0 w1, eq_hvT e hV w a0 (by omega) m])]
theorem eq_leaf {V W : Hv} (e : EqV V W) (hV : WV V) {c : Nat → Nat} {s m : Nat} : leaf V c s m = leaf W c s m := by
  unfold leaf smP; rw [eq_slF e hV, eq_nm e hV]
theorem eq_prt {V W : Hv} (e : EqV V W) {c : Nat → Nat} {s m : Nat} {i : Int} (k : Int) (h0 : 0 ≤ i) (h1 : i < V.1) : prt V c s m i k = prt W c s m i k := by
  unfold prt; refine setF_congr m (fun t _ => ?_); rw [eq_pk e _ h0 h1]
theorem eq_pth {V W : Hv} (e : EqV V W) (hV : WV V) {c : Nat → Nat} {m : Nat} : ∀ (f s t : Nat), pth V c m f s t = pth W c m f s t := by
  intro f
  induction f with
  | zero => intro s t; rfl
  | succ f ih =>
    intro s t
    rw [pth_s, pth_s, ← eq_leaf e hV]
    by_cases q : leaf V c s m = true
    · rw [if_pos q, if_pos q]
    · have a := leaf_n hV q 0
      rw [if_neg q, if_neg q, ← eq_slF e hV, ← eq_pk e _ a.2.1 a.2.2.1, ← eq_prt e _ a.2.1 a.2.2.1, ih]
theorem eq_mxQ {V W : Hv} (e : EqV V W) (hV : WV V) {c : Nat → Nat} {m s : Nat} (n : Nat) : mxQ V c m s n = mxQ W c m s n := by
  induction n with
  | zero => rfl
  | succ n ih => rw [mxQ_s, mxQ_s, ih]; unfold Pq; rw [eq_pth e hV]
theorem eq_qsF {V W : Hv} (e : EqV V W) (hV : WV V) : qsF V = qsF W := by
  funext K S; unfold qsF; rw [eq_nCt e hV, eq_rdN e hV.1, eq_cqF e hV, eq_mxQ e hV]
/-! the calls that look: both answer the same -/
theorem q_mid {σ σ1 : Sg} (hF : Fm fSv σ σ1) : σ1 114 = σ 114 := hF.row 114 (fun k => fSv_o (by omega))
theorem q_best {σ σ1 σ2 : Sg} {k r1 r2 : Int} (h : Rel σ) (p : r1 = bestF (cv σ 1) (σ 1 4) k ∧ SI σ1 ∧ Fm fSv σ σ1) (q : r2 = bestF (mv (σ1 114)) (σ1 114 1) k ∧ Fm fFd σ1 σ2) : r1 = r2 ∧ Rel σ2 := by
  have v := Rel_V h
  rw [q_mid p.2.2] at q
  exact ⟨by rw [p.1, q.1, eq_bestF v.1 v.2.1, v.2.2.2.2.1], Rel_two h p.2.1 p.2.2 q.2 fFd_p⟩
theorem q_taken {σ σ1 σ2 : Sg} {k r1 r2 : Int} (h : Rel σ) (p : r1 = takenF (cv σ 1) (σ 1 4) k ∧ SI σ1 ∧ Fm fSv σ σ1) (q : r2 = takenF (mv (σ1 114)) (σ1 114 1) k ∧ Fm fFd σ1 σ2) : r1 = r2 ∧ Rel σ2 := by
  have v := Rel_V h
  rw [q_mid p.2.2] at q
  exact ⟨by rw [p.1, q.1, eq_takenF v.1 v.2.1, v.2.2.2.2.1], Rel_two h p.2.1 p.2.2 q.2 fFd_p⟩
theorem q_open {σ σ1 σ2 : Sg} {s r1 r2 : Int} (h : Rel σ) (p : r1 = (if ¬ (0 ≤ s ∧ s < σ 1 3) then -1 else ((setF (fun w => decide (0 < hvn (cv σ 1) (σ 1 4) (σ 1 5) (rdN (cv σ 1)).toNat s (w : Int))) 32 : Nat) : Int)) ∧ SI σ1 ∧ Fm fSv σ σ1) (q : (¬ (0 ≤ s ∧ s < σ1 114 0) → r2 = -1) ∧ ((0 ≤ s ∧ s < σ1 114 0) → r2 = ((setF (fun w => decide (0 < hvn (mv (σ1 114)) (σ1 114 1) (σ1 114 2) (rdN (mv (σ1 114))).toNat s (w : Int))) 32 : Nat) : Int)) ∧ Fm fCt σ1 σ2) : r1 = r2 ∧ Rel σ2 := by
  have v := Rel_V h
  rw [q_mid p.2.2] at q
  have en : σ 114 0 = σ 1 3 := v.1.1
  refine ⟨?_, Rel_two h p.2.1 p.2.2 q.2.2 fCt_p⟩
  rw [p.1]
  by_cases z : 0 ≤ s ∧ s < σ 1 3
  · rw [if_neg (fun y => y z), q.2.1 (by rw [en]; exact z), ← eq_rdN v.1 v.2.1.1, v.2.2.2.2.1, v.2.2.2.2.2.1]
    congr 1
    refine setF_congr 32 (fun w _ => ?_)
    rw [eq_hvn v.1 v.2.1 _ _ _ _ z.1 (by show s < σ 114 0; omega)]
  · rw [if_pos z, q.1 (by rw [en]; exact z)]
theorem q_counted {σ σ1 σ2 : Sg} {k w r1 r2 : Int} (h : Rel σ) (p : (¬ (0 ≤ k ∧ 0 ≤ w ∧ w ≤ 1) ∧ r1 = -1 ∧ σ1 = σ) ∨ (0 ≤ k ∧ (0 ≤ w ∧ w ≤ 1) ∧ cdQ (cv σ 1) (σ 1 4) (σ 1 5) k w r1 ∧ SI σ1 ∧ Fm fSv σ σ1)) (q : (¬ (0 ≤ k ∧ 0 ≤ w ∧ w ≤ 1) ∧ r2 = -1 ∧ σ2 = σ1) ∨ (0 ≤ k ∧ (0 ≤ w ∧ w ≤ 1) ∧ cdQ (mv (σ1 114)) (σ1 114 1) (σ1 114 2) k w r2 ∧ Fm fFd σ1 σ2)) : r1 = r2 ∧ Rel σ2 := by
  have v := Rel_V h
  rcases p with p | p
  · rcases q with q | q
    · rw [q.2.2, p.2.2]; exact ⟨by rw [p.2.1, q.2.1], h⟩
    · exact absurd ⟨q.1, q.2.1⟩ p.1
  · rcases q with q | q
    · exact absurd ⟨p.1, p.2.1⟩ q.1
    · rw [q_mid p.2.2.2.2] at q
      have a := p.2.2.1
      rw [← eq_cdQ v.1 v.2.1, ← v.2.2.2.2.1, ← v.2.2.2.2.2.1] at a
      exact ⟨cdQ_one a q.2.2.1, Rel_two h p.2.2.2.1 p.2.2.2.2 q.2.2.2 fFd_p⟩
theorem q_likely {σ σ1 σ2 : Sg} {u w r1 r2 : Int} (h : Rel σ) (p : r1 = (if ¬ ((0 ≤ u ∧ u ≤ 999999) ∧ 0 ≤ w ∧ w ≤ 1) then -1 else likF (cv σ 1) (σ 1 4) u w) ∧ SI σ1 ∧ Fm fSv σ σ1) (q : (¬ ((0 ≤ u ∧ u ≤ 999999) ∧ 0 ≤ w ∧ w ≤ 1) ∧ r2 = -1 ∧ σ2 = σ1) ∨ ((0 ≤ u ∧ u ≤ 999999) ∧ (0 ≤ w ∧ w ≤ 1) ∧ r2 = likF (mv (σ1 114)) (σ1 114 1) u w ∧ Fm fTk σ1 σ2)) : r1 = r2 ∧ Rel σ2 := by
  have v := Rel_V h
  rcases q with q | q
  · rw [q.2.2]
    refine ⟨by rw [p.1, if_pos q.1, q.2.1], ?_⟩
    exact Rel_two (p := fun _ _ => false) h p.2.1 p.2.2 (fun _ _ _ => rfl) (fun _ _ _ => rfl)
  · rw [q_mid p.2.2] at q
    exact ⟨by rw [p.1, if_neg (fun z => z ⟨q.1, q.2.1⟩), q.2.2.1, eq_likF v.1 v.2.1, v.2.2.2.2.1], Rel_two h p.2.1 p.2.2 q.2.2.2 fTk_p⟩
