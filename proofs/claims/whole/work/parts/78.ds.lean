/-! ===== views that are alike tell the same ===== -/
section EQ
variable {V W : Hv}
theorem EqV.n (e : EqV V W) : W.1 = V.1 := e.1.symm
theorem EqV.sy (e : EqV V W) : EqV W V := by
  refine ⟨e.1.symm, fun i i0 i1 => ?_⟩
  have a := e.2 i i0 (by rw [e.1]; exact i1)
  refine ⟨a.1.symm, fun k k0 k1 => ?_⟩
  have b := a.2 k k0 (by rw [a.1]; exact k1)
  exact ⟨b.1.symm, b.2.symm⟩
theorem EqV.WV (e : EqV V W) (hV : WV V) : WV W := by
  refine ⟨by rw [← e.1]; exact hV.1, by rw [← e.1]; exact hV.2.1, fun i i0 i1 => ?_⟩
  rw [← e.1] at i1
  have a := hV.2.2 i i0 i1
  have b := e.2 i i0 i1
  rw [← b.1]
  refine ⟨a.1, a.2.1, fun k k0 k1 => ?_⟩
  have c := b.2 k k0 k1
  rw [← c.1, ← c.2]; exact a.2.2 k k0 k1
theorem eq_pq (e : EqV V W) (m : Nat) (hm : (m : Int) ≤ V.1) : pq V m = pq W m := by
  induction m with
  | zero => rfl
  | succ m ih => rw [pq_s, pq_s, ih (by omega), (e.2 (V.1 - (m + 1)) (by omega) (by omega)).1, e.1]
theorem eq_pk (e : EqV V W) (r : Int) {k : Int} (h0 : 0 ≤ k) (h1 : k < V.1) : pk V r k = pk W r k := by
  unfold pk; rw [← e.1, eq_pq e _ (by omega), (e.2 k h0 h1).1]
theorem eq_rdN (e : EqV V W) (h0 : 0 ≤ V.1) : rdN V = rdN W := by
  unfold rdN; rw [← e.1, eq_pq e _ (by omega)]
theorem eq_lst (e : EqV V W) {p p' : Int → Int} (hp : WP V p) (hq : ∀ j : Int, 0 ≤ j → j < V.1 → p j = p' j) (m : Nat) (hm : (m : Int) ≤ V.1) : lstW V p m = lstW W p' m ∧ sumC V p m = sumC W p' m ∧ prW V p m = prW W p' m := by
  induction m with
  | zero => exact ⟨rfl, rfl, rfl⟩
  | succ m ih =>
    have a := ih (by omega)
    have b := hp m (by omega) (by omega)
    have c := (e.2 m (by omega) (by omega)).2 (p m) b.1 b.2
    rw [lstW_s, lstW_s, sumC_s, sumC_s, prW_s, prW_s, a.1, a.2.1, a.2.2, c.1, c.2, hq m (by omega) (by omega)]
    exact ⟨rfl, rfl, rfl⟩
theorem eq_sdP (e : EqV V W) (h0 : 0 ≤ V.1) {p p' : Int → Int} (hp : WP V p) (hq : ∀ j : Int, 0 ≤ j → j < V.1 → p j = p' j) : sdP V p = sdP W p' := by
  unfold sdP; rw [← e.1, (eq_lst e hp hq V.1.toNat (by omega)).1]
theorem eq_rd (e : EqV V W) (hV : WV V) (r : Int) : nm V r = nm W r ∧ said V r = said W r ∧ cst V r = cst W r ∧ wgt V r = wgt W r := by
  have h0 := hV.1
  have hp := pk_WP hV r
  have hq : ∀ j : Int, 0 ≤ j → j < V.1 → pk V r j = pk W r j := fun j j0 j1 => eq_pk e r j0 j1
  have a := eq_sdP e h0 hp hq
  have b := eq_lst e hp hq V.1.toNat (by omega)
  refine ⟨by unfold nm; rw [a], by unfold said; rw [a], by unfold cst; rw [← e.1]; exact b.2.1, by unfold wgt; rw [← e.1]; exact b.2.2⟩
theorem eq_nm (e : EqV V W) (hV : WV V) : nm V = nm W := funext fun r => (eq_rd e hV r).1
theorem eq_said (e : EqV V W) (hV : WV V) : said V = said W := funext fun r => (eq_rd e hV r).2.1
theorem eq_cst (e : EqV V W) (hV : WV V) : cst V = cst W := funext fun r => (eq_rd e hV r).2.2.1
theorem eq_wgt (e : EqV V W) (hV : WV V) : wgt V = wgt W := funext fun r => (eq_rd e hV r).2.2.2
theorem eq_snd (e : EqV V W) (hV : WV V) : snd V = snd W := by funext K r; unfold snd; rw [eq_nm e hV, eq_said e hV]
theorem eq_nSaid (e : EqV V W) (hV : WV V) : nSaid V = nSaid W := by
  funext m
  induction m with
  | zero => rfl
  | succ m ih => rw [nSaid_s, nSaid_s, ih, eq_said e hV]
theorem eq_nSnd (e : EqV V W) (hV : WV V) : nSnd V = nSnd W := by
  funext K m
  induction m with
  | zero => rfl
  | succ m ih => rw [nSnd_s, nSnd_s, ih, eq_snd e hV]
theorem eq_bst (e : EqV V W) (hV : WV V) : bst V = bst W := by
  funext K m
  induction m with
  | zero => rfl
  | succ m ih => rw [bst_s, bst_s, ih, eq_snd e hV, eq_cst e hV]
theorem eq_bR (e : EqV V W) (hV : WV V) : bR V = bR W := by funext K; unfold bR; rw [eq_bst e hV, eq_rdN e hV.1]
theorem eq_bC (e : EqV V W) (hV : WV V) : bC V = bC W := by funext K; unfold bC; rw [eq_bst e hV, eq_rdN e hV.1]
theorem eq_bestF (e : EqV V W) (hV : WV V) : bestF V = bestF W := by funext K k; unfold bestF; rw [eq_bR e hV, eq_bC e hV, eq_nm e hV]
theorem eq_takenF (e : EqV V W) (hV : WV V) : takenF V = takenF W := by
  funext K s; unfold takenF; rw [eq_bR e hV, ← e.1]
  by_cases h : ¬ (0 ≤ s ∧ s < V.1)
  · rw [if_pos h, if_pos h]
  · have h := Classical.not_not.mp h
    have b := pk_WP hV (bR W K) s h.1 h.2
    rw [((e.2 s h.1 h.2).2 _ b.1 b.2).1, eq_pk e _ h.1 h.2]
theorem eq_ctd (e : EqV V W) (hV : WV V) : ctd V = ctd W := by funext K S r; unfold ctd; rw [eq_snd e hV, eq_cst e hV, eq_bC e hV]
theorem eq_nCt (e : EqV V W) (hV : WV V) : nCt V = nCt W := by
  funext K S m
  induction m with
  | zero => rfl
  | succ m ih => rw [nCt_s, nCt_s, ih, eq_ctd e hV]
theorem eq_nxt (e : EqV V W) (hV : WV V) : nxt V = nxt W := by
  funext K m
  induction m with
  | zero => rfl
  | succ m ih => rw [nxt_s, nxt_s, ih, eq_snd e hV, eq_cst e hV, eq_nm e hV, eq_bR e hV]
theorem eq_hvn (e : EqV V W) (hV : WV V) (K S : Int) (m : Nat) {i : Int} (w : Int) (h0 : 0 ≤ i) (h1 : i < V.1) : hvn V K S m i w = hvn W K S m i w := by
  induction m with
  | zero => rfl
  | succ m ih =>
    have b := pk_WP hV m i h0 h1
    rw [hvn_s, hvn_s, ih, eq_ctd e hV, ((e.2 i h0 h1).2 _ b.1 b.2).1, eq_pk e _ h0 h1]
theorem eq_tell (e : EqV V W) (hV : WV V) : tell V = tell W := by funext a b; unfold tell; rw [eq_cst e hV, eq_nm e hV]
theorem eq_cdQ (e : EqV V W) (hV : WV V) : cdQ V = cdQ W := by
  funext K S k what r; unfold cdQ; rw [eq_ctd e hV, eq_nCt e hV, eq_tell e hV, eq_rdN e hV.1]
theorem eq_lastN (e : EqV V W) (hV : WV V) : lastN V = lastN W := by funext r; unfold lastN; rw [eq_nm e hV]
theorem eq_wAll (e : EqV V W) (hV : WV V) : wAll V = wAll W := by
  funext K m
  induction m with
  | zero => rfl
  | succ m ih => rw [wAll_s, wAll_s, ih, eq_snd e hV, eq_wgt e hV]
theorem eq_wOne (e : EqV V W) (hV : WV V) : wOne V = wOne W := by
  funext K v m
  induction m with
  | zero => rfl
  | succ m ih => rw [wOne_s, wOne_s, ih, eq_snd e hV, eq_wgt e hV, eq_lastN e hV]
theorem eq_likF (e : EqV V W) (hV : WV V) : likF V = likF W := by
  funext K v what; unfold likF; rw [eq_wAll e hV, eq_wOne e hV, eq_rdN e hV.1]
theorem eq_spC (e : EqV V W) (hV : WV V) (K : Int) {k c : Int} (h0 : 0 ≤ k) (h1 : k < V.1) (hc : 0 ≤ c ∧ c < V.2.1 k) : spC V K k c = spC W K k c := by
  have a : sdP V (alt (pk V (bR V K)) k c) = sdP W (alt (pk W (bR W K)) k c) := by
    refine eq_sdP e hV.1 (alt_WP (pk_WP hV _) hc) (fun j j0 j1 => ?_)
    unfold alt; rw [eq_bR e hV, eq_pk e _ j0 j1]
  unfold spC; rw [a]
theorem eq_spS (e : EqV V W) (hV : WV V) (K : Int) {k : Int} (h0 : 0 ≤ k) (h1 : k < V.1) (m : Nat) (hm : (m : Int) ≤ V.2.1 k) : spS V K k m = spS W K k m := by
  induction m with
  | zero => rfl
  | succ m ih => rw [spS_s, spS_s, ih (by omega), eq_spC e hV K h0 h1 ⟨by omega, by omega⟩]
theorem eq_spA (e : EqV V W) (hV : WV V) (K : Int) (m : Nat) (hm : (m : Int) ≤ V.1) : spA V K m = spA W K m := by
  induction m with
  | zero => rfl
  | succ m ih =>
    have c := hV.2.2 m (by omega) (by omega)
    rw [spA_s, spA_s, ih (by omega), eq_spS e hV K (by omega) (by omega) _ (by omega), (e.2 m (by omega) (by omega)).1]
theorem eq_mB (e : EqV V W) (hV : WV V) : mB V = mB W := by
  funext row n kd m; unfold mB lkP; rw [eq_bst e hV, eq_nm e hV]
theorem eq_mP (e : EqV V W) (hV : WV V) : mP V = mP W := by
  funext row n m k j; unfold mP; rw [eq_mB e hV]
end EQ
