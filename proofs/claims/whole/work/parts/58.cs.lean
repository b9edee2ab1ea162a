/-- a turn of the class's storm, kept for undo -/
noncomputable def ctnS (σ : Sg) : Sg := ctrS (undS σ) 1
noncomputable def cstS (σ : Sg) : Nat → Sg
  | 0 => σ
  | n + 1 => ctnS (cstS σ n)
/-- what a turn needs -/
def CTI (σ : Sg) : Prop := WV (cv σ 1) ∧ 0 ≤ σ 1 6 ∧ (0 ≤ σ 13 1 ∧ σ 13 1 ≤ 7) ∧ (0 ≤ σ 13 2 ∧ σ 13 2 ≤ 8)
theorem cv_und (σ : Sg) : cv (undS σ) 1 = cv σ 1 := by
  unfold cv; simp only [undS_1 (show (1 : Nat) < 13 by decide), undS_1 (show (1 + 1 : Nat) < 13 by decide), undS_1 (show (1 + 2 : Nat) < 13 by decide), undS_1 (show (1 + 3 : Nat) < 13 by decide)]
theorem WV_wid {V W : Hv} {s w q : Int} (hV : WV V) (hn : W.1 = V.1) (hs : V.2.1 s < 4) (hw : 0 ≤ w ∧ w ≤ 31) (hq : 0 ≤ q ∧ q ≤ 9) (h1 : ∀ i, 0 ≤ i → i < V.1 → i ≠ s → W.2.1 i = V.2.1 i ∧ ∀ k, 0 ≤ k → k < V.2.1 i → W.2.2.1 i k = V.2.2.1 i k ∧ W.2.2.2 i k = V.2.2.2 i k) (h2 : W.2.1 s = V.2.1 s + 1) (h3 : ∀ k, 0 ≤ k → k < V.2.1 s → W.2.2.1 s k = V.2.2.1 s k ∧ W.2.2.2 s k = V.2.2.2 s k) (h4 : W.2.2.1 s (V.2.1 s) = w) (h5 : W.2.2.2 s (V.2.1 s) = q) : WV W := by
  refine ⟨by rw [hn]; exact hV.1, by rw [hn]; exact hV.2.1, fun i i0 i1 => ?_⟩
  rw [hn] at i1
  have a := hV.2.2 i i0 i1
  by_cases e : i = s
  · subst e
    refine ⟨by omega, by omega, fun k k0 k1 => ?_⟩
    by_cases e2 : k = V.2.1 i
    · subst e2; rw [h4, h5]; omega
    · have b := a.2.2 k k0 (by omega)
      have c := h3 k k0 (by omega)
      rw [c.1, c.2]; exact b
  · have b := h1 i i0 i1 e
    refine ⟨by omega, by omega, fun k k0 k1 => ?_⟩
    have c := b.2 k k0 (by omega)
    rw [c.1, c.2]; exact a.2.2 k k0 (by omega)
theorem WV_widS {σ : Sg} {o : Nat} {s w q : Int} (hV : WV (cv σ o)) (h0 : 0 ≤ s) (h1 : s < σ o 3) (hs : σ (o + 1) s < 4) (hw : 0 ≤ w ∧ w ≤ 31) (hq : 0 ≤ q ∧ q ≤ 9) : WV (cv (widS σ o s w q) o) := by
  have a := hV.2.2 s h0 h1
  rw [cv_c] at a
  refine WV_wid (s := s) (w := w) (q := q) hV ?_ hs hw hq (fun i i0 i1 ne => ⟨?_, fun k k0 k1 => ⟨?_, ?_⟩⟩) ?_ (fun k k0 k1 => ⟨?_, ?_⟩) ?_ ?_
  · rw [cv_n, cv_n]; unfold widS; rw [up_ne (by omega), up_ne (by omega), up_ne (by omega)]
  · rw [cv_c, cv_c]; unfold widS; rw [up_nk ne, up_ne (by omega), up_ne (by omega)]
  · have b := hV.2.2 i i0 i1
    rw [cv_c] at b k1
    rw [cv_w, cv_w]; unfold widS; rw [up_ne (by omega), up_ne (by omega), up_nk (by omega)]
  · have b := hV.2.2 i i0 i1
    rw [cv_c] at b k1
    rw [cv_q, cv_q]; unfold widS; rw [up_ne (by omega), up_nk (by omega), up_ne (by omega)]
  · rw [cv_c, cv_c]; unfold widS; rw [up_eq]
  · rw [cv_c] at k1; rw [cv_w, cv_w]; unfold widS; rw [up_ne (by omega), up_ne (by omega), up_nk (by omega)]
  · rw [cv_c] at k1; rw [cv_q, cv_q]; unfold widS; rw [up_ne (by omega), up_nk (by omega), up_ne (by omega)]
  · rw [cv_c, cv_w]; unfold widS; rw [up_ne (by omega), up_ne (by omega), up_eq]
  · rw [cv_c, cv_q]; unfold widS; rw [up_ne (by omega), up_eq]
theorem cv_up6 (σ : Sg) (o : Nat) (v : Int) : cv (up σ o 6 v) o = cv σ o := by
  unfold cv; rw [up_nk (by decide)]
  refine Prod.ext rfl (Prod.ext (funext fun i => up_ne (by omega)) (Prod.ext (funext fun i => funext fun k => up_ne (by omega)) (funext fun i => funext fun k => up_ne (by omega))))
theorem WV_ctr {σ : Sg} {o : Nat} (hV : WV (cv σ o)) : WV (cv (ctrS σ o) o) := by
  have hn0 := hV.1
  rw [cv_n] at hn0
  unfold ctrS; split
  · rename_i h
    have hx0 : 0 ≤ (drw (σ o 6) / 65536) % σ o 3 ∧ (drw (σ o 6) / 65536) % σ o 3 < σ o 3 := ⟨Int.emod_nonneg _ (by omega), Int.emod_lt_of_pos _ (by omega)⟩
    refine WV_widS (by rw [cv_up6]; exact hV) hx0.1 (by rw [up_nk (by decide)]; exact hx0.2) (by rw [up_ne (by omega)]; exact h.2.1) (by omega) (by omega)
  · rw [cv_up6]; exact hV
theorem widS_ne {σ : Sg} {o c : Nat} {s w q k : Int} (h : c < o + 1 ∨ o + 4 ≤ c) : widS σ o s w q c k = σ c k := by unfold widS; rw [up_ne (by omega), up_ne (by omega), up_ne (by omega)]
theorem ctr_ne {σ : Sg} {o c : Nat} {k : Int} (h : c < o ∨ o + 4 ≤ c) : ctrS σ o c k = σ c k := by
  unfold ctrS; split
  · rw [widS_ne (by omega), up_ne (by omega)]
  · rw [up_ne (by omega)]
theorem ctr_6 {σ : Sg} {o : Nat} : ctrS σ o o 6 = drw (σ o 6) := by
  unfold ctrS; split
  · rw [widS_ne (by omega), up_eq]
  · rw [up_eq]
theorem und_13 {σ : Sg} (h1 : 0 ≤ σ 13 1 ∧ σ 13 1 ≤ 7) (h2 : 0 ≤ σ 13 2 ∧ σ 13 2 ≤ 8) : (0 ≤ undS σ 13 1 ∧ undS σ 13 1 ≤ 7) ∧ (0 ≤ undS σ 13 2 ∧ undS σ 13 2 ≤ 8) := by
  unfold undS fgtS keepS
  have e : ∀ k : Int, up (up (up (up (tkS (keep1 σ) (15 + 4 * ((keep1 σ 13 1 + keep1 σ 13 2) % 8).toNat) 1) 13 2 (keep1 σ 13 2 + 1)) 83 3 0) 97 0 0) 83 13 0 13 k = up (keep1 σ) 13 2 (keep1 σ 13 2 + 1) 13 k := by
    intro k
    rw [up_ne (by decide), up_ne (by decide), up_ne (by decide)]
    unfold up; simp only [if_pos]; rw [tkS_ne (by omega)]
  rw [e, e, up_eq, up_nk (by decide)]
  unfold keep1
  split
  · rw [up_nk (by decide), up_eq, up_eq]; omega
  · omega
theorem CTI_s {σ : Sg} (h : CTI σ) : CTI (ctnS σ) := by
  obtain ⟨hV, h6, h1, h2⟩ := h
  have hu := und_13 h1 h2
  unfold ctnS
  refine ⟨WV_ctr (by rw [cv_und]; exact hV), ?_, ?_, ?_⟩
  · rw [ctr_6]; exact (drw_r _).1
  · rw [ctr_ne (by omega)]; exact hu.1
  · rw [ctr_ne (by omega)]; exact hu.2
theorem CTI_n {σ : Sg} (h : CTI σ) (n : Nat) : CTI (cstS σ n) := by
  induction n with
  | zero => exact h
  | succ n ih => exact CTI_s ih

set_option maxHeartbeats 4000000 in
set_option maxRecDepth 100000 in
theorem lp_cstorm {g : G} {x : Cx} {σ : Sg} {v : Int} (hO : Ok g x RX8 cX8_storm 3 5) (hR : Rt g x (some .int) (pI (fun r σ' => (r, σ') = if ¬ (1 ≤ v ∧ v ≤ 40) then (-1, σ) else (cntA (cv (cstS σ v.toNat) 1) (cstS σ v.toNat 1 3).toNat, cstS σ v.toNat)))) (hv : 1 ≤ v ∧ v ≤ 40) (hC : CTI σ) : ∀ (f i : Nat), (i : Int) ≤ v → v - i < f → Z g x 3 15 [(0, .ref (g.2.2.1 0)), (1, vI v), (2, vI i)] [] (cstS σ i) := by
  intro f
  induction f with
  | zero => intro i h0 hk; exact absurd hk (by omega)
  | succ f ih =>
    intro i h0 hk
    refine z_iload_n hO 2 dX8_storm_15 rfl ?_
    refine z_iload_n hO 1 dX8_storm_16 rfl ?_
    refine z_icmp_ge hO 37 dX8_storm_17 (by decide) (by omega) (by omega) (fun c17 => ?_) (fun c17 => ?_)
    ·
      have hi3 : i = v.toNat := by omega
      have hF := (CTI_n hC i).1
      refine z_aload_n hO 0 dX8_storm_37 rfl ?_
      refine z_getR hO (1) fl_X8_12 rfl rfl dX8_storm_38 ?_
      refine z_cvE hO (t_X2_candidates hd_1 hF) cv_X8_154 rfl rfl rfl rfl (by decide) (Nat.le_of_ble_eq_true rfl) dX8_storm_41 ?_
      exact z_retI hO hR dX8_storm_44 (by rw [if_neg (by omega)]; rw [hi3])
    ·
      obtain ⟨hV, h6, h1, h2⟩ := CTI_n hC i
      refine z_aload_n hO 0 dX8_storm_20 rfl ?_
      refine z_cvV hO (t_X8_keepForUndo h1 h2) cv_X8_128 rfl rfl rfl rfl (by decide) (Nat.le_of_ble_eq_true rfl) dX8_storm_21 (fun s21 p21 => ?_)
      rw [show s21 = undS (cstS σ i) from p21]
      refine z_aload_n hO 0 dX8_storm_24 rfl ?_
      refine z_getR hO (1) fl_X8_12 rfl rfl dX8_storm_25 ?_
      refine z_cvV hO (t_X2_turn hd_1 (by rw [cv_und]; exact hV) (by rw [undS_1 (by decide)]; exact h6)) cv_X8_151 rfl rfl rfl rfl (by decide) (Nat.le_of_ble_eq_true rfl) dX8_storm_28 (fun s28 p28 => ?_)
      rw [show s28 = cstS σ (i + 1) from p28]
      refine z_iinc hO (L' := [(2, _), (0, _), (1, _)]) 2 dX8_storm_31 rfl (by decide) rfl ?_
      refine z_goto hO 15 dX8_storm_34 (by decide) ?_
      exact z_pick [1, 2, 0] rfl (ih (i + 1) (by omega) (by omega))

set_option maxHeartbeats 4000000 in
set_option maxRecDepth 100000 in
theorem t_X8_storm {g : G} {σ : Sg} {v : Int} (rv : -2147483648 ≤ v ∧ v ≤ 2147483647) (hC : CTI σ) : MM g mX8_storm [.ref (g.2.2.1 0), vI v] σ (pI (fun r σ' => (r, σ') = if ¬ (1 ≤ v ∧ v ≤ 40) then (-1, σ) else (cntA (cv (cstS σ v.toNat) 1) (cstS σ v.toNat 1 3).toNat, cstS σ v.toNat))) := by
  refine mm_of rfl (by decide) rfl rfl (Nat.le_of_ble_eq_true rfl) (fun x hO hR => ?_)
  refine z_iload_n hO 1 dX8_storm_0 rfl ?_
  refine z_iconst hO dX8_storm_1 ?_
  refine z_icmp_lt hO 11 dX8_storm_2 (by decide) (by omega) (by decide) (fun c2 => ?_) (fun c2 => ?_)
  ·
    refine z_iconst hO dX8_storm_11 ?_
    exact z_retI hO hR dX8_storm_12 (by rw [if_pos (by omega)])
  ·
    refine z_iload_n hO 1 dX8_storm_5 rfl ?_
    refine z_bipush hO dX8_storm_6 (by decide) ?_
    refine z_icmp_le hO 13 dX8_storm_8 (by decide) (by omega) (by decide) (fun c8 => ?_) (fun c8 => ?_)
    ·
      refine z_iconst hO dX8_storm_13 ?_
      refine z_istore_n hO (L' := [(2, _), (0, _), (1, _)]) dX8_storm_14 (by decide) rfl ?_
      exact z_pick [1, 2, 0] rfl (lp_cstorm hO hR (by omega) hC 41 0 (by omega) (by omega))
    ·
      refine z_iconst hO dX8_storm_11 ?_
      exact z_retI hO hR dX8_storm_12 (by rw [if_pos (by omega)])
