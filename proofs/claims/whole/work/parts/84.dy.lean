noncomputable def hvR (V : Hv) (K S : Int) (m : Nat) : Int → Int := fun j => hvn V K S m (j / 32) (j % 32)
theorem hvR_at (V : Hv) (K S : Int) (m : Nat) {i w : Int} (h0 : 0 ≤ w) (h1 : w < 32) : hvR V K S m (32 * i + w) = hvn V K S m i w := by
  unfold hvR; rw [show (32 * i + w) / 32 = i by omega, show (32 * i + w) % 32 = w by omega]
noncomputable def lkF (V : Hv) (K S : Int) : Int := (lookF (hvR V K S (rdN V).toNat) (nCt V K S (rdN V).toNat) V.1.toNat).1
theorem mostF_congr {H H' : Int → Int} {b : Int} (m : Nat) (h : ∀ w : Int, 0 ≤ w → w < m → H (b + w) = H' (b + w)) : mostF H b m = mostF H' b m := by
  induction m with
  | zero => rfl
  | succ m ih => rw [mostF_s, mostF_s, ih (fun w w0 w1 => h w w0 (by omega)), h m (by omega) (by omega)]
theorem lookF_congr {H H' : Int → Int} {all : Int} (m : Nat) (h : ∀ a w : Int, 0 ≤ a → a < m → 0 ≤ w → w < 32 → H (32 * a + w) = H' (32 * a + w)) : lookF H all m = lookF H' all m := by
  induction m with
  | zero => rfl
  | succ m ih => rw [lookF_s, lookF_s, ih (fun a w a0 a1 w0 w1 => h a w a0 (by omega) w0 w1), mostF_congr 32 (fun w w0 w1 => h m w (by omega) (by omega) w0 (by omega))]
theorem lk_cls {V : Hv} (hV : WV V) (hD : DV V) {K S : Int} {τ : Sg} (hA : ccA V K S (rdN V).toNat τ) : (pbF (τ 98) (τ 97 1) 8).1 = lkF V K S := by
  have n0 := hV.1
  have n8 := hV.2.1
  have hr := nCt_r V K S (rdN V).toNat
  rw [hA.1]
  refine (look_eq hV hr.1 (fun i hi => most_eq hV hi (fun k k0 k1 => ?_) (fun w w0 w1 hw => ?_) (fun k k0 k1 => ?_)) (fun hp i hi => ?_) (fun i hi h8 => ?_)).symm
  · have c := hV.2.2 i (by omega) hi
    have d := c.2.2 k k0 k1
    rw [hvR_at _ _ _ _ (by omega) (by omega), hvn_tal hV hD _ (by omega) hi k0 k1, (hA.2.1 i k (by omega) (by omega) k0 (by omega)).1]
  · rw [hvR_at _ _ _ _ w0 w1]; exact hvn_out hV _ (by omega) hi hw
  · have c := hV.2.2 i (by omega) hi
    rw [(hA.2.1 i k (by omega) (by omega) (by omega) k1).1]; exact tal_out hV _ (by omega)
  · obtain ⟨q, q1, q2, _⟩ := nCt_ex (V := V) (K := K) (S := S) (k := 0) _ (Int.le_refl 0) hp
    have p := pk_WP hV q i (by omega) hi
    have c := hV.2.2 i (by omega) hi
    have t := (tal_pos (rdN V).toNat i (pk V q i)).mpr ⟨q, q1, q2, ⟨by omega, hi⟩, rfl⟩
    have b := (pmF_le (R := τ 98) (i := i) 4).2.1 (pk V q i).toNat (by omega)
    rw [show (((pk V q i).toNat : Nat) : Int) = pk V q i by omega, (hA.2.1 i (pk V q i) (by omega) (by omega) p.1 (by omega)).1] at b
    omega
  · rcases (pmF_le (R := τ 98) (i := i) 4).2.2 with z | ⟨k, k1, k2⟩
    · exact z
    · rw [k2, (hA.2.1 i k (by omega) (by omega) (by omega) (by omega)).1]; exact tal_out hV _ (by omega)
theorem eq_lkF {V W : Hv} (e : EqV V W) (hV : WV V) : lkF V = lkF W := by
  have h0 := hV.1
  funext K S; unfold lkF
  rw [← eq_nCt e hV, ← eq_rdN e hV.1, ← e.1, lookF_congr (H := hvR V K S (rdN V).toNat) (H' := hvR W K S (rdN V).toNat) V.1.toNat (fun a w a0 a1 w0 w1 => by rw [hvR_at _ _ _ _ w0 w1, hvR_at _ _ _ _ w0 w1, eq_hvn e hV K S _ w a0 (by omega)])]

set_option maxHeartbeats 4000000 in
set_option maxRecDepth 100000 in
theorem t_X6_lookAt {g : G} {σ : Sg} (hV : WV (cv σ 1)) (hI : SI σ) (hS : 0 ≤ σ 1 5 ∧ σ 1 5 ≤ 20) (hD : DV (cv σ 1)) : MM g mX6_lookAt [.ref (g.2.2.1 83)] σ (pI (fun r σ' => r = lkF (cv σ 1) (σ 1 4) (σ 1 5) ∧ SI σ' ∧ Fm fSv σ σ')) := by
  refine mm_of rfl (by decide) rfl rfl (Nat.le_of_ble_eq_true rfl) (fun x hO hR => ?_)
  refine z_aload_n hO 0 dX6_lookAt_0 rfl ?_
  refine z_cvV hO (t_X6_findCounted hV hI hS) cv_X6_75 rfl rfl rfl rfl (by decide) (Nat.le_of_ble_eq_true rfl) dX6_lookAt_1 (fun s1 p1 => ?_)
  have hSI := SI_FC hI p1
  obtain ⟨⟨a1, a2⟩, a3, a4, a5, a6, a7⟩ := p1
  have eV := Fm_cv a7 fFC_4
  have e1 : s1 1 = σ 1 := a7.row 1 (fun k => fFC_4 1 k (by decide))
  refine z_aload_n hO 0 dX6_lookAt_4 rfl ?_
  refine z_getR hO (97) fl_X6_12 rfl rfl dX6_lookAt_5 ?_
  refine z_aload_n hO 0 dX6_lookAt_8 rfl ?_
  refine z_getR hO (97) fl_X6_12 rfl rfl dX6_lookAt_9 ?_
  refine z_getR hO (98) fl_X6_81 rfl rfl dX6_lookAt_12 ?_
  refine z_aload_n hO 0 dX6_lookAt_15 rfl ?_
  refine z_getR hO (97) fl_X6_12 rfl rfl dX6_lookAt_16 ?_
  refine z_getI hO 1 fl_X6_78 rfl rfl rfl dX6_lookAt_19 (fun r19 => ?_)
  have a1' := a1
  refine z_cvE hO (t_X1_partedBest (o := 98) rfl (fun a j a0 a1 j0 j1 => by have h := (a1'.2.1 a j a0 a1 j0 j1).1; have r := tal_r (cv σ 1) (σ 1 4) (σ 1 5) (rdN (cv σ 1)).toNat a j; have := rdN_r hV; omega) (by rw [a1'.1]; have r := nCt_r (cv σ 1) (σ 1 4) (σ 1 5) (rdN (cv σ 1)).toNat; have := rdN_r hV; omega)) cv_X6_84 rfl rfl rfl rfl (by decide) (Nat.le_of_ble_eq_true rfl) dX6_lookAt_22 ?_
  exact z_retI hO hR dX6_lookAt_25 (⟨lk_cls hV hD a1, hSI, a7.mono fFC_Sv⟩)
