def rcA (τ : Sg) (acc : List (Int × Int)) (k : Nat) (r : Int) (τ' : Sg) : Prop := ∃ y, rdF (τ 82) (τ 81 1) (k + 1) acc (τ 81 2) = (false, acc, y) ∧ r = y ∧ sk (τ 82) (τ 81 1) y = y ∧ (0 ≤ y ∧ y ≤ 120) ∧ Fm fRe τ τ'
def rcB (τ : Sg) (l0 : List (List (Int × Int))) (acc : List (Int × Int)) (k : Nat) (r : Int) (τ' : Sg) : Prop := ∃ w q e, rdF (τ 82) (τ 81 1) (k + 1) acc (τ 81 2) = (if k = 0 then (true, acc ++ [(w, q)], e) else if chr (τ 82) (τ 81 1) (sk (τ 82) (τ 81 1) e) = 44 then rdF (τ 82) (τ 81 1) k (acc ++ [(w, q)]) (sk (τ 82) (τ 81 1) e + 1) else (true, acc ++ [(w, q)], sk (τ 82) (τ 81 1) e)) ∧ r = -1 ∧ τ' 81 2 = e ∧ (0 ≤ e ∧ e ≤ τ 81 1) ∧ EqV (cv τ' 5) (slV (l0 ++ [acc ++ [(w, q)]])) ∧ Fm fRe τ τ'
theorem rd_stop {t : Int → Int} {n e : Int} {k : Nat} {a : List (Int × Int)} {R X : Bool × List (Int × Int) × Int} (h : R = (if k = 0 then (true, a, e) else if chr t n (sk t n e) = 44 then X else (true, a, sk t n e))) (hs : k = 0 ∨ chr t n (sk t n e) ≠ 44) : ∃ y, R = (true, a, y) ∧ sk t n y = sk t n e := by
  by_cases q : k = 0
  · rw [if_pos q] at h; exact ⟨e, h, rfl⟩
  · rw [if_neg q, if_neg (by rcases hs with z | z; exact absurd z q; exact z)] at h; exact ⟨_, h, sk_sk ..⟩
theorem rd_more {t : Int → Int} {n e : Int} {k : Nat} {a : List (Int × Int)} {R X : Bool × List (Int × Int) × Int} (h : R = (if k = 0 then (true, a, e) else if chr t n (sk t n e) = 44 then X else (true, a, sk t n e))) (hk : k ≠ 0) (hs : chr t n (sk t n e) = 44) : R = X := by
  rw [if_neg hk, if_pos hs] at h; exact h
theorem opl_n {τ : Sg} {l0 : List (List (Int × Int))} {acc : List (Int × Int)} (hE : EqV (cv τ 5) (slV (opl l0 acc))) (h : acc.length = 0) : τ 5 3 = l0.length := by
  have e : τ 5 3 = ((opl l0 acc).length : Int) := hE.1
  unfold opl at e; rw [if_pos h] at e; exact e
theorem last_n {τ : Sg} {l0 : List (List (Int × Int))} {acc : List (Int × Int)} (hE : EqV (cv τ 5) (slV (l0 ++ [acc]))) : τ 5 3 = l0.length + 1 ∧ τ 6 (τ 5 3 - 1) = acc.length := by
  have e : τ 5 3 = ((l0 ++ [acc]).length : Int) := hE.1
  rw [List.length_append, List.length_singleton] at e
  refine ⟨by omega, ?_⟩
  have a : τ (5 + 1) l0.length = (((l0 ++ [acc]).getD (l0.length : Int).toNat []).length : Int) := (hE.2 l0.length (by omega) (by show (l0.length : Int) < τ 5 3; omega)).1
  rw [show τ 5 3 - 1 = (l0.length : Int) by omega]
  rw [sl_snoc, if_neg (by omega), if_pos (by omega)] at a; exact a
theorem EqV_nil {σ : Sg} : EqV (cv (up σ 5 3 0) 5) (slV []) := ⟨by show up σ 5 3 0 5 3 = 0; exact up_eq, fun i i0 i1 => absurd i1 (by show ¬ i < up σ 5 3 0 5 3; rw [up_eq]; omega)⟩
/-- what the class's reading tells -/
def tdQ (σ : Sg) (r : Int) (σ' : Sg) : Prop := (((txF (σ 82) (σ 81 1)).1 ≠ -1 ∧ r = (txF (σ 82) (σ 81 1)).1 ∧ 0 ≤ r ∧ r ≤ 120) ∨ ((txF (σ 82) (σ 81 1)).1 = -1 ∧ r = -1 ∧ EqV (cv σ' 5) (slV (txF (σ 82) (σ 81 1)).2))) ∧ Fm fRe σ σ'

set_option maxHeartbeats 4000000 in
set_option maxRecDepth 100000 in
theorem lp_cread {g : G} {x : Cx} {σ : Sg} (hO : Ok g x RX4 cX4_read 5 5) (hR : Rt g x (some .int) (pI (fun r σ' => tdQ σ r σ'))) (hT : TW (σ 82) (σ 81 1)) (hne : chr (σ 82) (σ 81 1) (sk (σ 82) (σ 81 1) 0) ≠ 0) : ∀ (f : Nat) (left bz : Int) (l0 : List (List (Int × Int))) (acc : List (Int × Int)) (τ : Sg), left < f → 32 - 4 * (l0.length : Int) - acc.length ≤ left → left ≤ 32 → l0.length ≤ 7 → acc.length ≤ 3 → (∀ q ∈ l0, q.length ≤ 4) → bz = (if acc.length = 0 then 1 else 0) → EqV (cv τ 5) (slV (opl l0 acc)) → (0 ≤ τ 81 2 ∧ τ 81 2 ≤ (σ 81 1)) → wdF (σ 82) (σ 81 1) 8 [] (sk (σ 82) (σ 81 1) 0) = ctR (σ 82) (σ 81 1) (7 - l0.length) l0 (rdF (σ 82) (σ 81 1) (4 - acc.length) acc (τ 81 2)) → Fm fRe σ τ → Z g x 5 24 [(0, .ref (g.2.2.1 81)), (1, .ref (g.2.2.1 5)), (2, vI bz), (3, vI left)] [] τ := by
  have hn120 := hT.1
  intro f
  induction f with
  | zero => intro left bz l0 acc τ hl0 hl1 _ h7 h3; exact absurd hl0 (by omega)
  | succ f ih =>
    intro left bz l0 acc τ hf hlf hl32 h7 h3 hl hb hE hp hw hFm
    have e82 : τ 82 = σ 82 := hFm.row 82 (fun k => fRe_o (by omega))
    have e81 : τ 81 1 = σ 81 1 := hFm 81 1 rfl
    have hG := opl_GI hE h7 (by omega) hl
    obtain ⟨k, hk⟩ : ∃ k, 4 - acc.length = k + 1 := ⟨3 - acc.length, by omega⟩
    obtain ⟨k2, hk2e⟩ : ∃ k2, 7 - l0.length = k2 := ⟨_, rfl⟩
    rw [hk, hk2e] at hw
    refine z_iload_n hO 3 dX4_read_24 rfl ?_
    refine z_if_le hO 130 dX4_read_25 (by decide) (by omega) (fun c25 => ?_) (fun c25 => ?_)
    ·
      exfalso; omega
    ·
      refine z_aload_n hO 0 dX4_read_28 rfl ?_
      refine z_aload_n hO 1 dX4_read_29 rfl ?_
      refine z_iload_n hO 2 dX4_read_30 rfl ?_
      refine z_cvI hO (t_X4_readCandidate (by rw [e82, e81]; exact hT) (by rw [e81]; exact hp) hG (by rw [hb]; split <;> omega) (fun z => by have h := opl_n hE (by rw [hb] at z; split at z; assumption; omega); omega) (fun z => by have hz : ¬ acc.length = 0 := (by intro y; rw [hb, if_pos y] at z; omega); have h := last_n (l0 := l0) (acc := acc) (by unfold opl at hE; rw [if_neg hz] at hE; exact hE); omega)) cv_X4_31 rfl rfl rfl rfl (by decide) (Nat.le_of_ble_eq_true rfl) dX4_read_31 (fun v31 s31 p31 => ?_)
      have hro : rcA τ acc k v31 s31 ∨ rcB τ l0 acc k v31 s31 := rc_out (by rw [e82, e81]; exact hT) (by rw [e81]; exact hp) hE h7 h3 hl hb k p31
      have hvr : -1 ≤ v31 ∧ v31 ≤ 120 := by rcases hro with ⟨y, _, z2, _, z4, _⟩ | ⟨w, q, e, _, z2, _⟩ <;> omega
      refine z_istore hO (L' := [(4, _), (0, _), (1, _), (2, _), (3, _)]) dX4_read_34 (by decide) rfl ?_
      refine z_iload hO 0 dX4_read_36 rfl ?_
      refine z_iconst hO dX4_read_38 ?_
      refine z_icmp_ne hO 49 dX4_read_39 (by decide) (by omega) (by decide) (fun c39 => ?_) (fun c39 => ?_)
      ·
        obtain ⟨y, y1, y2, y3, y4, y5⟩ : rcA τ acc k v31 s31 := hro.resolve_right (fun z => by obtain ⟨w, q, e, _, z2, _⟩ := z; exact c39 z2)
        rw [e82, e81] at y1 y3
        rw [y1, ct_f] at hw
        have htx := tx_bad hne hw
        rw [y3] at htx
        have hret : tdQ σ v31 s31 := ⟨Or.inl ⟨by rw [htx]; simp only; omega, by rw [htx]; exact y2, by omega, by omega⟩, hFm.trans y5⟩
        refine z_iload hO 0 dX4_read_49 rfl ?_
        exact z_retI hO hR dX4_read_51 (hret)
      ·
        obtain ⟨w, q, e, y1, y2, y3, y4, y5, y6⟩ : rcB τ l0 acc k v31 s31 := hro.resolve_left (fun z => by obtain ⟨y, _, z2, _, z4, _⟩ := z; omega)
        clear p31 hro
        rw [e82, e81] at y1
        have hF1 : Fm fRe σ s31 := hFm.trans y6
        have u82 : s31 82 = σ 82 := hF1.row 82 (fun k => fRe_o (by omega))
        have u81 : s31 81 1 = σ 81 1 := hF1 81 1 rfl
        rw [e81] at y4
        have hln := last_n y5
        have hal : (acc ++ [(w, q)]).length = acc.length + 1 := by rw [List.length_append, List.length_singleton]
        rw [hal] at hln
        have hFU : Fm fRe σ (up s31 81 2 (sk (σ 82) (σ 81 1) e)) := hF1.up rfl
        have hsE := sk_r (t := σ 82) (n := σ 81 1) (i := e) y4.2
        have hcE := chr_r hT (i := (sk (σ 82) (σ 81 1) e)) (by omega)
        refine z_aload_n hO 1 dX4_read_42 rfl ?_
        refine z_cvB hO (t_X4_isAtEnd (by rw [u82, u81]; exact hT) (by rw [u81, y3]; exact y4)) cv_X4_27 rfl rfl rfl rfl (by decide) (Nat.le_of_ble_eq_true rfl) dX4_read_43 (fun s43 p43 => ?_) (fun s43 p43 => ?_)
        ·
          rw [u82, u81, y3] at p43
          obtain ⟨aa, bb⟩ := p43
          subst bb
          have a1 : (σ 81 1) ≤ (sk (σ 82) (σ 81 1) e) := aa.mp rfl
          have hc0 : chr (σ 82) (σ 81 1) (sk (σ 82) (σ 81 1) e) = 0 := hcE.2.2.mpr a1
          obtain ⟨y, z1, z2⟩ := rd_stop y1 (by omega)
          rw [z1] at hw
          obtain ⟨z, x1, x2⟩ := ct_e (t := (σ 82)) (n := (σ 81 1)) (k := k2) (l0 := l0) (a := (acc ++ [(w, q)])) (y := y) (by rw [z2]; omega)
          rw [x1] at hw
          have htx := tx_ok hne hw (by rw [x2, z2]; exact hc0)
          have hret : tdQ σ v31 (up s31 81 2 (sk (σ 82) (σ 81 1) e)) := ⟨Or.inr ⟨by rw [htx], y2, by rw [htx, cv_81]; exact y5⟩, hFU⟩
          refine z_if_eq hO 52 dX4_read_46 (by decide) (by decide) (fun c46 => absurd c46 (by omega)) (fun c46 => ?_)
          refine z_iload hO 0 dX4_read_49 rfl ?_
          exact z_retI hO hR dX4_read_51 (hret)
        ·
          rw [u82, u81, y3] at p43
          obtain ⟨aa, bb⟩ := p43
          subst bb
          have a1 : ¬ (σ 81 1) ≤ (sk (σ 82) (σ 81 1) e) := fun z => by have x := aa.mpr z; cases x
          have hci := chr_in (t := (σ 82)) (n := (σ 81 1)) (i := (sk (σ 82) (σ 81 1) e)) (by omega)
          have hlt := hT.2 (sk (σ 82) (σ 81 1) e) (by omega) (by omega)
          have hn120 := hT.1
          refine z_if_eq hO 52 dX4_read_46 (by decide) (by decide) (fun c46 => ?_) (fun c46 => absurd c46 (by omega))
          refine z_aload_n hO 1 dX4_read_52 rfl ?_
          refine z_getR hO (82) fl_X4_9 rfl rfl dX4_read_53 ?_
          refine z_aload_n hO 1 dX4_read_56 rfl ?_
          refine z_getI hO 2 fl_X4_24 rfl rfl rfl dX4_read_57 (fun r57 => ?_)
          try simp (disch := omega) only [fl_row_ne, fl_ne, up_row_ne, up_ne, up_eq, up_nk, up_up, up_self, ne_eq, Nat.reduceEqDiff, Int.reduceEq, reduceCtorEq, not_false_eq_true, not_true_eq_false, u82, u81] at r57 ⊢
          refine z_cald hO rfl (by omega) (by decide) dX4_read_60 (fun r60 => ?_)
          try simp (disch := omega) only [fl_row_ne, fl_ne, up_row_ne, up_ne, up_eq, up_nk, up_up, up_self, ne_eq, Nat.reduceEqDiff, Int.reduceEq, reduceCtorEq, not_false_eq_true, not_true_eq_false, u82, u81] at r60 ⊢
          refine z_bipush hO dX4_read_61 (by decide) ?_
          refine z_icmp_ne hO 70 dX4_read_63 (by decide) (by omega) (by decide) (fun c63 => ?_) (fun c63 => ?_)
          ·
            refine z_iconst hO dX4_read_70 ?_
            refine z_istore_n hO (L' := [(2, _), (4, _), (0, _), (1, _), (3, _)]) dX4_read_71 (by decide) rfl ?_
            refine z_iload_n hO 0 dX4_read_72 rfl ?_
            refine z_if_eq hO 88 dX4_read_73 (by decide) (by decide) (fun c73 => ?_) (fun c73 => absurd c73 (by omega))
            refine z_aload_n hO 2 dX4_read_88 rfl ?_
            refine z_getR hO (82) fl_X4_9 rfl rfl dX4_read_89 ?_
            refine z_aload_n hO 2 dX4_read_92 rfl ?_
            refine z_getI hO 2 fl_X4_24 rfl rfl rfl dX4_read_93 (fun r93 => ?_)
            try simp (disch := omega) only [fl_row_ne, fl_ne, up_row_ne, up_ne, up_eq, up_nk, up_up, up_self, ne_eq, Nat.reduceEqDiff, Int.reduceEq, reduceCtorEq, not_false_eq_true, not_true_eq_false, u82, u81] at r93 ⊢
            refine z_cald hO rfl (by omega) (by decide) dX4_read_96 (fun r96 => ?_)
            try simp (disch := omega) only [fl_row_ne, fl_ne, up_row_ne, up_ne, up_eq, up_nk, up_up, up_self, ne_eq, Nat.reduceEqDiff, Int.reduceEq, reduceCtorEq, not_false_eq_true, not_true_eq_false, u82, u81] at r96 ⊢
            refine z_bipush hO dX4_read_97 (by decide) ?_
            refine z_icmp_ne hO 109 dX4_read_99 (by decide) (by omega) (by decide) (fun c99 => ?_) (fun c99 => ?_)
            ·
              obtain ⟨y, z1, z2⟩ := rd_stop y1 (by omega)
              rw [z1] at hw
              obtain ⟨z, x1, x2⟩ := ct_e (t := (σ 82)) (n := (σ 81 1)) (k := k2) (l0 := l0) (a := (acc ++ [(w, q)])) (y := y) (by rw [z2]; omega)
              rw [x1] at hw
              have htx := tx_mid hne hw (by rw [x2, z2]; omega)
              rw [x2, z2] at htx
              have hret : tdQ σ (sk (σ 82) (σ 81 1) e) (up s31 81 2 (sk (σ 82) (σ 81 1) e)) := ⟨Or.inl ⟨by rw [htx]; simp only; omega, by rw [htx], by omega, by omega⟩, hFU⟩
              refine z_aload_n hO 2 dX4_read_109 rfl ?_
              refine z_getI hO 2 fl_X4_24 rfl rfl rfl dX4_read_110 (fun r110 => ?_)
              try simp (disch := omega) only [fl_row_ne, fl_ne, up_row_ne, up_ne, up_eq, up_nk, up_up, up_self, ne_eq, Nat.reduceEqDiff, Int.reduceEq, reduceCtorEq, not_false_eq_true, not_true_eq_false, u82, u81] at r110 ⊢
              exact z_retI hO hR dX4_read_113 (hret)
            ·
              refine z_aload_n hO 3 dX4_read_102 rfl ?_
              refine z_cvQ hO (t_X2_isLastFull hd_5 (by simp (disch := omega) only [fl_row_ne, fl_ne, up_row_ne, up_ne, up_eq, up_nk, up_up, up_self, ne_eq, Nat.reduceEqDiff, Int.reduceEq, reduceCtorEq, not_false_eq_true, not_true_eq_false]; omega)) cv_X4_35 rfl rfl rfl rfl (by decide) (Nat.le_of_ble_eq_true rfl) dX4_read_103 (fun c103 => ?_) (fun c103 => ?_)
              ·
                try simp (disch := omega) only [fl_row_ne, fl_ne, up_row_ne, up_ne, up_eq, up_nk, up_up, up_self, ne_eq, Nat.reduceEqDiff, Int.reduceEq, reduceCtorEq, not_false_eq_true, not_true_eq_false, u82, u81] at c103 ⊢
                have hfl : 4 ≤ s31 6 (s31 5 3 - 1) := c103.2
                have hk0 : k = 0 := by omega
                obtain ⟨y, z1, z2⟩ := rd_stop y1 (Or.inl hk0)
                rw [z1] at hw
                obtain ⟨z, x1, x2⟩ := ct_e (t := (σ 82)) (n := (σ 81 1)) (k := k2) (l0 := l0) (a := (acc ++ [(w, q)])) (y := y) (by rw [z2]; omega)
                rw [x1] at hw
                have htx := tx_mid hne hw (by rw [x2, z2]; omega)
                rw [x2, z2] at htx
                have hret : tdQ σ (sk (σ 82) (σ 81 1) e) (up s31 81 2 (sk (σ 82) (σ 81 1) e)) := ⟨Or.inl ⟨by rw [htx]; simp only; omega, by rw [htx], by omega, by omega⟩, hFU⟩
                refine z_if_eq hO 114 dX4_read_106 (by decide) (by decide) (fun c106 => absurd c106 (by omega)) (fun c106 => ?_)
                refine z_aload_n hO 2 dX4_read_109 rfl ?_
                refine z_getI hO 2 fl_X4_24 rfl rfl rfl dX4_read_110 (fun r110 => ?_)
                try simp (disch := omega) only [fl_row_ne, fl_ne, up_row_ne, up_ne, up_eq, up_nk, up_up, up_self, ne_eq, Nat.reduceEqDiff, Int.reduceEq, reduceCtorEq, not_false_eq_true, not_true_eq_false, u82, u81] at r110 ⊢
                exact z_retI hO hR dX4_read_113 (hret)
              ·
                try simp (disch := omega) only [fl_row_ne, fl_ne, up_row_ne, up_ne, up_eq, up_nk, up_up, up_self, ne_eq, Nat.reduceEqDiff, Int.reduceEq, reduceCtorEq, not_false_eq_true, not_true_eq_false, u82, u81] at c103 ⊢
                have hfl : ¬ 4 ≤ s31 6 (s31 5 3 - 1) := fun z => c103 ⟨by omega, z⟩
                refine z_if_eq hO 114 dX4_read_106 (by decide) (by decide) (fun c106 => ?_) (fun c106 => absurd c106 (by omega))
                refine z_aload_n hO 2 dX4_read_114 rfl ?_
                refine z_dup hO dX4_read_115 rfl ?_
                refine z_getI hO 2 fl_X4_24 rfl rfl rfl dX4_read_116 (fun r116 => ?_)
                try simp (disch := omega) only [fl_row_ne, fl_ne, up_row_ne, up_ne, up_eq, up_nk, up_up, up_self, ne_eq, Nat.reduceEqDiff, Int.reduceEq, reduceCtorEq, not_false_eq_true, not_true_eq_false, u82, u81] at r116 ⊢
                refine z_iconst hO dX4_read_119 ?_
                refine z_iadd hO dX4_read_120 ?_
                refine z_putI hO 2 fp_X4_24 rfl rfl rfl (by omega) rfl rfl dX4_read_121 ?_
                refine z_iinc hO (L' := [(3, _), (2, _), (4, _), (0, _), (1, _)]) 4 dX4_read_124 rfl (by decide) rfl ?_
                refine z_goto hO 24 dX4_read_127 (by decide) ?_
                try simp only [up_up]
                have hFX : Fm fRe σ (up s31 81 2 ((sk (σ 82) (σ 81 1) e) + 1)) := hF1.up rfl
                have hkn : k ≠ 0 := by omega
                rw [rd_more y1 hkn (by omega)] at hw
                refine z_pick [3, 4, 1, 0] rfl (ih _ 0 l0 (acc ++ [(w, q)]) _ (by omega) ?_ (by omega) h7 ?_ hl ?_ ?_ ?_ ?_ hFX)
                · rw [hal]; omega
                · rw [hal]; omega
                · rw [if_neg (by rw [hal]; omega)]
                · rw [cv_81]; unfold opl; rw [if_neg (by rw [hal]; omega)]; exact y5
                · rw [up_eq]; omega
                · rw [up_eq, hw, hal, hk2e, show 4 - (acc.length + 1) = k by omega]
          ·
            refine z_iconst hO dX4_read_66 ?_
            refine z_goto hO 71 dX4_read_67 (by decide) ?_
            refine z_istore_n hO (L' := [(2, _), (4, _), (0, _), (1, _), (3, _)]) dX4_read_71 (by decide) rfl ?_
            refine z_iload_n hO 0 dX4_read_72 rfl ?_
            refine z_if_eq hO 88 dX4_read_73 (by decide) (by decide) (fun c73 => absurd c73 (by omega)) (fun c73 => ?_)
            refine z_aload_n hO 3 dX4_read_76 rfl ?_
            refine z_getI hO 3 fl_X4_19 rfl rfl rfl dX4_read_77 (fun r77 => ?_)
            try simp (disch := omega) only [fl_row_ne, fl_ne, up_row_ne, up_ne, up_eq, up_nk, up_up, up_self, ne_eq, Nat.reduceEqDiff, Int.reduceEq, reduceCtorEq, not_false_eq_true, not_true_eq_false, u82, u81] at r77 ⊢
            refine z_bipush hO dX4_read_80 (by decide) ?_
            refine z_icmp_lt hO 114 dX4_read_82 (by decide) (by omega) (by decide) (fun c82 => ?_) (fun c82 => ?_)
            ·
              refine z_aload_n hO 2 dX4_read_114 rfl ?_
              refine z_dup hO dX4_read_115 rfl ?_
              refine z_getI hO 2 fl_X4_24 rfl rfl rfl dX4_read_116 (fun r116 => ?_)
              try simp (disch := omega) only [fl_row_ne, fl_ne, up_row_ne, up_ne, up_eq, up_nk, up_up, up_self, ne_eq, Nat.reduceEqDiff, Int.reduceEq, reduceCtorEq, not_false_eq_true, not_true_eq_false, u82, u81] at r116 ⊢
              refine z_iconst hO dX4_read_119 ?_
              refine z_iadd hO dX4_read_120 ?_
              refine z_putI hO 2 fp_X4_24 rfl rfl rfl (by omega) rfl rfl dX4_read_121 ?_
              refine z_iinc hO (L' := [(3, _), (2, _), (4, _), (0, _), (1, _)]) 4 dX4_read_124 rfl (by decide) rfl ?_
              refine z_goto hO 24 dX4_read_127 (by decide) ?_
              try simp only [up_up]
              have hFX : Fm fRe σ (up s31 81 2 ((sk (σ 82) (σ 81 1) e) + 1)) := hF1.up rfl
              obtain ⟨y, z1, z2⟩ := rd_stop y1 (by omega)
              rw [z1] at hw
              obtain ⟨k3, hk3⟩ : ∃ k3, k2 = k3 + 1 := ⟨k2 - 1, by omega⟩
              rw [hk3, ct_s (by rw [z2]; omega), z2] at hw
              refine z_pick [3, 4, 1, 0] rfl (ih _ 1 (l0 ++ [(acc ++ [(w, q)])]) [] _ (by omega) ?_ (by omega) ?_ (by decide) ?_ rfl ?_ ?_ ?_ hFX)
              · rw [List.length_append, List.length_singleton]; show _ ≤ _; simp only [List.length_nil]; omega
              · rw [List.length_append, List.length_singleton]; omega
              · intro q5 hq5; rcases List.mem_append.mp hq5 with z | z
                · exact hl q5 z
                · rw [List.mem_singleton.mp z, hal]; omega
              · rw [cv_81]; exact y5
              · rw [up_eq]; omega
              · rw [up_eq, hw, List.length_append, List.length_singleton, show 7 - (l0.length + 1) = k3 by omega]; rfl
            ·
              obtain ⟨y, z1, z2⟩ := rd_stop y1 (by omega)
              rw [z1] at hw
              have hk2 : k2 = 0 := by omega
              obtain ⟨z, x1, x2⟩ := ct_e (t := (σ 82)) (n := (σ 81 1)) (k := k2) (l0 := l0) (a := (acc ++ [(w, q)])) (y := y) (by rw [z2]; omega)
              rw [x1] at hw
              have htx := tx_mid hne hw (by rw [x2, z2]; omega)
              rw [x2, z2] at htx
              have hret : tdQ σ (sk (σ 82) (σ 81 1) e) (up s31 81 2 (sk (σ 82) (σ 81 1) e)) := ⟨Or.inl ⟨by rw [htx]; simp only; omega, by rw [htx], by omega, by omega⟩, hFU⟩
              refine z_goto hO 109 dX4_read_85 (by decide) ?_
              refine z_aload_n hO 2 dX4_read_109 rfl ?_
              refine z_getI hO 2 fl_X4_24 rfl rfl rfl dX4_read_110 (fun r110 => ?_)
              try simp (disch := omega) only [fl_row_ne, fl_ne, up_row_ne, up_ne, up_eq, up_nk, up_up, up_self, ne_eq, Nat.reduceEqDiff, Int.reduceEq, reduceCtorEq, not_false_eq_true, not_true_eq_false, u82, u81] at r110 ⊢
              exact z_retI hO hR dX4_read_113 (hret)

set_option maxHeartbeats 4000000 in
set_option maxRecDepth 100000 in
theorem t_X4_read {g : G} {σ : Sg} (hT : TW (σ 82) (σ 81 1)) : MM g mX4_read [.ref (g.2.2.1 81), .ref (g.2.2.1 5)] σ (pI (fun r σ' => tdQ σ r σ')) := by
  refine mm_of rfl (by decide) rfl rfl (Nat.le_of_ble_eq_true rfl) (fun x hO hR => ?_)
  refine z_aload_n hO 1 dX4_read_0 rfl ?_
  refine z_iconst hO dX4_read_1 ?_
  refine z_putI hO 3 fp_X4_19 rfl rfl rfl (by omega) rfl rfl dX4_read_2 ?_
  refine z_aload_n hO 0 dX4_read_5 rfl ?_
  refine z_iconst hO dX4_read_6 ?_
  refine z_putI hO 2 fp_X4_24 rfl rfl rfl (by omega) rfl rfl dX4_read_7 ?_
  refine z_aload_n hO 0 dX4_read_10 rfl ?_
  refine z_cvB hO (t_X4_isAtEnd (by simp (disch := omega) only [fl_row_ne, fl_ne, up_row_ne, up_ne, up_eq, up_nk, up_up, up_self, ne_eq, Nat.reduceEqDiff, Int.reduceEq, reduceCtorEq, not_false_eq_true, not_true_eq_false]; exact hT) (by simp (disch := omega) only [fl_row_ne, fl_ne, up_row_ne, up_ne, up_eq, up_nk, up_up, up_self, ne_eq, Nat.reduceEqDiff, Int.reduceEq, reduceCtorEq, not_false_eq_true, not_true_eq_false]; have := hT.1; omega)) cv_X4_27 rfl rfl rfl rfl (by decide) (Nat.le_of_ble_eq_true rfl) dX4_read_11 (fun s11 p11 => ?_) (fun s11 p11 => ?_)
  ·
    obtain ⟨aa, bb⟩ := p11
    simp (disch := omega) only [fl_row_ne, fl_ne, up_row_ne, up_ne, up_eq, up_nk, up_up, up_self, ne_eq, Nat.reduceEqDiff, Int.reduceEq, reduceCtorEq, not_false_eq_true, not_true_eq_false] at aa bb
    subst bb
    have hs0 := sk_r (t := σ 82) (n := σ 81 1) (i := 0) hT.1.1
    have hc0 := chr_r hT (i := sk (σ 82) (σ 81 1) 0) (by omega)
    have a1 : (σ 81 1) ≤ sk (σ 82) (σ 81 1) 0 := by simpa using aa
    have htx : txF (σ 82) (σ 81 1) = (-1, []) := by unfold txF; rw [if_pos (hc0.2.2.mpr a1)]
    refine z_if_eq hO 19 dX4_read_14 (by decide) (by decide) (fun c14 => absurd c14 (by omega)) (fun c14 => ?_)
    refine z_iconst hO dX4_read_17 ?_
    exact z_retI hO hR dX4_read_18 (⟨Or.inr ⟨by rw [htx], rfl, by rw [htx, cv_81]; exact EqV_nil⟩, (Fm.rf.up rfl).up rfl⟩)
  ·
    obtain ⟨aa, bb⟩ := p11
    simp (disch := omega) only [fl_row_ne, fl_ne, up_row_ne, up_ne, up_eq, up_nk, up_up, up_self, ne_eq, Nat.reduceEqDiff, Int.reduceEq, reduceCtorEq, not_false_eq_true, not_true_eq_false] at aa bb
    subst bb
    have hs0 := sk_r (t := σ 82) (n := σ 81 1) (i := 0) hT.1.1
    have hc0 := chr_r hT (i := sk (σ 82) (σ 81 1) 0) (by omega)
    have a1 : ¬ (σ 81 1) ≤ sk (σ 82) (σ 81 1) 0 := by simpa using aa
    refine z_if_eq hO 19 dX4_read_14 (by decide) (by decide) (fun c14 => ?_) (fun c14 => absurd c14 (by omega))
    refine z_iconst hO dX4_read_19 ?_
    refine z_istore_n hO (L' := [(2, _), (0, _), (1, _)]) dX4_read_20 (by decide) rfl ?_
    refine z_bipush hO dX4_read_21 (by decide) ?_
    refine z_istore_n hO (L' := [(3, _), (2, _), (0, _), (1, _)]) dX4_read_23 (by decide) rfl ?_
    refine z_pick [2, 3, 1, 0] rfl (lp_cread hO hR hT (fun z => a1 (hc0.2.2.mp z)) 33 32 1 [] [] _ (by omega) (by decide) (by omega) (by decide) (by decide) (fun q hq => by cases hq) rfl ?_ ?_ ?_ ((Fm.rf.up rfl).up rfl))
    · rw [cv_81]; exact EqV_nil
    · rw [up_eq]; omega
    · rw [up_eq, wdF_ct]; rfl
