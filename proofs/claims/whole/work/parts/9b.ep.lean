theorem smP_f {V : Hv} {c : Nat → Nat} {s t : Nat} (h : s.testBit t = false) : smP V c s (t + 1) ↔ smP V c s t := by
  constructor
  · intro z u v u1 v1; exact z u v (by omega) (by omega)
  · intro z u v u1 v1 u2 v2
    have hu : u ≠ t := by intro e; rw [e, h] at u2; cases u2
    have hv : v ≠ t := by intro e; rw [e, h] at v2; cases v2
    exact z u v (by omega) (by omega) u2 v2
theorem smP_t {V : Hv} {c : Nat → Nat} {s t u0 : Nat} (h : s.testBit t = true) (hu : u0 < t) (hs : s.testBit u0 = true) : smP V c s (t + 1) ↔ smP V c s t ∧ nm V (c t) = nm V (c u0) := by
  constructor
  · intro z; exact ⟨fun u v u1 v1 => z u v (by omega) (by omega), z t u0 (by omega) (by omega) h hs⟩
  · rintro ⟨z, e⟩ u v u1 v1 u2 v2
    by_cases hu' : u = t
    · by_cases hv' : v = t
      · rw [hu', hv']
      · rw [hu', e]; exact z u0 v hu (by omega) hs v2
    · by_cases hv' : v = t
      · rw [hv', e]; exact z u u0 (by omega) hu u2 hs
      · exact z u v (by omega) (by omega) u2 v2
theorem smP_e {V : Hv} {c : Nat → Nat} {s t : Nat} (h : ∀ u, u < t → s.testBit u = false) : smP V c s (t + 1) := by
  intro u v u1 v1 u2 v2
  have hu : u = t := by apply Classical.byContradiction; intro z; rw [h u (by omega)] at u2; cases u2
  have hv : v = t := by apply Classical.byContradiction; intro z; rw [h v (by omega)] at v2; cases v2
  rw [hu, hv]
def tsI (V : Hv) (c : Nat → Nat) (s t : Nat) (many : Int) (τ : Sg) : Prop := (nS s t = 0 ∧ ∀ u, u < t → s.testBit u = false) ∨ (0 < nS s t ∧ ∃ u0, u0 < t ∧ s.testBit u0 = true ∧ many = (nm V (c u0)).length ∧ rowIs (τ 123) (nm V (c u0)))
/-- the list of those counted -/
def lsQ (V : Hv) (c : Nat → Nat) (m : Nat) (σ : Sg) : Prop := ∀ t : Nat, t < m → σ 120 t = c t ∧ (c t : Int) < rdN V ∧ said V (c t) = true

set_option maxHeartbeats 4000000 in
set_option maxRecDepth 100000 in
theorem lp_ts5 {g : G} {x : Cx} {σ : Sg} {c : Nat → Nat} {s m : Nat} (hO : Ok g x RX9 cX9_tellsSame 8 10) (hR : Rt g x (some .boolean) (pB (fun b σ' => (b = true ↔ smP (mv (σ 114)) c s m) ∧ σ' 113 21 = nS s m ∧ (∀ a w', 0 ≤ a → a < σ 114 0 → 0 ≤ w' → w' < 32 →  σ' 119 (32 * a + w') = hvT (mv (σ 114)) c s a w' m) ∧ Fm fTS σ σ'))) (hV : WV (mv (σ 114))) (hm : σ 113 15 = (m : Int)) (h60 : m ≤ 60) (hs : s < 2 ^ m) (hc : lsQ (mv (σ 114)) c m σ) : ∀ (f t : Nat) (b : Bool) (many : Int) (τ : Sg), t ≤ m → m - t < f → (b = true ↔ smP (mv (σ 114)) c s t) → tsI (mv (σ 114)) c s t many τ → (∀ a w', 0 ≤ a → a < σ 114 0 → 0 ≤ w' → w' < 32 →  τ 119 (32 * a + w') = hvT (mv (σ 114)) c s a w' t) → Fm fTS σ τ → Z g x 8 36 [(0, .ref (g.2.2.1 113)), (1, vL (s : Int)), (3, vI (b2i b)), (4, vI (nS s t)), (5, vI many), (6, vI t)] [] τ := by
  have hn0 := hV.1
  have hn8 := hV.2.1
  rw [mv_n] at hn0 hn8
  intro f
  induction f with
  | zero => intro t b many τ h0 hk; exact absurd hk (by omega)
  | succ f ih =>
    intro t b many τ ht hf hb hI hh hFm
    have e114 : τ 114 = σ 114 := hFm.row 114 (fun _ => rfl)
    have e120 : τ 120 = σ 120 := hFm.row 120 (fun _ => rfl)
    have e15 : τ 113 15 = (m : Int) := (hFm 113 15 rfl).trans hm
    refine z_iload hO 5 dX9_tellsSame_36 rfl ?_
    refine z_aload_n hO 0 dX9_tellsSame_38 rfl ?_
    refine z_getI hO 15 fl_X9_157 rfl rfl rfl dX9_tellsSame_39 (fun r39 => ?_)
    try simp (disch := omega) only [fl_row_ne, fl_ne, up_row_ne, up_ne, up_eq, up_nk, up_up, up_self, ne_eq, Nat.reduceEqDiff, Int.reduceEq, reduceCtorEq, not_false_eq_true, not_true_eq_false, e15, e120] at r39 ⊢
    refine z_icmp_ge hO 250 dX9_tellsSame_42 (by decide) (by omega) (by omega) (fun c42 => ?_) (fun c42 => ?_)
    ·
      have htm : t = m := by omega
      subst htm
      have qr := nS_r s t
      refine z_aload_n hO 0 dX9_tellsSame_250 rfl ?_
      refine z_iload hO 3 dX9_tellsSame_251 rfl ?_
      refine z_putI hO 21 fp_X9_166 rfl rfl rfl (by omega) rfl rfl dX9_tellsSame_253 ?_
      refine z_iload_n hO 2 dX9_tellsSame_256 rfl ?_
      exact z_retB hO hR dX9_tellsSame_257 (⟨hb, up_eq, fun a w' h0 h1 h2 h3 => by rw [up_ne (by decide)]; exact hh a w' h0 h1 h2 h3, hFm.up rfl⟩)
    ·
      obtain ⟨hc1, hc2, hc3⟩ := hc t (by omega)
      have hte := Nat.testBit_eq_decide_div_mod_eq (x := s) (i := t)
      have hrd := rdN_r hV
      have hlen := said_r hV hc3
      have hsl := pow60 hs h60
      refine z_lload_n hO 1 dX9_tellsSame_45 rfl ?_
      refine z_iload hO 5 dX9_tellsSame_46 rfl ?_
      refine z_lshr hO (((s / 2 ^ t : Nat) : Int)) dX9_tellsSame_48 (bl_shr (by omega) (by omega)) ?_
      refine z_lconst hO 1 dX9_tellsSame_49 (by decide) ?_
      refine z_land hO (((s / 2 ^ t % 2 : Nat) : Int)) dX9_tellsSame_50 (by rw [show ((1 : Int)) = ((1 : Nat) : Int) from rfl, bl_and, Nat.and_one_is_mod]) ?_
      refine z_lconst hO 1 dX9_tellsSame_51 (by decide) ?_
      refine z_lcmp hO dX9_tellsSame_52 (by omega) (by omega) (fun c52 => ?_) (fun c52 => ?_) (fun c52 => ?_)
      ·
        exfalso; omega
      ·
        refine z_if_ne hO 244 dX9_tellsSame_53 (by decide) (by decide) (fun c53 => absurd c53 (by omega)) (fun c53 => ?_)
        refine z_aload_n hO 0 dX9_tellsSame_56 rfl ?_
        refine z_aload_n hO 0 dX9_tellsSame_57 rfl ?_
        refine z_getR hO (120) fl_X9_28 rfl rfl dX9_tellsSame_58 ?_
        refine z_iload hO 5 dX9_tellsSame_61 rfl ?_
        refine z_iald hO rfl (by omega) (by decide) dX9_tellsSame_63 (fun r63 => ?_)
        try simp (disch := omega) only [fl_row_ne, fl_ne, up_row_ne, up_ne, up_eq, up_nk, up_up, up_self, ne_eq, Nat.reduceEqDiff, Int.reduceEq, reduceCtorEq, not_false_eq_true, not_true_eq_false, e15, e120] at r63 ⊢
        rw [hc1] at r63 ⊢
        have hbit : s.testBit t = true := by rw [hte]; exact decide_eq_true (by omega)
        refine z_cvB hO (t_X9_takes (r := (c t : Int)) (by rw [e114]; exact hV) (by omega)) cv_X9_144 rfl rfl rfl rfl (by decide) (Nat.le_of_ble_eq_true rfl) dX9_tellsSame_64 (fun s64 p64 => ?_) (fun s64 p64 => ?_)
        ·
          rw [e114] at p64
          have q6 : s64 113 6 = (nm (mv (σ 114)) (c t)).length := p64.1.2.1
          have q117 : rowIs (s64 117) (nm (mv (σ 114)) (c t)) := p64.1.2.2.1
          have q115 : ∀ j : Int, 0 ≤ j → j < σ 114 0 → s64 115 j = pk (mv (σ 114)) (c t) j := fun j j0 j1 => p64.2.1 j j0 j1
          have q114 : s64 114 = σ 114 := (p64.2.2.row 114 (fun _ => rfl)).trans e114
          have q119 : s64 119 = τ 119 := p64.2.2.row 119 (fun _ => rfl)
          have qFm : Fm fTS σ s64 := hFm.trans (p64.2.2.mono fTk_TS)
          have qn := nS_s s t
          rw [if_pos hbit] at qn
          have qr := nS_r s t
          refine z_if_eq hO 78 dX9_tellsSame_67 (by decide) (by decide) (fun c67 => absurd c67 (by omega)) (fun c67 => ?_)
          refine z_iload_n hO 2 dX9_tellsSame_70 rfl ?_
          refine z_if_eq hO 78 dX9_tellsSame_71 (by decide) (by have := b2i_r b; omega) (fun c71 => ?_) (fun c71 => ?_)
          ·
            have hbf := b2i_0.mp c71
            subst hbf
            refine z_iconst hO dX9_tellsSame_78 ?_
            refine z_istore_n hO (L' := [(3, _), (0, _), (1, _), (4, _), (5, _), (6, _)]) dX9_tellsSame_79 (by decide) rfl ?_
            refine z_iload hO 3 dX9_tellsSame_80 rfl ?_
            refine z_if_ne hO 123 dX9_tellsSame_82 (by decide) (by omega) (fun c82 => ?_) (fun c82 => ?_)
            ·
              obtain ⟨u0, hu1, hu2, hu3, hu4⟩ : ∃ u0, u0 < t ∧ s.testBit u0 = true ∧ many = (nm (mv (σ 114)) (c u0)).length ∧ rowIs (τ 123) (nm (mv (σ 114)) (c u0)) := by rcases hI with z | z; (exact absurd z.1 c82); exact z.2
              subst hu3
              have q123 : rowIs (s64 123) (nm (mv (σ 114)) (c u0)) := by rw [p64.2.2.row 123 (fun _ => rfl)]; exact hu4
              have hlen0 := said_r hV (hc u0 (by omega)).2.2
              refine z_pick [1, 2, 0, 3, 4, 5] rfl (lp_ts4 (σ := s64) (b1 := false) (L := (nm (mv (σ 114)) (c t))) (F := (nm (mv (σ 114)) (c u0))) hO (by rw [q114]; exact hV) (by rw [q114]; intro j j0 j1; rw [q115 j j0 j1]; exact pk_WP hV (c t) j j0 j1) (fun a w' h0 h1 h2 h3 => by rw [q114] at h1; rw [q119, hh a w' h0 h1 h2 h3]; have := hvT_r (mv (σ 114)) c s a w' t; omega) q6 q117 q123 (by omega) ?_)
              intro b2 ω hb2 hFw hhw
              have hF5 : Fm fTS σ ω := qFm.trans (hFw.mono f119_TS)
              have hh5 : ∀ a w', 0 ≤ a → a < σ 114 0 → 0 ≤ w' → w' < 32 →  ω 119 (32 * a + w') = hvT (mv (σ 114)) c s a w' (t + 1) := fun a w' h0 h1 h2 h3 => by
                have z := hhw a w' h0 (by rw [q114]; exact h1) h2 h3
                rw [q114, q115 a h0 h1, q119, hh a w' h0 h1 h2 h3] at z
                rw [z, hvT_s]
                by_cases q : (mv (σ 114)).2.2.1 a (pk (mv (σ 114)) (c t) a) = w'
                · rw [if_pos q, if_pos ⟨hbit, q⟩]
                · rw [if_neg q, if_neg (fun y => q y.2)]
              have hb5 : b2 = true ↔ smP (mv (σ 114)) c s (t + 1) := by rw [hb2, smP_t hbit hu1 hu2, hb]
              have hI5 : tsI (mv (σ 114)) c s (t + 1) ((nm (mv (σ 114)) (c u0)).length : Int) ω := Or.inr ⟨by omega, u0, by omega, hu2, rfl, by rw [hFw.row 123 (fun _ => rfl)]; exact q123⟩
              refine z_iinc hO (L' := [(4, _), (0, _), (1, _), (3, _), (5, _), (6, _)]) 3 dX9_tellsSame_241 rfl (by decide) rfl ?_
              refine z_iinc hO (L' := [(6, _), (4, _), (0, _), (1, _), (3, _), (5, _)]) 5 dX9_tellsSame_244 rfl (by decide) rfl ?_
              refine z_goto hO 36 dX9_tellsSame_247 (by decide) ?_
              exact z_pick [2, 3, 4, 1, 5, 0] rfl (by have h := ih (t + 1) b2 _ ω (by omega) (by omega) hb5 hI5 hh5 hF5; rw [qn] at h; exact h)
            ·
              have hem : ∀ u, u < t → s.testBit u = false := by rcases hI with z | z; (exact z.2); omega
              refine z_aload_n hO 1 dX9_tellsSame_85 rfl ?_
              refine z_getI hO 6 fl_X9_113 rfl rfl rfl dX9_tellsSame_86 (fun r86 => ?_)
              rw [q6] at r86 ⊢
              refine z_istore hO (L' := [(5, _), (3, _), (0, _), (1, _), (4, _), (6, _)]) dX9_tellsSame_89 (by decide) rfl ?_
              refine z_iconst hO dX9_tellsSame_91 ?_
              refine z_istore hO (L' := [(7, _), (5, _), (3, _), (0, _), (1, _), (4, _), (6, _)]) dX9_tellsSame_92 (by decide) rfl ?_
              refine z_pick [3, 4, 2, 5, 1, 6, 0] rfl (lp_ts3 (σ := s64) hO (by omega) ?_ 9 0 s64 (by omega) (by omega) (fun j j0 j1 => absurd j1 (by omega)) (fun _ _ _ => rfl))
              intro υ hcp hrest
              have w6 : υ 113 6 = (nm (mv (σ 114)) (c t)).length := (hrest 113 6 (by decide)).trans q6
              have w117 : rowIs (υ 117) (nm (mv (σ 114)) (c t)) := rowIs_keep q117 (fun j _ _ => hrest 117 j (by decide))
              have w123 : rowIs (υ 123) (nm (mv (σ 114)) (c t)) := rowIs_keep q117 (fun j j0 j1 => hcp j j0 (by omega))
              have w114 : υ 114 = σ 114 := (funext fun j => hrest 114 j (by decide)).trans q114
              have w115 : ∀ j : Int, 0 ≤ j → j < σ 114 0 → υ 115 j = pk (mv (σ 114)) (c t) j := fun j j0 j1 => (hrest 115 j (by decide)).trans (q115 j j0 j1)
              have w119 : υ 119 = τ 119 := (funext fun j => hrest 119 j (by decide)).trans q119
              have wFm : Fm fTS σ υ := fun cc k z => (hrest cc k (by rintro rfl; cases (show true = false from z))).trans (qFm cc k z)
              refine lp_ts4 (σ := υ) (b1 := false) (L := (nm (mv (σ 114)) (c t))) (F := (nm (mv (σ 114)) (c t))) hO (by rw [w114]; exact hV) (by rw [w114]; intro j j0 j1; rw [w115 j j0 j1]; exact pk_WP hV (c t) j j0 j1) (fun a w' h0 h1 h2 h3 => by rw [w114] at h1; rw [w119, hh a w' h0 h1 h2 h3]; have := hvT_r (mv (σ 114)) c s a w' t; omega) w6 w117 w123 (by omega) ?_
              intro b2 ω hb2 hFw hhw
              have hF5 : Fm fTS σ ω := wFm.trans (hFw.mono f119_TS)
              have hh5 : ∀ a w', 0 ≤ a → a < σ 114 0 → 0 ≤ w' → w' < 32 →  ω 119 (32 * a + w') = hvT (mv (σ 114)) c s a w' (t + 1) := fun a w' h0 h1 h2 h3 => by
                have z := hhw a w' h0 (by rw [w114]; exact h1) h2 h3
                rw [w114, w115 a h0 h1, w119, hh a w' h0 h1 h2 h3] at z
                rw [z, hvT_s]
                by_cases q : (mv (σ 114)).2.2.1 a (pk (mv (σ 114)) (c t) a) = w'
                · rw [if_pos q, if_pos ⟨hbit, q⟩]
                · rw [if_neg q, if_neg (fun y => q y.2)]
              have hb5 : b2 = true ↔ smP (mv (σ 114)) c s (t + 1) := by rw [hb2]; exact ⟨fun _ => smP_e hem, fun _ => ⟨hb.mpr (fun u v u1 _ u2 _ => by rw [hem u u1] at u2; cases u2), rfl⟩⟩
              have hI5 : tsI (mv (σ 114)) c s (t + 1) ((nm (mv (σ 114)) (c t)).length : Int) ω := Or.inr ⟨by omega, t, by omega, hbit, rfl, by rw [hFw.row 123 (fun _ => rfl)]; exact w123⟩
              refine z_iinc hO (L' := [(4, _), (0, _), (1, _), (3, _), (5, _), (6, _)]) 3 dX9_tellsSame_241 rfl (by decide) rfl ?_
              refine z_iinc hO (L' := [(6, _), (4, _), (0, _), (1, _), (3, _), (5, _)]) 5 dX9_tellsSame_244 rfl (by decide) rfl ?_
              refine z_goto hO 36 dX9_tellsSame_247 (by decide) ?_
              exact z_pick [2, 3, 4, 1, 5, 0] rfl (by have h := ih (t + 1) b2 _ ω (by omega) (by omega) hb5 hI5 hh5 hF5; rw [qn] at h; exact h)
          ·
            have hbt := b2i_1.mp c71
            subst hbt
            refine z_iconst hO dX9_tellsSame_74 ?_
            refine z_goto hO 79 dX9_tellsSame_75 (by decide) ?_
            refine z_istore_n hO (L' := [(3, _), (0, _), (1, _), (4, _), (5, _), (6, _)]) dX9_tellsSame_79 (by decide) rfl ?_
            refine z_iload hO 3 dX9_tellsSame_80 rfl ?_
            refine z_if_ne hO 123 dX9_tellsSame_82 (by decide) (by omega) (fun c82 => ?_) (fun c82 => ?_)
            ·
              obtain ⟨u0, hu1, hu2, hu3, hu4⟩ : ∃ u0, u0 < t ∧ s.testBit u0 = true ∧ many = (nm (mv (σ 114)) (c u0)).length ∧ rowIs (τ 123) (nm (mv (σ 114)) (c u0)) := by rcases hI with z | z; (exact absurd z.1 c82); exact z.2
              subst hu3
              have q123 : rowIs (s64 123) (nm (mv (σ 114)) (c u0)) := by rw [p64.2.2.row 123 (fun _ => rfl)]; exact hu4
              have hlen0 := said_r hV (hc u0 (by omega)).2.2
              refine z_pick [1, 2, 0, 3, 4, 5] rfl (lp_ts4 (σ := s64) (b1 := true) (L := (nm (mv (σ 114)) (c t))) (F := (nm (mv (σ 114)) (c u0))) hO (by rw [q114]; exact hV) (by rw [q114]; intro j j0 j1; rw [q115 j j0 j1]; exact pk_WP hV (c t) j j0 j1) (fun a w' h0 h1 h2 h3 => by rw [q114] at h1; rw [q119, hh a w' h0 h1 h2 h3]; have := hvT_r (mv (σ 114)) c s a w' t; omega) q6 q117 q123 (by omega) ?_)
              intro b2 ω hb2 hFw hhw
              have hF5 : Fm fTS σ ω := qFm.trans (hFw.mono f119_TS)
              have hh5 : ∀ a w', 0 ≤ a → a < σ 114 0 → 0 ≤ w' → w' < 32 →  ω 119 (32 * a + w') = hvT (mv (σ 114)) c s a w' (t + 1) := fun a w' h0 h1 h2 h3 => by
                have z := hhw a w' h0 (by rw [q114]; exact h1) h2 h3
                rw [q114, q115 a h0 h1, q119, hh a w' h0 h1 h2 h3] at z
                rw [z, hvT_s]
                by_cases q : (mv (σ 114)).2.2.1 a (pk (mv (σ 114)) (c t) a) = w'
                · rw [if_pos q, if_pos ⟨hbit, q⟩]
                · rw [if_neg q, if_neg (fun y => q y.2)]
              have hb5 : b2 = true ↔ smP (mv (σ 114)) c s (t + 1) := by rw [hb2, smP_t hbit hu1 hu2, hb]
              have hI5 : tsI (mv (σ 114)) c s (t + 1) ((nm (mv (σ 114)) (c u0)).length : Int) ω := Or.inr ⟨by omega, u0, by omega, hu2, rfl, by rw [hFw.row 123 (fun _ => rfl)]; exact q123⟩
              refine z_iinc hO (L' := [(4, _), (0, _), (1, _), (3, _), (5, _), (6, _)]) 3 dX9_tellsSame_241 rfl (by decide) rfl ?_
              refine z_iinc hO (L' := [(6, _), (4, _), (0, _), (1, _), (3, _), (5, _)]) 5 dX9_tellsSame_244 rfl (by decide) rfl ?_
              refine z_goto hO 36 dX9_tellsSame_247 (by decide) ?_
              exact z_pick [2, 3, 4, 1, 5, 0] rfl (by have h := ih (t + 1) b2 _ ω (by omega) (by omega) hb5 hI5 hh5 hF5; rw [qn] at h; exact h)
            ·
              have hem : ∀ u, u < t → s.testBit u = false := by rcases hI with z | z; (exact z.2); omega
              refine z_aload_n hO 1 dX9_tellsSame_85 rfl ?_
              refine z_getI hO 6 fl_X9_113 rfl rfl rfl dX9_tellsSame_86 (fun r86 => ?_)
              rw [q6] at r86 ⊢
              refine z_istore hO (L' := [(5, _), (3, _), (0, _), (1, _), (4, _), (6, _)]) dX9_tellsSame_89 (by decide) rfl ?_
              refine z_iconst hO dX9_tellsSame_91 ?_
              refine z_istore hO (L' := [(7, _), (5, _), (3, _), (0, _), (1, _), (4, _), (6, _)]) dX9_tellsSame_92 (by decide) rfl ?_
              refine z_pick [3, 4, 2, 5, 1, 6, 0] rfl (lp_ts3 (σ := s64) hO (by omega) ?_ 9 0 s64 (by omega) (by omega) (fun j j0 j1 => absurd j1 (by omega)) (fun _ _ _ => rfl))
              intro υ hcp hrest
              have w6 : υ 113 6 = (nm (mv (σ 114)) (c t)).length := (hrest 113 6 (by decide)).trans q6
              have w117 : rowIs (υ 117) (nm (mv (σ 114)) (c t)) := rowIs_keep q117 (fun j _ _ => hrest 117 j (by decide))
              have w123 : rowIs (υ 123) (nm (mv (σ 114)) (c t)) := rowIs_keep q117 (fun j j0 j1 => hcp j j0 (by omega))
              have w114 : υ 114 = σ 114 := (funext fun j => hrest 114 j (by decide)).trans q114
              have w115 : ∀ j : Int, 0 ≤ j → j < σ 114 0 → υ 115 j = pk (mv (σ 114)) (c t) j := fun j j0 j1 => (hrest 115 j (by decide)).trans (q115 j j0 j1)
              have w119 : υ 119 = τ 119 := (funext fun j => hrest 119 j (by decide)).trans q119
              have wFm : Fm fTS σ υ := fun cc k z => (hrest cc k (by rintro rfl; cases (show true = false from z))).trans (qFm cc k z)
              refine lp_ts4 (σ := υ) (b1 := true) (L := (nm (mv (σ 114)) (c t))) (F := (nm (mv (σ 114)) (c t))) hO (by rw [w114]; exact hV) (by rw [w114]; intro j j0 j1; rw [w115 j j0 j1]; exact pk_WP hV (c t) j j0 j1) (fun a w' h0 h1 h2 h3 => by rw [w114] at h1; rw [w119, hh a w' h0 h1 h2 h3]; have := hvT_r (mv (σ 114)) c s a w' t; omega) w6 w117 w123 (by omega) ?_
              intro b2 ω hb2 hFw hhw
              have hF5 : Fm fTS σ ω := wFm.trans (hFw.mono f119_TS)
              have hh5 : ∀ a w', 0 ≤ a → a < σ 114 0 → 0 ≤ w' → w' < 32 →  ω 119 (32 * a + w') = hvT (mv (σ 114)) c s a w' (t + 1) := fun a w' h0 h1 h2 h3 => by
                have z := hhw a w' h0 (by rw [w114]; exact h1) h2 h3
                rw [w114, w115 a h0 h1, w119, hh a w' h0 h1 h2 h3] at z
                rw [z, hvT_s]
                by_cases q : (mv (σ 114)).2.2.1 a (pk (mv (σ 114)) (c t) a) = w'
                · rw [if_pos q, if_pos ⟨hbit, q⟩]
                · rw [if_neg q, if_neg (fun y => q y.2)]
              have hb5 : b2 = true ↔ smP (mv (σ 114)) c s (t + 1) := by rw [hb2]; exact ⟨fun _ => smP_e hem, fun _ => ⟨hb.mpr (fun u v u1 _ u2 _ => by rw [hem u u1] at u2; cases u2), rfl⟩⟩
              have hI5 : tsI (mv (σ 114)) c s (t + 1) ((nm (mv (σ 114)) (c t)).length : Int) ω := Or.inr ⟨by omega, t, by omega, hbit, rfl, by rw [hFw.row 123 (fun _ => rfl)]; exact w123⟩
              refine z_iinc hO (L' := [(4, _), (0, _), (1, _), (3, _), (5, _), (6, _)]) 3 dX9_tellsSame_241 rfl (by decide) rfl ?_
              refine z_iinc hO (L' := [(6, _), (4, _), (0, _), (1, _), (3, _), (5, _)]) 5 dX9_tellsSame_244 rfl (by decide) rfl ?_
              refine z_goto hO 36 dX9_tellsSame_247 (by decide) ?_
              exact z_pick [2, 3, 4, 1, 5, 0] rfl (by have h := ih (t + 1) b2 _ ω (by omega) (by omega) hb5 hI5 hh5 hF5; rw [qn] at h; exact h)
        ·
          rw [e114] at p64
          exfalso; have z : false = said (mv (σ 114)) (c t) := p64.1.1; rw [hc3] at z; cases z
      ·
        refine z_if_ne hO 244 dX9_tellsSame_53 (by decide) (by decide) (fun c53 => ?_) (fun c53 => absurd c53 (by omega))
        refine z_iinc hO (L' := [(6, _), (0, _), (1, _), (3, _), (4, _), (5, _)]) 5 dX9_tellsSame_244 rfl (by decide) rfl ?_
        refine z_goto hO 36 dX9_tellsSame_247 (by decide) ?_
        have hbit : s.testBit t = false := by rw [hte]; exact decide_eq_false (by omega)
        have qn := nS_s s t
        rw [if_neg (by rw [hbit]; decide), Int.add_zero] at qn
        exact z_pick [1, 2, 3, 4, 5, 0] rfl (by have h := ih (t + 1) b many τ (by omega) (by omega) (by rw [smP_f hbit]; exact hb) (by unfold tsI at hI ⊢; rw [qn]; rcases hI with z | ⟨z, u0, z1, z2⟩; (exact Or.inl ⟨z.1, fun u hu => by by_cases q : u = t; (rw [q]; exact hbit); exact z.2 u (by omega)⟩); exact Or.inr ⟨z, u0, by omega, z2⟩) (fun a w' h0 h1 h2 h3 => by rw [hvT_s, if_neg (fun y => by rw [hbit] at y; exact absurd y.1 (by decide)), Int.add_zero]; exact hh a w' h0 h1 h2 h3) hFm; rw [qn] at h; exact h)

set_option maxHeartbeats 4000000 in
set_option maxRecDepth 100000 in
theorem lp_ts6 {g : G} {x : Cx} {σ : Sg} {c : Nat → Nat} {s m : Nat} (hO : Ok g x RX9 cX9_tellsSame 8 10) (hR : Rt g x (some .boolean) (pB (fun b σ' => (b = true ↔ smP (mv (σ 114)) c s m) ∧ σ' 113 21 = nS s m ∧ (∀ a w', 0 ≤ a → a < σ 114 0 → 0 ≤ w' → w' < 32 →  σ' 119 (32 * a + w') = hvT (mv (σ 114)) c s a w' m) ∧ Fm fTS σ σ'))) (hV : WV (mv (σ 114))) (hm : σ 113 15 = (m : Int)) (h60 : m ≤ 60) (hs : s < 2 ^ m) (hc : lsQ (mv (σ 114)) c m σ) : ∀ (f k : Nat) (τ : Sg), k ≤ 256 → 256 - k < f → (∀ j : Nat, j < k → τ 119 j = 0) → Fm fTS σ τ → Z g x 8 11 [(0, .ref (g.2.2.1 113)), (1, vL (s : Int)), (3, vI 1), (4, vI 0), (5, vI 0), (6, vI k)] [] τ := by
  have hn0 := hV.1
  have hn8 := hV.2.1
  rw [mv_n] at hn0 hn8
  intro f
  induction f with
  | zero => intro k τ h0 hk; exact absurd hk (by omega)
  | succ f ih =>
    intro k τ hk hf hz hFm
    refine z_iload hO 5 dX9_tellsSame_11 rfl ?_
    refine z_sipush hO dX9_tellsSame_13 (by decide) ?_
    refine z_icmp_ge hO 33 dX9_tellsSame_16 (by decide) (by omega) (by decide) (fun c16 => ?_) (fun c16 => ?_)
    ·
      refine z_iconst hO dX9_tellsSame_33 ?_
      refine z_istore hO (L' := [(6, _), (0, _), (1, _), (3, _), (4, _), (5, _)]) dX9_tellsSame_34 (by decide) rfl ?_
      exact z_pick [1, 2, 3, 4, 5, 0] rfl (lp_ts5 (σ := σ) (c := c) (s := s) (m := m) hO hR hV hm h60 hs hc 61 0 true 0 τ (by omega) (by omega) (iff_of_true rfl (fun u v u1 => absurd u1 (Nat.not_lt_zero u))) (Or.inl ⟨rfl, fun u hu => absurd hu (Nat.not_lt_zero u)⟩) (fun a w' h0 h1 h2 h3 => by have z := hz (32 * a + w').toNat (by omega); rw [show (((32 * a + w').toNat : Nat) : Int) = 32 * a + w' by omega] at z; exact z) hFm)
    ·
      refine z_aload_n hO 0 dX9_tellsSame_19 rfl ?_
      refine z_getR hO (119) fl_X9_25 rfl rfl dX9_tellsSame_20 ?_
      refine z_iload hO 5 dX9_tellsSame_23 rfl ?_
      refine z_iconst hO dX9_tellsSame_25 ?_
      refine z_iast hO rfl (by omega) (by decide) (by omega) dX9_tellsSame_26 ?_
      refine z_iinc hO (L' := [(6, _), (0, _), (1, _), (3, _), (4, _), (5, _)]) 5 dX9_tellsSame_27 rfl (by decide) rfl ?_
      refine z_goto hO 11 dX9_tellsSame_30 (by decide) ?_
      refine z_pick [1, 2, 3, 4, 5, 0] rfl (ih (k + 1) _ (by omega) (by omega) (fun j hj => ?_) (hFm.up rfl))
      by_cases q : j = k
      · rw [q, up_eq]
      · rw [up_nk (by omega)]; exact hz j (by omega)

set_option maxHeartbeats 4000000 in
set_option maxRecDepth 100000 in
theorem t_X9_tellsSame {g : G} {σ : Sg} {c : Nat → Nat} {s m : Nat} (hV : WV (mv (σ 114))) (hm : σ 113 15 = (m : Int)) (h60 : m ≤ 60) (hs : s < 2 ^ m) (hc : lsQ (mv (σ 114)) c m σ) : MM g mX9_tellsSame [.ref (g.2.2.1 113), vL (s : Int)] σ (pB (fun b σ' => (b = true ↔ smP (mv (σ 114)) c s m) ∧ σ' 113 21 = nS s m ∧ (∀ a w', 0 ≤ a → a < σ 114 0 → 0 ≤ w' → w' < 32 →  σ' 119 (32 * a + w') = hvT (mv (σ 114)) c s a w' m) ∧ Fm fTS σ σ')) := by
  refine mm_of rfl (by decide) rfl rfl (Nat.le_of_ble_eq_true rfl) (fun x hO hR => ?_)
  refine z_iconst hO dX9_tellsSame_0 ?_
  refine z_istore_n hO (L' := [(3, _), (0, _), (1, _)]) dX9_tellsSame_1 (by decide) rfl ?_
  refine z_iconst hO dX9_tellsSame_2 ?_
  refine z_istore hO (L' := [(4, _), (3, _), (0, _), (1, _)]) dX9_tellsSame_3 (by decide) rfl ?_
  refine z_iconst hO dX9_tellsSame_5 ?_
  refine z_istore hO (L' := [(5, _), (4, _), (3, _), (0, _), (1, _)]) dX9_tellsSame_6 (by decide) rfl ?_
  refine z_iconst hO dX9_tellsSame_8 ?_
  refine z_istore hO (L' := [(6, _), (5, _), (4, _), (3, _), (0, _), (1, _)]) dX9_tellsSame_9 (by decide) rfl ?_
  exact z_pick [4, 5, 3, 2, 1, 0] rfl (lp_ts6 (σ := σ) (c := c) (m := m) hO hR hV hm h60 hs hc 257 0 σ (by omega) (by omega) (fun j hj => absurd hj (Nat.not_lt_zero j)) Fm.rf)
