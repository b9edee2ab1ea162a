theorem FH.trans {o : Nat} {σ τ υ : Sg} (h1 : FH o σ τ) (h2 : FH o τ υ) : FH o σ υ := fun c k z => (h2 c k z).trans (h1 c k z)
theorem FH.growL {o : Nat} {σ : Sg} (l : List Int) : FH o σ (growL σ o l) := fun _ _ z => growL_ne z
theorem FH.up3 {o : Nat} {σ : Sg} {k v : Int} : FH o σ (up σ o k v) := fun c _ z => up_ne (by omega)
theorem GI_0 {σ : Sg} {o : Nat} : GI (up σ o 3 0) o := ⟨by rw [up_eq]; omega, fun i i0 i1 => by rw [up_eq] at i1; omega⟩

set_option maxHeartbeats 4000000 in
set_option maxRecDepth 100000 in
theorem t_X2_spell {g : G} {σ : Sg} {o : Nat} (ho : Hd o) {v : Int} (hv : 1 ≤ v ∧ v ≤ 999999) : MM g mX2_spell [.ref (g.2.2.1 o), vI v] σ (pB (fun b σ' => (b = true → (numW v).length ≤ 8 ∧ σ' = growL (up σ o 3 0) o (numW v)) ∧ (b = false → 8 < (numW v).length ∧ FH o σ σ'))) := by
  refine mm_of rfl (by decide) rfl rfl (Nat.le_of_ble_eq_true rfl) (fun x hO hR => ?_)
  refine z_aload_n hO 0 dX2_spell_0 rfl ?_
  refine z_iconst hO dX2_spell_1 ?_
  refine z_putI hO 3 fp_X2_41 ho.1 rfl rfl (by omega) rfl rfl dX2_spell_2 ?_
  refine z_iload_n hO 1 dX2_spell_5 rfl ?_
  refine z_sipush hO dX2_spell_6 (by decide) ?_
  refine z_icmp_lt hO 36 dX2_spell_9 (by decide) (by omega) (by decide) (fun c9 => ?_) (fun c9 => ?_)
  ·
    have hv0 : numW v = smallW (v % 1000) := by unfold numW; rw [if_neg (by omega)]; rfl
    refine z_aload_n hO 0 dX2_spell_36 rfl ?_
    refine z_iload_n hO 1 dX2_spell_37 rfl ?_
    refine z_sipush hO dX2_spell_38 (by decide) ?_
    refine z_irem hO dX2_spell_41 (by omega) (by omega) ?_
    refine z_cvB hO (t_X2_spellSmall ho (by omega) (by first | exact hG | exact GI_0)) cv_X2_59 ho.1 rfl rfl rfl (by decide) (Nat.le_of_ble_eq_true rfl) dX2_spell_42 (fun s42 p42 => ?_) (fun s42 p42 => ?_)
    ·
      simp only [up_eq] at p42
      obtain ⟨k42, rfl⟩ := p42.1 (by trivial)
      first | (rw [hn2] at k42; exact z_retT hO hR dX2_spell_45 ⟨fun _ => ⟨by omega, by rw [hv0, growL_app, growL_app]; rfl⟩, fun z => absurd z (by decide)⟩) | exact z_retT hO hR dX2_spell_45 ⟨fun _ => ⟨by rw [hv0]; omega, by rw [hv0]⟩, fun z => absurd z (by decide)⟩
    ·
      simp only [up_eq] at p42
      obtain ⟨k42, f42⟩ := p42.2 (by trivial)
      first | (rw [hn2] at k42; exact z_retF hO hR dX2_spell_45 ⟨fun z => absurd z (by decide), fun _ => ⟨by omega, (((FH.up3 (k := 3) (v := 0)).trans (FH.growL _)).gro 29 0).trans f42⟩⟩) | exact z_retF hO hR dX2_spell_45 ⟨fun z => absurd z (by decide), fun _ => ⟨by rw [hv0]; omega, (FH.up3 (k := 3) (v := 0)).trans f42⟩⟩
  ·
    have hv0 : numW v = (smallW (v / 1000) ++ [29]) ++ smallW (v % 1000) := by unfold numW; rw [if_pos (by omega)]
    have hl0 : (numW v).length = (smallW (v / 1000)).length + 1 + (smallW (v % 1000)).length := by rw [hv0, List.length_append, List.length_append, List.length_singleton]
    refine z_aload_n hO 0 dX2_spell_12 rfl ?_
    refine z_iload_n hO 1 dX2_spell_13 rfl ?_
    refine z_sipush hO dX2_spell_14 (by decide) ?_
    refine z_idiv hO dX2_spell_17 (by omega) (by omega) ?_
    refine z_cvB hO (t_X2_spellSmall ho (by omega) GI_0) cv_X2_59 ho.1 rfl rfl rfl (by decide) (Nat.le_of_ble_eq_true rfl) dX2_spell_18 (fun s18 p18 => ?_) (fun s18 p18 => ?_)
    ·
      simp only [up_eq] at p18
      obtain ⟨k18, rfl⟩ := p18.1 (by trivial)
      have hG := GI_growL (σ := (up σ o 3 0)) (o := o) GI_0 (smallW (v / 1000)) (by rw [up_eq]; exact k18)
      have hn1 : growL (up σ o 3 0) o (smallW (v / 1000)) o 3 = (smallW (v / 1000)).length := by rw [growL_n, up_eq]; omega
      refine z_if_eq hO 34 dX2_spell_21 (by decide) (by decide) (fun c21 => absurd c21 (by omega)) (fun c21 => ?_)
      refine z_aload_n hO 0 dX2_spell_24 rfl ?_
      refine z_bipush hO dX2_spell_25 (by decide) ?_
      refine z_iconst hO dX2_spell_27 ?_
      refine z_cvB hO (t_X2_grow ho (by omega) (by omega) hG.1 hG.2) cv_X2_62 ho.1 rfl rfl rfl (by decide) (Nat.le_of_ble_eq_true rfl) dX2_spell_28 (fun s28 p28 => ?_) (fun s28 p28 => ?_)
      ·
        simp only [hn1] at p28
        obtain ⟨k28, rfl⟩ := p28.1 (by trivial)
        have hG := GI_gro hG (by rw [hn1]; exact k28) 29 0
        have hn2 : groS (growL (up σ o 3 0) o (smallW (v / 1000))) o 29 0 o 3 = (smallW (v / 1000)).length + 1 := by rw [groS_n, hn1]
        refine z_if_ne hO 36 dX2_spell_31 (by decide) (by decide) (fun c31 => ?_) (fun c31 => absurd c31 (by omega))
        refine z_aload_n hO 0 dX2_spell_36 rfl ?_
        refine z_iload_n hO 1 dX2_spell_37 rfl ?_
        refine z_sipush hO dX2_spell_38 (by decide) ?_
        refine z_irem hO dX2_spell_41 (by omega) (by omega) ?_
        refine z_cvB hO (t_X2_spellSmall ho (by omega) (by first | exact hG | exact GI_0)) cv_X2_59 ho.1 rfl rfl rfl (by decide) (Nat.le_of_ble_eq_true rfl) dX2_spell_42 (fun s42 p42 => ?_) (fun s42 p42 => ?_)
        ·
          simp only [up_eq] at p42
          obtain ⟨k42, rfl⟩ := p42.1 (by trivial)
          first | (rw [hn2] at k42; exact z_retT hO hR dX2_spell_45 ⟨fun _ => ⟨by omega, by rw [hv0, growL_app, growL_app]; rfl⟩, fun z => absurd z (by decide)⟩) | exact z_retT hO hR dX2_spell_45 ⟨fun _ => ⟨by rw [hv0]; omega, by rw [hv0]⟩, fun z => absurd z (by decide)⟩
        ·
          simp only [up_eq] at p42
          obtain ⟨k42, f42⟩ := p42.2 (by trivial)
          first | (rw [hn2] at k42; exact z_retF hO hR dX2_spell_45 ⟨fun z => absurd z (by decide), fun _ => ⟨by omega, (((FH.up3 (k := 3) (v := 0)).trans (FH.growL _)).gro 29 0).trans f42⟩⟩) | exact z_retF hO hR dX2_spell_45 ⟨fun z => absurd z (by decide), fun _ => ⟨by rw [hv0]; omega, (FH.up3 (k := 3) (v := 0)).trans f42⟩⟩
      ·
        simp only [hn1] at p28
        obtain ⟨k28, rfl⟩ := p28.2 (by trivial)
        refine z_if_ne hO 36 dX2_spell_31 (by decide) (by decide) (fun c31 => absurd c31 (by omega)) (fun c31 => ?_)
        refine z_iconst hO dX2_spell_34 ?_
        exact z_retF hO hR dX2_spell_35 (⟨fun z => absurd z (by decide), fun _ => ⟨by omega, by first | exact (FH.up3 (k := 3) (v := 0)).trans (FH.growL _) | exact (FH.up3 (k := 3) (v := 0)).trans f18⟩⟩)
    ·
      simp only [up_eq] at p18
      obtain ⟨k18, f18⟩ := p18.2 (by trivial)
      refine z_if_eq hO 34 dX2_spell_21 (by decide) (by decide) (fun c21 => ?_) (fun c21 => absurd c21 (by omega))
      refine z_iconst hO dX2_spell_34 ?_
      exact z_retF hO hR dX2_spell_35 (⟨fun z => absurd z (by decide), fun _ => ⟨by omega, by first | exact (FH.up3 (k := 3) (v := 0)).trans (FH.growL _) | exact (FH.up3 (k := 3) (v := 0)).trans f18⟩⟩)
