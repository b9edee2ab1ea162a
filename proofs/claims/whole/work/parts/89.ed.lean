set_option maxHeartbeats 4000000 in
set_option maxRecDepth 100000 in
theorem t_X8_words {g : G} {σ : Sg} (hT : TW (σ 82) (σ 81 1)) : MM g mX8_words [.ref (g.2.2.1 0)] σ (pI (fun r σ' => ((txF (σ 82) (σ 81 1)).1 ≠ -1 ∧ r = -20 - (txF (σ 82) (σ 81 1)).1 ∧ σ' 81 1 = 0 ∧ ∀ (c : Nat) (k : Int), (c < 5 ∨ 8 < c) → c ≠ 81 → σ' c k = σ c k) ∨ ((txF (σ 82) (σ 81 1)).1 = -1 ∧ r = ((txF (σ 82) (σ 81 1)).2.length : Int) ∧ ∃ τ, Fm fRe σ τ ∧ EqV (cv τ 5) (slV (txF (σ 82) (σ 81 1)).2) ∧ σ' = fgtS (up (tkSl (up τ 81 1 0) 1 5) 13 2 0)))) := by
  refine mm_of rfl (by decide) rfl rfl (Nat.le_of_ble_eq_true rfl) (fun x hO hR => ?_)
  refine z_aload_n hO 0 dX8_words_0 rfl ?_
  refine z_getR hO (81) fl_X8_35 rfl rfl dX8_words_1 ?_
  refine z_aload_n hO 0 dX8_words_4 rfl ?_
  refine z_getR hO (5) fl_X8_16 rfl rfl dX8_words_5 ?_
  refine z_cvI hO (t_X4_read hT) cv_X8_63 rfl rfl rfl rfl (by decide) (Nat.le_of_ble_eq_true rfl) dX8_words_8 (fun v8 s8 p8 => ?_)
  obtain ⟨hx, hF⟩ := p8
  have hvr : -1 ≤ v8 ∧ v8 ≤ 120 := by rcases hx with z | z <;> omega
  refine z_istore_n hO (L' := [(1, _), (0, _)]) dX8_words_11 (by decide) rfl ?_
  refine z_aload_n hO 1 dX8_words_12 rfl ?_
  refine z_getR hO (81) fl_X8_35 rfl rfl dX8_words_13 ?_
  refine z_iconst hO dX8_words_16 ?_
  refine z_putI hO 1 fp_X8_59 rfl rfl rfl (by omega) rfl rfl dX8_words_17 ?_
  refine z_iload_n hO 0 dX8_words_20 rfl ?_
  refine z_if_lt hO 29 dX8_words_21 (by decide) (by omega) (fun c21 => ?_) (fun c21 => ?_)
  ·
    obtain ⟨x1, x2, x3⟩ : (txF (σ 82) (σ 81 1)).1 = -1 ∧ v8 = -1 ∧ EqV (cv s8 5) (slV (txF (σ 82) (σ 81 1)).2) := by rcases hx with z | z; omega; exact z
    refine z_aload_n hO 1 dX8_words_29 rfl ?_
    refine z_cvI hO (t_X8_tellAnew) cv_X8_67 rfl rfl rfl rfl (by decide) (Nat.le_of_ble_eq_true rfl) dX8_words_30 (fun v30 s30 p30 => ?_)
    obtain ⟨y1, y2⟩ := p30
    subst y2
    exact z_retI hO hR dX8_words_33 (Or.inr ⟨x1, by rw [y1, up_ne (by decide)]; exact x3.1, s8, hF, x3, rfl⟩)
  ·
    obtain ⟨x1, x2, x3⟩ : (txF (σ 82) (σ 81 1)).1 ≠ -1 ∧ v8 = (txF (σ 82) (σ 81 1)).1 ∧ 0 ≤ v8 := by rcases hx with z | z; exact ⟨z.1, z.2.1, z.2.2.1⟩; omega
    refine z_bipush hO dX8_words_24 (by decide) ?_
    refine z_iload_n hO 0 dX8_words_26 rfl ?_
    refine z_isub hO dX8_words_27 ?_
    exact z_retI hO hR dX8_words_28 (Or.inl ⟨x1, by omega, up_eq, fun c k hc h81 => by rw [up_ne h81]; exact hF c k (fRe_o (by omega))⟩)
