def GI (σ : Sg) (o : Nat) : Prop := (0 ≤ σ o 3 ∧ σ o 3 ≤ 8) ∧ ∀ i, 0 ≤ i → i < σ o 3 → 0 ≤ σ (o + 1) i ∧ σ (o + 1) i ≤ 4
theorem groS_n (σ : Sg) (o : Nat) (w q : Int) : groS σ o w q o 3 = σ o 3 + 1 := by
  unfold groS widS; rw [up_ne (by omega), up_ne (by omega), up_ne (by omega), up_eq]
theorem groS_c (σ : Sg) (o : Nat) (w q : Int) (i : Int) : groS σ o w q (o + 1) i = if i = σ o 3 then 1 else σ (o + 1) i := by
  unfold groS widS
  split
  · rename_i e; subst e; rw [up_eq, up_ne (by omega), up_eq]; rfl
  · rename_i e; rw [up_nk e, up_ne (by omega), up_ne (by omega), up_ne (by omega), up_nk e]
theorem GI_gro {σ : Sg} {o : Nat} (h : GI σ o) (h8 : σ o 3 < 8) (w q : Int) : GI (groS σ o w q) o := by
  refine ⟨by rw [groS_n]; have := h.1; omega, fun i i0 i1 => ?_⟩
  rw [groS_n] at i1
  rw [groS_c]; split
  · omega
  · exact h.2 i i0 (by omega)
def growL (σ : Sg) (o : Nat) : List Int → Sg
  | [] => σ
  | w :: l => growL (groS σ o w 0) o l
theorem growL_app (σ : Sg) (o : Nat) (a b : List Int) : growL σ o (a ++ b) = growL (growL σ o a) o b := by
  induction a generalizing σ with
  | nil => rfl
  | cons w a ih => exact ih _
theorem growL_n (σ : Sg) (o : Nat) (l : List Int) : growL σ o l o 3 = σ o 3 + l.length := by
  induction l generalizing σ with
  | nil => simp [growL]
  | cons w l ih => unfold growL; rw [ih, groS_n]; simp only [List.length_cons]; omega
theorem GI_growL {σ : Sg} {o : Nat} (h : GI σ o) (l : List Int) (hl : σ o 3 + l.length ≤ 8) : GI (growL σ o l) o := by
  induction l generalizing σ with
  | nil => exact h
  | cons w l ih =>
    simp only [List.length_cons] at hl
    exact ih (GI_gro h (by omega) w 0) (by rw [groS_n]; omega)
theorem groS_ne {σ : Sg} {o c : Nat} {w q k : Int} (h : c < o ∨ o + 4 ≤ c) : groS σ o w q c k = σ c k := by
  unfold groS widS; rw [up_ne (by omega), up_ne (by omega), up_ne (by omega), up_ne (by omega), up_ne (by omega)]
theorem growL_ne {σ : Sg} {o c : Nat} {l : List Int} {k : Int} (h : c < o ∨ o + 4 ≤ c) : growL σ o l c k = σ c k := by
  induction l generalizing σ with
  | nil => rfl
  | cons w l ih => unfold growL; rw [ih, groS_ne h]
/-- nothing outside a Heard has changed -/
def FH (o : Nat) (σ τ : Sg) : Prop := ∀ (c : Nat) (k : Int), (c < o ∨ o + 4 ≤ c) → τ c k = σ c k
theorem FH.rf {o : Nat} {σ : Sg} : FH o σ σ := fun _ _ _ => rfl
theorem FH.gro {o : Nat} {σ τ : Sg} (h : FH o σ τ) (w q : Int) : FH o σ (groS τ o w q) := fun c k z => (groS_ne z).trans (h c k z)

theorem smallW_len3 (v : Int) : (smallW v).length = (if 100 ≤ v then 2 else 0) + ((if 19 < v % 100 then 1 else 0) + (if 0 < (if 19 < v % 100 then v % 100 % 10 else v % 100) then 1 else 0)) := by
  unfold smallW; rw [List.length_append, List.length_append]
  congr 1
  · split <;> rfl
  · congr 1
    · split <;> rfl
    · (repeat' split) <;> rfl

set_option maxHeartbeats 4000000 in
set_option maxRecDepth 100000 in
theorem t_X2_spellSmall {g : G} {σ : Sg} {o : Nat} (ho : Hd o) {v : Int} (hv : 0 ≤ v ∧ v ≤ 999) (hG : GI σ o) : MM g mX2_spellSmall [.ref (g.2.2.1 o), vI v] σ (pB (fun b σ' => (b = true → σ o 3 + (smallW v).length ≤ 8 ∧ σ' = growL σ o (smallW v)) ∧ (b = false → 8 < σ o 3 + (smallW v).length ∧ FH o σ σ'))) := by
  refine mm_of rfl (by decide) rfl rfl (Nat.le_of_ble_eq_true rfl) (fun x hO hR => ?_)
  have hn := hG.1
  have hl := smallW_len3 v
  refine z_iload_n hO 1 dX2_spellSmall_0 rfl ?_
  refine z_bipush hO dX2_spellSmall_1 (by decide) ?_
  refine z_icmp_lt hO 30 dX2_spellSmall_3 (by decide) (by omega) (by decide) (fun c3 => ?_) (fun c3 => ?_)
  ·
    have hA : (100 ≤ v) = False := eq_false (by omega)
    refine z_iload_n hO 1 dX2_spellSmall_30 rfl ?_
    refine z_bipush hO dX2_spellSmall_31 (by decide) ?_
    refine z_irem hO dX2_spellSmall_33 (by omega) (by omega) ?_
    refine z_istore_n hO (L' := [(2, _), (0, _), (1, _)]) dX2_spellSmall_34 (by decide) rfl ?_
    refine z_iload_n hO 0 dX2_spellSmall_35 rfl ?_
    refine z_bipush hO dX2_spellSmall_36 (by decide) ?_
    refine z_icmp_lt hO 78 dX2_spellSmall_38 (by decide) (by omega) (by decide) (fun c38 => ?_) (fun c38 => ?_)
    ·
      have hB : (19 < v % 100) = False := eq_false (by omega)
      refine z_iload_n hO 0 dX2_spellSmall_78 rfl ?_
      refine z_if_eq hO 91 dX2_spellSmall_79 (by decide) (by omega) (fun c79 => ?_) (fun c79 => ?_)
      ·
        have hC : (0 < v % 100) = False := eq_false (by omega)
        refine z_iconst hO dX2_spellSmall_91 ?_
        refine z_goto hO 96 dX2_spellSmall_92 (by decide) ?_
        exact z_retT hO hR dX2_spellSmall_96 (⟨fun _ => by simp only [smallW, hA, hB, hC, if_true, if_false, List.cons_append, List.nil_append, List.append_nil, List.length_cons, List.length_nil]; exact ⟨by omega, rfl⟩, fun z => absurd z (by decide)⟩)
      ·
        have hC : (0 < v % 100) = True := eq_true (by omega)
        refine z_aload_n hO 1 dX2_spellSmall_82 rfl ?_
        refine z_iload_n hO 0 dX2_spellSmall_83 rfl ?_
        refine z_iconst hO dX2_spellSmall_84 ?_
        refine z_cvB hO (t_X2_grow ho (by omega) (by omega) hG.1 hG.2) cv_X2_62 ho.1 rfl rfl rfl (by decide) (Nat.le_of_ble_eq_true rfl) dX2_spellSmall_85 (fun s85 p85 => ?_) (fun s85 p85 => ?_)
        ·
          obtain ⟨k85, rfl⟩ := p85.1 rfl
          have hG := GI_gro hG k85 (v % 100) 0
          try simp only [groS_n] at k85
          refine z_if_eq hO 95 dX2_spellSmall_88 (by decide) (by decide) (fun c88 => absurd c88 (by omega)) (fun c88 => ?_)
          refine z_iconst hO dX2_spellSmall_91 ?_
          refine z_goto hO 96 dX2_spellSmall_92 (by decide) ?_
          exact z_retT hO hR dX2_spellSmall_96 (⟨fun _ => by simp only [smallW, hA, hB, hC, if_true, if_false, List.cons_append, List.nil_append, List.append_nil, List.length_cons, List.length_nil]; exact ⟨by omega, rfl⟩, fun z => absurd z (by decide)⟩)
        ·
          obtain ⟨k85, e85⟩ := p85.2 rfl
          try simp only [groS_n] at k85
          rw [e85]
          refine z_if_eq hO 95 dX2_spellSmall_88 (by decide) (by decide) (fun c88 => ?_) (fun c88 => absurd c88 (by omega))
          refine z_iconst hO dX2_spellSmall_95 ?_
          exact z_retF hO hR dX2_spellSmall_96 (⟨fun z => absurd z (by decide), fun _ => ⟨by (repeat' split at hl) <;> omega, by first | exact FH.rf | exact FH.rf.gro _ _ | exact (FH.rf.gro _ _).gro _ _ | exact ((FH.rf.gro _ _).gro _ _).gro _ _⟩⟩)
    ·
      have hB : (19 < v % 100) = True := eq_true (by omega)
      refine z_aload_n hO 1 dX2_spellSmall_41 rfl ?_
      refine z_iload_n hO 0 dX2_spellSmall_42 rfl ?_
      refine z_csE hO (t_X4_tensWord (by omega)) cs_X2_66 rfl rfl (by decide) (Nat.le_of_ble_eq_true rfl) dX2_spellSmall_43 ?_
      refine z_iconst hO dX2_spellSmall_46 ?_
      refine z_cvB hO (t_X2_grow ho (by omega) (by omega) hG.1 hG.2) cv_X2_62 ho.1 rfl rfl rfl (by decide) (Nat.le_of_ble_eq_true rfl) dX2_spellSmall_47 (fun s47 p47 => ?_) (fun s47 p47 => ?_)
      ·
        obtain ⟨k47, rfl⟩ := p47.1 rfl
        have hG := GI_gro hG k47 (18 + v % 100 / 10) 0
        try simp only [groS_n] at k47
        refine z_if_eq hO 76 dX2_spellSmall_50 (by decide) (by decide) (fun c50 => absurd c50 (by omega)) (fun c50 => ?_)
        refine z_iload_n hO 0 dX2_spellSmall_53 rfl ?_
        refine z_bipush hO dX2_spellSmall_54 (by decide) ?_
        refine z_irem hO dX2_spellSmall_56 (by omega) (by omega) ?_
        refine z_if_eq hO 72 dX2_spellSmall_57 (by decide) (by omega) (fun c57 => ?_) (fun c57 => ?_)
        ·
          have hC : (0 < v % 100 % 10) = False := eq_false (by omega)
          refine z_iconst hO dX2_spellSmall_72 ?_
          refine z_goto hO 77 dX2_spellSmall_73 (by decide) ?_
          exact z_retT hO hR dX2_spellSmall_77 (⟨fun _ => by simp only [smallW, hA, hB, hC, if_true, if_false, List.cons_append, List.nil_append, List.append_nil, List.length_cons, List.length_nil]; exact ⟨by omega, rfl⟩, fun z => absurd z (by decide)⟩)
        ·
          have hC : (0 < v % 100 % 10) = True := eq_true (by omega)
          refine z_aload_n hO 1 dX2_spellSmall_60 rfl ?_
          refine z_iload_n hO 0 dX2_spellSmall_61 rfl ?_
          refine z_bipush hO dX2_spellSmall_62 (by decide) ?_
          refine z_irem hO dX2_spellSmall_64 (by omega) (by omega) ?_
          refine z_iconst hO dX2_spellSmall_65 ?_
          refine z_cvB hO (t_X2_grow ho (by omega) (by omega) hG.1 hG.2) cv_X2_62 ho.1 rfl rfl rfl (by decide) (Nat.le_of_ble_eq_true rfl) dX2_spellSmall_66 (fun s66 p66 => ?_) (fun s66 p66 => ?_)
          ·
            obtain ⟨k66, rfl⟩ := p66.1 rfl
            have hG := GI_gro hG k66 (v % 100 % 10) 0
            try simp only [groS_n] at k66
            refine z_if_eq hO 76 dX2_spellSmall_69 (by decide) (by decide) (fun c69 => absurd c69 (by omega)) (fun c69 => ?_)
            refine z_iconst hO dX2_spellSmall_72 ?_
            refine z_goto hO 77 dX2_spellSmall_73 (by decide) ?_
            exact z_retT hO hR dX2_spellSmall_77 (⟨fun _ => by simp only [smallW, hA, hB, hC, if_true, if_false, List.cons_append, List.nil_append, List.append_nil, List.length_cons, List.length_nil]; exact ⟨by omega, rfl⟩, fun z => absurd z (by decide)⟩)
          ·
            obtain ⟨k66, e66⟩ := p66.2 rfl
            try simp only [groS_n] at k66
            rw [e66]
            refine z_if_eq hO 76 dX2_spellSmall_69 (by decide) (by decide) (fun c69 => ?_) (fun c69 => absurd c69 (by omega))
            refine z_iconst hO dX2_spellSmall_76 ?_
            exact z_retF hO hR dX2_spellSmall_77 (⟨fun z => absurd z (by decide), fun _ => ⟨by (repeat' split at hl) <;> omega, by first | exact FH.rf | exact FH.rf.gro _ _ | exact (FH.rf.gro _ _).gro _ _ | exact ((FH.rf.gro _ _).gro _ _).gro _ _⟩⟩)
      ·
        obtain ⟨k47, e47⟩ := p47.2 rfl
        try simp only [groS_n] at k47
        rw [e47]
        refine z_if_eq hO 76 dX2_spellSmall_50 (by decide) (by decide) (fun c50 => ?_) (fun c50 => absurd c50 (by omega))
        refine z_iconst hO dX2_spellSmall_76 ?_
        exact z_retF hO hR dX2_spellSmall_77 (⟨fun z => absurd z (by decide), fun _ => ⟨by (repeat' split at hl) <;> omega, by first | exact FH.rf | exact FH.rf.gro _ _ | exact (FH.rf.gro _ _).gro _ _ | exact ((FH.rf.gro _ _).gro _ _).gro _ _⟩⟩)
  ·
    have hA : (100 ≤ v) = True := eq_true (by omega)
    refine z_aload_n hO 0 dX2_spellSmall_6 rfl ?_
    refine z_iload_n hO 1 dX2_spellSmall_7 rfl ?_
    refine z_bipush hO dX2_spellSmall_8 (by decide) ?_
    refine z_idiv hO dX2_spellSmall_10 (by omega) (by omega) ?_
    refine z_iconst hO dX2_spellSmall_11 ?_
    refine z_cvB hO (t_X2_grow ho (by omega) (by omega) hG.1 hG.2) cv_X2_62 ho.1 rfl rfl rfl (by decide) (Nat.le_of_ble_eq_true rfl) dX2_spellSmall_12 (fun s12 p12 => ?_) (fun s12 p12 => ?_)
    ·
      obtain ⟨k12, rfl⟩ := p12.1 rfl
      have hG := GI_gro hG k12 (v / 100) 0
      try simp only [groS_n] at k12
      refine z_if_eq hO 28 dX2_spellSmall_15 (by decide) (by decide) (fun c15 => absurd c15 (by omega)) (fun c15 => ?_)
      refine z_aload_n hO 0 dX2_spellSmall_18 rfl ?_
      refine z_bipush hO dX2_spellSmall_19 (by decide) ?_
      refine z_iconst hO dX2_spellSmall_21 ?_
      refine z_cvB hO (t_X2_grow ho (by omega) (by omega) hG.1 hG.2) cv_X2_62 ho.1 rfl rfl rfl (by decide) (Nat.le_of_ble_eq_true rfl) dX2_spellSmall_22 (fun s22 p22 => ?_) (fun s22 p22 => ?_)
      ·
        obtain ⟨k22, rfl⟩ := p22.1 rfl
        have hG := GI_gro hG k22 28 0
        try simp only [groS_n] at k22
        refine z_if_ne hO 30 dX2_spellSmall_25 (by decide) (by decide) (fun c25 => ?_) (fun c25 => absurd c25 (by omega))
        refine z_iload_n hO 1 dX2_spellSmall_30 rfl ?_
        refine z_bipush hO dX2_spellSmall_31 (by decide) ?_
        refine z_irem hO dX2_spellSmall_33 (by omega) (by omega) ?_
        refine z_istore_n hO (L' := [(2, _), (0, _), (1, _)]) dX2_spellSmall_34 (by decide) rfl ?_
        refine z_iload_n hO 0 dX2_spellSmall_35 rfl ?_
        refine z_bipush hO dX2_spellSmall_36 (by decide) ?_
        refine z_icmp_lt hO 78 dX2_spellSmall_38 (by decide) (by omega) (by decide) (fun c38 => ?_) (fun c38 => ?_)
        ·
          have hB : (19 < v % 100) = False := eq_false (by omega)
          refine z_iload_n hO 0 dX2_spellSmall_78 rfl ?_
          refine z_if_eq hO 91 dX2_spellSmall_79 (by decide) (by omega) (fun c79 => ?_) (fun c79 => ?_)
          ·
            have hC : (0 < v % 100) = False := eq_false (by omega)
            refine z_iconst hO dX2_spellSmall_91 ?_
            refine z_goto hO 96 dX2_spellSmall_92 (by decide) ?_
            exact z_retT hO hR dX2_spellSmall_96 (⟨fun _ => by simp only [smallW, hA, hB, hC, if_true, if_false, List.cons_append, List.nil_append, List.append_nil, List.length_cons, List.length_nil]; exact ⟨by omega, rfl⟩, fun z => absurd z (by decide)⟩)
          ·
            have hC : (0 < v % 100) = True := eq_true (by omega)
            refine z_aload_n hO 1 dX2_spellSmall_82 rfl ?_
            refine z_iload_n hO 0 dX2_spellSmall_83 rfl ?_
            refine z_iconst hO dX2_spellSmall_84 ?_
            refine z_cvB hO (t_X2_grow ho (by omega) (by omega) hG.1 hG.2) cv_X2_62 ho.1 rfl rfl rfl (by decide) (Nat.le_of_ble_eq_true rfl) dX2_spellSmall_85 (fun s85 p85 => ?_) (fun s85 p85 => ?_)
            ·
              obtain ⟨k85, rfl⟩ := p85.1 rfl
              have hG := GI_gro hG k85 (v % 100) 0
              try simp only [groS_n] at k85
              refine z_if_eq hO 95 dX2_spellSmall_88 (by decide) (by decide) (fun c88 => absurd c88 (by omega)) (fun c88 => ?_)
              refine z_iconst hO dX2_spellSmall_91 ?_
              refine z_goto hO 96 dX2_spellSmall_92 (by decide) ?_
              exact z_retT hO hR dX2_spellSmall_96 (⟨fun _ => by simp only [smallW, hA, hB, hC, if_true, if_false, List.cons_append, List.nil_append, List.append_nil, List.length_cons, List.length_nil]; exact ⟨by omega, rfl⟩, fun z => absurd z (by decide)⟩)
            ·
              obtain ⟨k85, e85⟩ := p85.2 rfl
              try simp only [groS_n] at k85
              rw [e85]
              refine z_if_eq hO 95 dX2_spellSmall_88 (by decide) (by decide) (fun c88 => ?_) (fun c88 => absurd c88 (by omega))
              refine z_iconst hO dX2_spellSmall_95 ?_
              exact z_retF hO hR dX2_spellSmall_96 (⟨fun z => absurd z (by decide), fun _ => ⟨by (repeat' split at hl) <;> omega, by first | exact FH.rf | exact FH.rf.gro _ _ | exact (FH.rf.gro _ _).gro _ _ | exact ((FH.rf.gro _ _).gro _ _).gro _ _⟩⟩)
        ·
          have hB : (19 < v % 100) = True := eq_true (by omega)
          refine z_aload_n hO 1 dX2_spellSmall_41 rfl ?_
          refine z_iload_n hO 0 dX2_spellSmall_42 rfl ?_
          refine z_csE hO (t_X4_tensWord (by omega)) cs_X2_66 rfl rfl (by decide) (Nat.le_of_ble_eq_true rfl) dX2_spellSmall_43 ?_
          try simp (disch := omega) only [fl_row_ne, fl_ne, up_row_ne, up_ne, up_eq, up_nk, up_up, up_self, ne_eq, Nat.reduceEqDiff, Int.reduceEq, reduceCtorEq, not_false_eq_true, not_true_eq_false]
          refine z_iconst hO dX2_spellSmall_46 ?_
          refine z_cvB hO (t_X2_grow ho (by omega) (by omega) hG.1 hG.2) cv_X2_62 ho.1 rfl rfl rfl (by decide) (Nat.le_of_ble_eq_true rfl) dX2_spellSmall_47 (fun s47 p47 => ?_) (fun s47 p47 => ?_)
          ·
            obtain ⟨k47, rfl⟩ := p47.1 rfl
            have hG := GI_gro hG k47 (18 + v % 100 / 10) 0
            try simp only [groS_n] at k47
            refine z_if_eq hO 76 dX2_spellSmall_50 (by decide) (by decide) (fun c50 => absurd c50 (by omega)) (fun c50 => ?_)
            refine z_iload_n hO 0 dX2_spellSmall_53 rfl ?_
            refine z_bipush hO dX2_spellSmall_54 (by decide) ?_
            refine z_irem hO dX2_spellSmall_56 (by omega) (by omega) ?_
            refine z_if_eq hO 72 dX2_spellSmall_57 (by decide) (by omega) (fun c57 => ?_) (fun c57 => ?_)
            ·
              have hC : (0 < v % 100 % 10) = False := eq_false (by omega)
              refine z_iconst hO dX2_spellSmall_72 ?_
              refine z_goto hO 77 dX2_spellSmall_73 (by decide) ?_
              exact z_retT hO hR dX2_spellSmall_77 (⟨fun _ => by simp only [smallW, hA, hB, hC, if_true, if_false, List.cons_append, List.nil_append, List.append_nil, List.length_cons, List.length_nil]; exact ⟨by omega, rfl⟩, fun z => absurd z (by decide)⟩)
            ·
              have hC : (0 < v % 100 % 10) = True := eq_true (by omega)
              refine z_aload_n hO 1 dX2_spellSmall_60 rfl ?_
              refine z_iload_n hO 0 dX2_spellSmall_61 rfl ?_
              refine z_bipush hO dX2_spellSmall_62 (by decide) ?_
              refine z_irem hO dX2_spellSmall_64 (by omega) (by omega) ?_
              refine z_iconst hO dX2_spellSmall_65 ?_
              refine z_cvB hO (t_X2_grow ho (by omega) (by omega) hG.1 hG.2) cv_X2_62 ho.1 rfl rfl rfl (by decide) (Nat.le_of_ble_eq_true rfl) dX2_spellSmall_66 (fun s66 p66 => ?_) (fun s66 p66 => ?_)
              ·
                obtain ⟨k66, rfl⟩ := p66.1 rfl
                have hG := GI_gro hG k66 (v % 100 % 10) 0
                try simp only [groS_n] at k66
                refine z_if_eq hO 76 dX2_spellSmall_69 (by decide) (by decide) (fun c69 => absurd c69 (by omega)) (fun c69 => ?_)
                refine z_iconst hO dX2_spellSmall_72 ?_
                refine z_goto hO 77 dX2_spellSmall_73 (by decide) ?_
                exact z_retT hO hR dX2_spellSmall_77 (⟨fun _ => by simp only [smallW, hA, hB, hC, if_true, if_false, List.cons_append, List.nil_append, List.append_nil, List.length_cons, List.length_nil]; exact ⟨by omega, rfl⟩, fun z => absurd z (by decide)⟩)
              ·
                obtain ⟨k66, e66⟩ := p66.2 rfl
                try simp only [groS_n] at k66
                rw [e66]
                refine z_if_eq hO 76 dX2_spellSmall_69 (by decide) (by decide) (fun c69 => ?_) (fun c69 => absurd c69 (by omega))
                refine z_iconst hO dX2_spellSmall_76 ?_
                exact z_retF hO hR dX2_spellSmall_77 (⟨fun z => absurd z (by decide), fun _ => ⟨by (repeat' split at hl) <;> omega, by first | exact FH.rf | exact FH.rf.gro _ _ | exact (FH.rf.gro _ _).gro _ _ | exact ((FH.rf.gro _ _).gro _ _).gro _ _⟩⟩)
          ·
            obtain ⟨k47, e47⟩ := p47.2 rfl
            try simp only [groS_n] at k47
            rw [e47]
            refine z_if_eq hO 76 dX2_spellSmall_50 (by decide) (by decide) (fun c50 => ?_) (fun c50 => absurd c50 (by omega))
            refine z_iconst hO dX2_spellSmall_76 ?_
            exact z_retF hO hR dX2_spellSmall_77 (⟨fun z => absurd z (by decide), fun _ => ⟨by (repeat' split at hl) <;> omega, by first | exact FH.rf | exact FH.rf.gro _ _ | exact (FH.rf.gro _ _).gro _ _ | exact ((FH.rf.gro _ _).gro _ _).gro _ _⟩⟩)
      ·
        obtain ⟨k22, e22⟩ := p22.2 rfl
        try simp only [groS_n] at k22
        rw [e22]
        refine z_if_ne hO 30 dX2_spellSmall_25 (by decide) (by decide) (fun c25 => absurd c25 (by omega)) (fun c25 => ?_)
        refine z_iconst hO dX2_spellSmall_28 ?_
        exact z_retF hO hR dX2_spellSmall_29 (⟨fun z => absurd z (by decide), fun _ => ⟨by (repeat' split at hl) <;> omega, by first | exact FH.rf | exact FH.rf.gro _ _ | exact (FH.rf.gro _ _).gro _ _ | exact ((FH.rf.gro _ _).gro _ _).gro _ _⟩⟩)
    ·
      obtain ⟨k12, e12⟩ := p12.2 rfl
      try simp only [groS_n] at k12
      rw [e12]
      refine z_if_eq hO 28 dX2_spellSmall_15 (by decide) (by decide) (fun c15 => ?_) (fun c15 => absurd c15 (by omega))
      refine z_iconst hO dX2_spellSmall_28 ?_
      exact z_retF hO hR dX2_spellSmall_29 (⟨fun z => absurd z (by decide), fun _ => ⟨by (repeat' split at hl) <;> omega, by first | exact FH.rf | exact FH.rf.gro _ _ | exact (FH.rf.gro _ _).gro _ _ | exact ((FH.rf.gro _ _).gro _ _).gro _ _⟩⟩)
