/-! ===== texts, as the class reads them ===== -/
theorem sl_snoc {l : List (List (Int × Int))} {x : List (Int × Int)} (i : Nat) : (l ++ [x]).getD i [] = if i < l.length then l.getD i [] else if i = l.length then x else [] := by
  by_cases h : i < l.length
  · rw [if_pos h, List.getD_eq_getElem?_getD, List.getD_eq_getElem?_getD, List.getElem?_append_left h]
  · rw [if_neg h]
    by_cases e : i = l.length
    · rw [if_pos e, e, List.getD_eq_getElem?_getD, List.getElem?_append_right (Nat.le_refl _)]; simp
    · rw [if_neg e, List.getD_eq_getElem?_getD, List.getElem?_eq_none (by rw [List.length_append, List.length_singleton]; omega)]; rfl
theorem sl_snoc2 {l : List (Int × Int)} {x : Int × Int} (i : Nat) : (l ++ [x]).getD i (0, 0) = if i < l.length then l.getD i (0, 0) else if i = l.length then x else (0, 0) := by
  by_cases h : i < l.length
  · rw [if_pos h, List.getD_eq_getElem?_getD, List.getD_eq_getElem?_getD, List.getElem?_append_left h]
  · rw [if_neg h]
    by_cases e : i = l.length
    · rw [if_pos e, e, List.getD_eq_getElem?_getD, List.getElem?_append_right (Nat.le_refl _)]; simp
    · rw [if_neg e, List.getD_eq_getElem?_getD, List.getElem?_eq_none (by rw [List.length_append, List.length_singleton]; omega)]; rfl
theorem EqV_gro {τ : Sg} {l : List (List (Int × Int))} {w q : Int} (hE : EqV (cv τ 5) (slV l)) (hc : ∀ i : Int, 0 ≤ i → i < τ 5 3 → τ 6 i ≤ 4) : EqV (cv (groS τ 5 w q) 5) (slV (l ++ [[(w, q)]])) := by
  have hn : τ 5 3 = l.length := hE.1
  have g3 : groS τ 5 w q 5 3 = τ 5 3 + 1 := by unfold groS widS; simp (disch := omega) only [up_ne, up_eq, up_nk]
  have gc : ∀ i : Int, groS τ 5 w q (5 + 1) i = if i = τ 5 3 then 1 else τ 6 i := fun i => by
    unfold groS widS
    by_cases z : i = τ 5 3
    · rw [if_pos z, z, up_eq, up_ne (by omega), up_eq]; rfl
    · rw [if_neg z, up_nk z, up_ne (by omega), up_ne (by omega), up_ne (by omega), up_nk z]
  have gx : up (up τ (5 + 1) (τ 5 3) 0) 5 3 (τ 5 3 + 1) (5 + 1) (τ 5 3) = 0 := by rw [up_ne (by omega), up_eq]
  have gw : ∀ j : Int, groS τ 5 w q (5 + 2) j = if j = τ 5 3 * 4 then w else τ 7 j := fun j => by
    unfold groS widS
    rw [up_ne (by omega), up_ne (by omega), gx, Int.add_zero]
    by_cases z : j = τ 5 3 * 4
    · rw [if_pos z, z, up_eq]
    · rw [if_neg z, up_nk z, up_ne (by omega), up_ne (by omega)]
  have gq : ∀ j : Int, groS τ 5 w q (5 + 3) j = if j = τ 5 3 * 4 then q else τ 8 j := fun j => by
    unfold groS widS
    rw [up_ne (by omega), gx, Int.add_zero]
    by_cases z : j = τ 5 3 * 4
    · rw [if_pos z, z, up_eq]
    · rw [if_neg z, up_nk z, up_ne (by omega), up_ne (by omega), up_ne (by omega)]
  have hlen : (slV (l ++ [[(w, q)]])).1 = l.length + 1 := by show ((l ++ [[(w, q)]]).length : Int) = _; rw [List.length_append, List.length_singleton]; omega
  refine ⟨by rw [hlen]; show groS τ 5 w q 5 3 = _; omega, fun i i0 i1 => ?_⟩
  change i < groS τ 5 w q 5 3 at i1
  have ci : (cv (groS τ 5 w q) 5).2.1 i = if i = τ 5 3 then 1 else τ 6 i := gc i
  rw [ci]
  by_cases e : i = τ 5 3
  · rw [if_pos e]
    have ei : i.toNat = l.length := by omega
    have el : (l ++ [[(w, q)]]).getD i.toNat [] = [(w, q)] := by rw [sl_snoc, if_neg (by omega), if_pos ei]
    refine ⟨by show 1 = (((l ++ [[(w, q)]]).getD i.toNat []).length : Int); rw [el]; rfl, fun k k0 k1 => ?_⟩
    obtain rfl : k = 0 := by omega
    refine ⟨?_, ?_⟩
    · show groS τ 5 w q (5 + 2) (i * 4 + 0) = (((l ++ [[(w, q)]]).getD i.toNat []).getD 0 (0, 0)).1
      rw [el, gw, if_pos (by omega)]; rfl
    · show groS τ 5 w q (5 + 3) (i * 4 + 0) = (((l ++ [[(w, q)]]).getD i.toNat []).getD 0 (0, 0)).2
      rw [el, gq, if_pos (by omega)]; rfl
  · rw [if_neg e]
    have a := hE.2 i i0 (by show i < τ 5 3; omega)
    have el : (l ++ [[(w, q)]]).getD i.toNat [] = l.getD i.toNat [] := by rw [sl_snoc, if_pos (by omega)]
    have hc5 := hc i i0 (by omega)
    refine ⟨by show _ = (((l ++ [[(w, q)]]).getD i.toNat []).length : Int); rw [el]; exact a.1, fun k k0 k1 => ?_⟩
    have b := a.2 k k0 k1
    refine ⟨?_, ?_⟩
    · show groS τ 5 w q (5 + 2) (i * 4 + k) = (((l ++ [[(w, q)]]).getD i.toNat []).getD k.toNat (0, 0)).1
      rw [el, gw, if_neg (by omega)]; exact b.1
    · show groS τ 5 w q (5 + 3) (i * 4 + k) = (((l ++ [[(w, q)]]).getD i.toNat []).getD k.toNat (0, 0)).2
      rw [el, gq, if_neg (by omega)]; exact b.2
theorem EqV_wid {τ : Sg} {l : List (List (Int × Int))} {acc : List (Int × Int)} {w q : Int} (hE : EqV (cv τ 5) (slV (l ++ [acc]))) (hc : ∀ i : Int, 0 ≤ i → i < τ 5 3 → τ 6 i ≤ 4) (ha : acc.length ≤ 3) : EqV (cv (widS τ 5 l.length w q) 5) (slV (l ++ [acc ++ [(w, q)]])) := by
  have hn : τ 5 3 = l.length + 1 := by have h : τ 5 3 = ((l ++ [acc]).length : Int) := hE.1; rw [List.length_append, List.length_singleton] at h; omega
  have hl6 : τ (5 + 1) l.length = acc.length := by
    have h := (hE.2 l.length (by omega) (by show (l.length : Int) < τ 5 3; omega)).1
    have h2 : τ (5 + 1) l.length = (((l ++ [acc]).getD (l.length : Int).toNat []).length : Int) := h
    rw [h2, sl_snoc, if_neg (by omega), if_pos (by omega)]
  have hlen : (slV (l ++ [acc ++ [(w, q)]])).1 = l.length + 1 := by show ((l ++ [acc ++ [(w, q)]]).length : Int) = _; rw [List.length_append, List.length_singleton]; omega
  have g3 : widS τ 5 l.length w q 5 3 = τ 5 3 := by unfold widS; simp (disch := omega) only [up_ne]
  have gc : ∀ i : Int, widS τ 5 l.length w q (5 + 1) i = if i = l.length then (acc.length : Int) + 1 else τ 6 i := fun i => by
    unfold widS
    by_cases z : i = l.length
    · rw [if_pos z, z, up_eq, hl6]
    · rw [if_neg z, up_nk z, up_ne (by omega), up_ne (by omega)]
  have gw : ∀ j : Int, widS τ 5 l.length w q (5 + 2) j = if j = l.length * 4 + acc.length then w else τ 7 j := fun j => by
    unfold widS
    rw [up_ne (by omega), up_ne (by omega), hl6]
    by_cases z : j = l.length * 4 + acc.length
    · rw [if_pos z, z, up_eq]
    · rw [if_neg z, up_nk z]
  have gq : ∀ j : Int, widS τ 5 l.length w q (5 + 3) j = if j = l.length * 4 + acc.length then q else τ 8 j := fun j => by
    unfold widS
    rw [up_ne (by omega), hl6]
    by_cases z : j = l.length * 4 + acc.length
    · rw [if_pos z, z, up_eq]
    · rw [if_neg z, up_nk z, up_ne (by omega)]
  refine ⟨by rw [hlen]; show widS τ 5 l.length w q 5 3 = _; omega, fun i i0 i1 => ?_⟩
  change i < widS τ 5 l.length w q 5 3 at i1
  have ci : (cv (widS τ 5 l.length w q) 5).2.1 i = if i = l.length then (acc.length : Int) + 1 else τ 6 i := gc i
  rw [ci]
  have a := hE.2 i i0 (by show i < τ 5 3; omega)
  by_cases e : i = l.length
  · rw [if_pos e]
    have ei : i.toNat = l.length := by omega
    have el : (l ++ [acc ++ [(w, q)]]).getD i.toNat [] = acc ++ [(w, q)] := by rw [sl_snoc, if_neg (by omega), if_pos ei]
    have el0 : (l ++ [acc]).getD i.toNat [] = acc := by rw [sl_snoc, if_neg (by omega), if_pos ei]
    have a1 : τ (5 + 1) i = acc.length := by rw [e]; exact hl6
    refine ⟨by show _ = (((l ++ [acc ++ [(w, q)]]).getD i.toNat []).length : Int); rw [el, List.length_append, List.length_singleton]; omega, fun k k0 k1 => ?_⟩
    by_cases ek : k = acc.length
    · refine ⟨?_, ?_⟩
      · show widS τ 5 l.length w q (5 + 2) (i * 4 + k) = (((l ++ [acc ++ [(w, q)]]).getD i.toNat []).getD k.toNat (0, 0)).1
        rw [el, gw, if_pos (by omega), sl_snoc2, if_neg (by omega), if_pos (by omega)]
      · show widS τ 5 l.length w q (5 + 3) (i * 4 + k) = (((l ++ [acc ++ [(w, q)]]).getD i.toNat []).getD k.toNat (0, 0)).2
        rw [el, gq, if_pos (by omega), sl_snoc2, if_neg (by omega), if_pos (by omega)]
    · have b := a.2 k k0 (by show k < τ (5 + 1) i; omega)
      refine ⟨?_, ?_⟩
      · have b1 : τ (5 + 2) (i * 4 + k) = (((l ++ [acc]).getD i.toNat []).getD k.toNat (0, 0)).1 := b.1
        show widS τ 5 l.length w q (5 + 2) (i * 4 + k) = (((l ++ [acc ++ [(w, q)]]).getD i.toNat []).getD k.toNat (0, 0)).1
        rw [el, gw, if_neg (by omega), sl_snoc2, if_pos (by omega)]; rw [el0] at b1; exact b1
      · have b1 : τ (5 + 3) (i * 4 + k) = (((l ++ [acc]).getD i.toNat []).getD k.toNat (0, 0)).2 := b.2
        show widS τ 5 l.length w q (5 + 3) (i * 4 + k) = (((l ++ [acc ++ [(w, q)]]).getD i.toNat []).getD k.toNat (0, 0)).2
        rw [el, gq, if_neg (by omega), sl_snoc2, if_pos (by omega)]; rw [el0] at b1; exact b1
  · rw [if_neg e]
    have el : (l ++ [acc ++ [(w, q)]]).getD i.toNat [] = l.getD i.toNat [] := by rw [sl_snoc, if_pos (by omega)]
    have el0 : (l ++ [acc]).getD i.toNat [] = l.getD i.toNat [] := by rw [sl_snoc, if_pos (by omega)]
    have hc5 := hc i i0 (by omega)
    have a1 : τ (5 + 1) i = (((l ++ [acc]).getD i.toNat []).length : Int) := a.1
    refine ⟨by show _ = (((l ++ [acc ++ [(w, q)]]).getD i.toNat []).length : Int); rw [el]; rw [el0] at a1; exact a1, fun k k0 k1 => ?_⟩
    have b := a.2 k k0 k1
    refine ⟨?_, ?_⟩
    · have b1 : τ (5 + 2) (i * 4 + k) = (((l ++ [acc]).getD i.toNat []).getD k.toNat (0, 0)).1 := b.1
      show widS τ 5 l.length w q (5 + 2) (i * 4 + k) = (((l ++ [acc ++ [(w, q)]]).getD i.toNat []).getD k.toNat (0, 0)).1
      rw [el, gw, if_neg (by omega)]; rw [el0] at b1; exact b1
    · have b1 : τ (5 + 3) (i * 4 + k) = (((l ++ [acc]).getD i.toNat []).getD k.toNat (0, 0)).2 := b.2
      show widS τ 5 l.length w q (5 + 3) (i * 4 + k) = (((l ++ [acc ++ [(w, q)]]).getD i.toNat []).getD k.toNat (0, 0)).2
      rw [el, gq, if_neg (by omega)]; rw [el0] at b1; exact b1
