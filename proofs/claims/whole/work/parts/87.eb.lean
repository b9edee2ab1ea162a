def rcQ (σ : Sg) (bz r : Int) (σ' : Sg) : Prop := (((wrF (σ 82) (σ 81 1) (sk (σ 82) (σ 81 1) (σ 81 2))).1 = -4 ∨ (bz = 0 ∧ ∃ k, 0 ≤ k ∧ k < σ 6 (σ 5 3 - 1) ∧ σ 7 ((σ 5 3 - 1) * 4 + k) = (wrF (σ 82) (σ 81 1) (sk (σ 82) (σ 81 1) (σ 81 2))).1)) ∧ r = (sk (σ 82) (σ 81 1) (σ 81 2)) ∧ Fm f81 σ σ') ∨ (¬ ((wrF (σ 82) (σ 81 1) (sk (σ 82) (σ 81 1) (σ 81 2))).1 = -4 ∨ (bz = 0 ∧ ∃ k, 0 ≤ k ∧ k < σ 6 (σ 5 3 - 1) ∧ σ 7 ((σ 5 3 - 1) * 4 + k) = (wrF (σ 82) (σ 81 1) (sk (σ 82) (σ 81 1) (σ 81 2))).1)) ∧ (cpF (σ 82) (σ 81 1) (wrF (σ 82) (σ 81 1) (sk (σ 82) (σ 81 1) (σ 81 2))).2).1 = -1 ∧ r = (cpF (σ 82) (σ 81 1) (wrF (σ 82) (σ 81 1) (sk (σ 82) (σ 81 1) (σ 81 2))).2).2 ∧ Fm f81 σ σ') ∨ (¬ ((wrF (σ 82) (σ 81 1) (sk (σ 82) (σ 81 1) (σ 81 2))).1 = -4 ∨ (bz = 0 ∧ ∃ k, 0 ≤ k ∧ k < σ 6 (σ 5 3 - 1) ∧ σ 7 ((σ 5 3 - 1) * 4 + k) = (wrF (σ 82) (σ 81 1) (sk (σ 82) (σ 81 1) (σ 81 2))).1)) ∧ (cpF (σ 82) (σ 81 1) (wrF (σ 82) (σ 81 1) (sk (σ 82) (σ 81 1) (σ 81 2))).2).1 ≠ -1 ∧ r = -1 ∧ σ' = (if bz = 0 then widS (up σ 81 2 (cpF (σ 82) (σ 81 1) (wrF (σ 82) (σ 81 1) (sk (σ 82) (σ 81 1) (σ 81 2))).2).2) 5 (σ 5 3 - 1) (wrF (σ 82) (σ 81 1) (sk (σ 82) (σ 81 1) (σ 81 2))).1 (cpF (σ 82) (σ 81 1) (wrF (σ 82) (σ 81 1) (sk (σ 82) (σ 81 1) (σ 81 2))).2).1 else groS (up σ 81 2 (cpF (σ 82) (σ 81 1) (wrF (σ 82) (σ 81 1) (sk (σ 82) (σ 81 1) (σ 81 2))).2).2) 5 (wrF (σ 82) (σ 81 1) (sk (σ 82) (σ 81 1) (σ 81 2))).1 (cpF (σ 82) (σ 81 1) (wrF (σ 82) (σ 81 1) (sk (σ 82) (σ 81 1) (σ 81 2))).2).1))

def fRe : Nat → Int → Bool := fun c k => (c == 81 && k == 2) || decide (5 ≤ c ∧ c ≤ 8)
theorem f81_Re : ∀ c k, fRe c k = false → f81 c k = false := by
  intro c k h; simp only [fRe, f81, Bool.or_eq_false_iff] at h ⊢; exact h.1
theorem fRe_o {c : Nat} {k : Int} (h : c < 5 ∨ (8 < c ∧ c ≠ 81) ∨ (8 < c ∧ k ≠ 2)) : fRe c k = false := by unfold fRe; simp; omega
def ctR (t : Int → Int) (n : Int) (k : Nat) (l0 : List (List (Int × Int))) (R : Bool × List (Int × Int) × Int) : Bool × List (List (Int × Int)) × Int := if R.1 = false then (false, l0, R.2.2) else if k = 0 then (true, l0 ++ [R.2.1], R.2.2) else if chr t n (sk t n R.2.2) = 59 then wdF t n k (l0 ++ [R.2.1]) (sk t n R.2.2 + 1) else (true, l0 ++ [R.2.1], sk t n R.2.2)
theorem wdF_ct (t : Int → Int) (n : Int) (k : Nat) (l0 : List (List (Int × Int))) (p : Int) : wdF t n (k + 1) l0 p = ctR t n k l0 (rdF t n 4 [] p) := by rw [wdF]; rfl
theorem ct_f {t : Int → Int} {n y : Int} {k : Nat} {l0 : List (List (Int × Int))} {a : List (Int × Int)} : ctR t n k l0 (false, a, y) = (false, l0, y) := by unfold ctR; rw [if_pos rfl]
theorem ct_e {t : Int → Int} {n y : Int} {k : Nat} {l0 : List (List (Int × Int))} {a : List (Int × Int)} (h : k = 0 ∨ chr t n (sk t n y) ≠ 59) : ∃ z, ctR t n k l0 (true, a, y) = (true, l0 ++ [a], z) ∧ sk t n z = sk t n y := by
  unfold ctR
  split
  · rename_i z; cases z
  · split
    · exact ⟨y, rfl, rfl⟩
    · split
      · rename_i q z; exfalso; rcases h with h | h
        · exact q h
        · exact h z
      · exact ⟨_, rfl, sk_sk ..⟩
theorem ct_s {t : Int → Int} {n y : Int} {k : Nat} {l0 : List (List (Int × Int))} {a : List (Int × Int)} (h : chr t n (sk t n y) = 59) : ctR t n (k + 1) l0 (true, a, y) = ctR t n k (l0 ++ [a]) (rdF t n 4 [] (sk t n y + 1)) := by
  have e : ctR t n (k + 1) l0 (true, a, y) = wdF t n (k + 1) (l0 ++ [a]) (sk t n y + 1) := by
    unfold ctR
    split
    · rename_i z; cases z
    · split
      · rename_i z; omega
      · first | rfl | (split <;> first | rfl | (rename_i z; exact absurd h z))
  rw [e, wdF_ct]
theorem tx_bad {t : Int → Int} {n y : Int} {l : List (List (Int × Int))} (h0 : chr t n (sk t n 0) ≠ 0) (h : wdF t n 8 [] (sk t n 0) = (false, l, y)) : txF t n = (sk t n y, []) := by
  unfold txF; rw [if_neg h0, h, if_pos (Or.inl rfl)]
theorem tx_mid {t : Int → Int} {n y : Int} {l : List (List (Int × Int))} (h0 : chr t n (sk t n 0) ≠ 0) (h : wdF t n 8 [] (sk t n 0) = (true, l, y)) (hc : chr t n (sk t n y) ≠ 0) : txF t n = (sk t n y, []) := by
  unfold txF; rw [if_neg h0, h, if_pos (Or.inr hc)]
theorem tx_ok {t : Int → Int} {n y : Int} {l : List (List (Int × Int))} (h0 : chr t n (sk t n 0) ≠ 0) (h : wdF t n 8 [] (sk t n 0) = (true, l, y)) (hc : chr t n (sk t n y) = 0) : txF t n = (-1, l) := by
  unfold txF; rw [if_neg h0, h, if_neg (by rintro (z | z); cases z; exact z hc)]
theorem cpF_sk {t : Int → Int} {n p : Int} (h : (cpF t n p).1 = -1) : sk t n (cpF t n p).2 = (cpF t n p).2 := by
  unfold cpF at h ⊢
  split at h
  · rename_i h1
    rw [if_pos h1]
    split at h
    · simp only at h; omega
    · rename_i h2; rw [if_neg h2]; exact sk_sk ..
  · simp at h
/-- the slots as they stand, with those of the last one -/
def opl (l0 : List (List (Int × Int))) (acc : List (Int × Int)) : List (List (Int × Int)) := if acc.length = 0 then l0 else l0 ++ [acc]
theorem opl_GI {τ : Sg} {l0 : List (List (Int × Int))} {acc : List (Int × Int)} (hE : EqV (cv τ 5) (slV (opl l0 acc))) (h7 : l0.length ≤ 7) (h3 : acc.length ≤ 4) (hl : ∀ q ∈ l0, q.length ≤ 4) : GI τ 5 := by
  have e1 : τ 5 3 = ((opl l0 acc).length : Int) := hE.1
  have hlen : (opl l0 acc).length ≤ 8 := by unfold opl; split; omega; rw [List.length_append, List.length_singleton]; omega
  have hall : ∀ q ∈ opl l0 acc, q.length ≤ 4 := by
    intro q hq; unfold opl at hq; split at hq
    · exact hl q hq
    · rcases List.mem_append.mp hq with z | z
      · exact hl q z
      · rw [List.mem_singleton.mp z]; exact h3
  refine ⟨by omega, fun i i0 i1 => ?_⟩
  have a : τ (5 + 1) i = (((opl l0 acc).getD i.toNat []).length : Int) := (hE.2 i i0 i1).1
  have hi : i.toNat < (opl l0 acc).length := by omega
  have b : ((opl l0 acc).getD i.toNat []).length ≤ 4 := by
    rw [List.getD_eq_getElem?_getD, List.getElem?_eq_getElem hi]
    exact hall _ (List.getElem_mem hi)
  omega
theorem opl_bad {τ : Sg} {l0 : List (List (Int × Int))} {acc : List (Int × Int)} {w : Int} (hE : EqV (cv τ 5) (slV (l0 ++ [acc]))) : (∃ k, 0 ≤ k ∧ k < τ 6 (τ 5 3 - 1) ∧ τ 7 ((τ 5 3 - 1) * 4 + k) = w) ↔ w ∈ acc.map Prod.fst := by
  have e1 : τ 5 3 = ((l0 ++ [acc]).length : Int) := hE.1
  rw [List.length_append, List.length_singleton] at e1
  have e2 : τ 5 3 - 1 = l0.length := by omega
  rw [e2]
  have a := hE.2 l0.length (by omega) (by show (l0.length : Int) < τ 5 3; omega)
  have eg : (l0 ++ [acc]).getD (l0.length : Int).toNat [] = acc := by rw [sl_snoc, if_neg (by omega), if_pos (by omega)]
  have a1 : τ 6 l0.length = acc.length := by
    have h : τ (5 + 1) l0.length = (((l0 ++ [acc]).getD (l0.length : Int).toNat []).length : Int) := a.1
    rw [eg] at h; exact h
  have a2 : ∀ k : Int, 0 ≤ k → k < acc.length → τ 7 (l0.length * 4 + k) = (acc.getD k.toNat (0, 0)).1 := fun k k0 k1 => by
    have h : τ (5 + 2) (l0.length * 4 + k) = (((l0 ++ [acc]).getD (l0.length : Int).toNat []).getD k.toNat (0, 0)).1 := (a.2 k k0 (by show k < τ (5 + 1) l0.length; rw [show τ (5 + 1) l0.length = (acc.length : Int) from a1]; exact k1)).1
    rw [eg] at h; exact h
  rw [a1]
  constructor
  · rintro ⟨k, k0, k1, k2⟩
    rw [a2 k k0 k1, List.getD_eq_getElem?_getD, List.getElem?_eq_getElem (by omega)] at k2
    rw [← k2]
    exact List.mem_map.mpr ⟨_, List.getElem_mem (n := k.toNat) (by omega), rfl⟩
  · intro z
    obtain ⟨j, hj, ej⟩ := List.getElem_of_mem z
    rw [List.length_map] at hj
    refine ⟨j, by omega, by omega, ?_⟩
    rw [a2 j (by omega) (by omega), List.getD_eq_getElem?_getD, show ((j : Int)).toNat = j by omega, List.getElem?_eq_getElem hj, ← ej, List.getElem_map]; rfl
theorem cv_81 {τ : Sg} {v : Int} : cv (up τ 81 2 v) 5 = cv τ 5 := by
  unfold cv; simp (disch := omega) only [up_ne]
theorem rc_out {τ τ' : Sg} {l0 : List (List (Int × Int))} {acc : List (Int × Int)} {bz r : Int} (hT : TW (τ 82) (τ 81 1)) (hp : 0 ≤ τ 81 2 ∧ τ 81 2 ≤ τ 81 1) (hE : EqV (cv τ 5) (slV (opl l0 acc))) (h7 : l0.length ≤ 7) (h3 : acc.length ≤ 3) (hl : ∀ q ∈ l0, q.length ≤ 4) (hb : bz = if acc.length = 0 then 1 else 0) (k : Nat) (h : rcQ τ bz r τ') :
    (∃ y, rdF (τ 82) (τ 81 1) (k + 1) acc (τ 81 2) = (false, acc, y) ∧ r = y ∧ sk (τ 82) (τ 81 1) y = y ∧ (0 ≤ y ∧ y ≤ 120) ∧ Fm fRe τ τ') ∨
    (∃ w q e, rdF (τ 82) (τ 81 1) (k + 1) acc (τ 81 2) = (if k = 0 then (true, acc ++ [(w, q)], e) else if chr (τ 82) (τ 81 1) (sk (τ 82) (τ 81 1) e) = 44 then rdF (τ 82) (τ 81 1) k (acc ++ [(w, q)]) (sk (τ 82) (τ 81 1) e + 1) else (true, acc ++ [(w, q)], sk (τ 82) (τ 81 1) e)) ∧ r = -1 ∧ τ' 81 2 = e ∧ (0 ≤ e ∧ e ≤ τ 81 1) ∧ EqV (cv τ' 5) (slV (l0 ++ [acc ++ [(w, q)]])) ∧ Fm fRe τ τ') := by
  have hn := hT.1
  have hG := opl_GI hE h7 (by omega) hl
  have hq := sk_r (t := τ 82) hp.2
  have hw := wrF_r hT (q := sk (τ 82) (τ 81 1) (τ 81 2)) (by omega) (by omega)
  have hc := cpF_r hT (p := (wrF (τ 82) (τ 81 1) (sk (τ 82) (τ 81 1) (τ 81 2))).2) (by omega) (by omega)
  have hbad : ((wrF (τ 82) (τ 81 1) (sk (τ 82) (τ 81 1) (τ 81 2))).1 = -4 ∨ (bz = 0 ∧ ∃ k, 0 ≤ k ∧ k < τ 6 (τ 5 3 - 1) ∧ τ 7 ((τ 5 3 - 1) * 4 + k) = (wrF (τ 82) (τ 81 1) (sk (τ 82) (τ 81 1) (τ 81 2))).1)) ↔ ((wrF (τ 82) (τ 81 1) (sk (τ 82) (τ 81 1) (τ 81 2))).1 = -4 ∨ (wrF (τ 82) (τ 81 1) (sk (τ 82) (τ 81 1) (τ 81 2))).1 ∈ acc.map Prod.fst) := by
    by_cases z : acc.length = 0
    · have : acc = [] := List.length_eq_zero_iff.mp z
      subst this
      rw [if_pos z] at hb
      constructor
      · rintro (y | y)
        · exact Or.inl y
        · omega
      · rintro (y | y)
        · exact Or.inl y
        · cases y
    · rw [if_neg z] at hb
      have hE2 : EqV (cv τ 5) (slV (l0 ++ [acc])) := by unfold opl at hE; rw [if_neg z] at hE; exact hE
      rw [opl_bad hE2]
      exact ⟨fun y => y.imp id (fun x => x.2), fun y => y.imp id (fun x => ⟨hb, x⟩)⟩
  unfold rcQ at h
  rw [rdF]
  rcases h with ⟨h1, h2, h3'⟩ | ⟨h1, h2, h3', h4⟩ | ⟨h1, h2, h3', h4⟩
  · left
    refine ⟨_, by rw [if_pos (hbad.mp h1)], h2, sk_sk .., by omega, h3'.mono f81_Re⟩
  · left
    refine ⟨_, by rw [if_neg (fun z => h1 (hbad.mpr z)), if_pos h2], h3', cpF_sk h2, by omega, h4.mono f81_Re⟩
  · right
    refine ⟨_, _, _, by rw [if_neg (fun z => h1 (hbad.mpr z)), if_neg h2], h3', ?_, by omega, ?_, ?_⟩
    · rw [h4]; split
      · rw [widS_ne (by omega), up_eq]
      · unfold groS; rw [widS_ne (by omega), up_ne (by omega), up_ne (by omega), up_eq]
    · rw [h4]
      by_cases z : acc.length = 0
      · have : acc = [] := List.length_eq_zero_iff.mp z
        subst this
        rw [if_pos z] at hb
        rw [if_neg (by omega)]
        have hE2 : EqV (cv τ 5) (slV l0) := by unfold opl at hE; rw [if_pos z] at hE; exact hE
        have g := EqV_gro (τ := up τ 81 2 (cpF (τ 82) (τ 81 1) (wrF (τ 82) (τ 81 1) (sk (τ 82) (τ 81 1) (τ 81 2))).2).2) (w := (wrF (τ 82) (τ 81 1) (sk (τ 82) (τ 81 1) (τ 81 2))).1) (q := (cpF (τ 82) (τ 81 1) (wrF (τ 82) (τ 81 1) (sk (τ 82) (τ 81 1) (τ 81 2))).2).1) (by rw [cv_81]; exact hE2) (fun i i0 i1 => by rw [up_ne (by decide)] at i1 ⊢; exact (hG.2 i i0 i1).2)
        exact g
      · rw [if_neg z] at hb
        rw [if_pos hb]
        have hE2 : EqV (cv τ 5) (slV (l0 ++ [acc])) := by unfold opl at hE; rw [if_neg z] at hE; exact hE
        have e1 : τ 5 3 = ((l0 ++ [acc]).length : Int) := hE2.1
        rw [List.length_append, List.length_singleton] at e1
        rw [show τ 5 3 - 1 = (l0.length : Int) by omega]
        exact EqV_wid (τ := up τ 81 2 (cpF (τ 82) (τ 81 1) (wrF (τ 82) (τ 81 1) (sk (τ 82) (τ 81 1) (τ 81 2))).2).2) (by rw [cv_81]; exact hE2) (fun i i0 i1 => by rw [up_ne (by decide)] at i1 ⊢; exact (hG.2 i i0 i1).2) h3
    · intro c j hc0
      have hc1 : ¬ (c = 81 ∧ j = 2) := by rintro ⟨rfl, rfl⟩; cases (show true = false from hc0)
      have hc2 : c < 5 ∨ 8 < c := by unfold fRe at hc0; simp at hc0; omega
      have hu : ∀ v : Int, up τ 81 2 v c j = τ c j := fun v => by
        by_cases y : c = 81
        · exact up_nk (fun z => hc1 ⟨y, z⟩)
        · exact up_ne y
      rw [h4]; split
      · rw [widS_ne (by omega), hu]
      · unfold groS; rw [widS_ne (by omega), up_ne (by omega), up_ne (by omega), hu]
