theorem slV_n (l : List (List (Int × Int))) : (slV l).1 = l.length := rfl
theorem slV_c (l : List (List (Int × Int))) (i : Nat) (h : i < l.length) : (slV l).2.1 i = (l[i]).length := by
  show (((l.getD (i : Int).toNat []).length : Nat) : Int) = _
  rw [Int.toNat_natCast, List.getD_eq_getElem?_getD, List.getElem?_eq_getElem h]; rfl
theorem slV_w (l : List (List (Int × Int))) (i k : Nat) (h : i < l.length) (hk : k < (l[i]).length) : (slV l).2.2.1 i k = ((l[i])[k]).1 ∧ (slV l).2.2.2 i k = ((l[i])[k]).2 := by
  show ((l.getD (i : Int).toNat []).getD (k : Int).toNat (0, 0)).1 = _ ∧ ((l.getD (i : Int).toNat []).getD (k : Int).toNat (0, 0)).2 = _
  have e : l.getD i [] = l[i] := by rw [List.getD_eq_getElem?_getD, List.getElem?_eq_getElem h]; rfl
  rw [Int.toNat_natCast, Int.toNat_natCast, e, List.getD_eq_getElem?_getD, List.getElem?_eq_getElem hk]; exact ⟨rfl, rfl⟩
/-- a row that holds the slots as they were read is a view of them -/
theorem EqV_read {N r : Int → Int} {l : List (List (Int × Int))} (hl : lenQ l) (hr : rwsQ r l) (h0 : N 0 = l.length) (hN : ∀ j : Int, 0 ≤ j → j < 9 * (l.length : Int) → (j % 9 = 0 ∨ (1 ≤ j % 9 ∧ j % 9 - 1 < r (9 * (j / 9))) ∨ (5 ≤ j % 9 ∧ j % 9 - 5 < r (9 * (j / 9)))) → N (4 + j) = r j) : EqV (mv N) (slV l) := by
  refine ⟨h0, fun i i0 i1 => ?_⟩
  rw [mv_n, h0] at i1
  obtain ⟨q, rfl⟩ : ∃ q : Nat, i = q := ⟨i.toNat, by omega⟩
  have hq : q < l.length := by omega
  have hrq := hr q hq
  have hlq := hl _ (List.getElem_mem hq)
  have e1 : N (4 + 9 * (q : Int)) = (l[q]).length := by rw [hN (9 * q) (by omega) (by omega) (Or.inl (by omega))]; exact hrq.1
  refine ⟨by rw [mv_c, slV_c l q hq]; exact e1, fun k k0 k1 => ?_⟩
  rw [mv_c, e1] at k1
  obtain ⟨m, rfl⟩ : ∃ m : Nat, k = m := ⟨k.toNat, by omega⟩
  have hm : m < (l[q]).length := by omega
  obtain ⟨a1, a2⟩ := hrq.2 m hm
  have hz : r (9 * (q : Int)) = (l[q]).length := hrq.1
  obtain ⟨b1, b2⟩ := slV_w l q m hq hm
  rw [mv_w, mv_q, b1, b2, ← a1, ← a2]
  constructor
  · rw [show 4 + 9 * (q : Int) + 1 + m = 4 + (9 * q + 1 + m) by omega]
    refine hN _ (by omega) (by omega) (Or.inr (Or.inl ?_))
    rw [show (9 * (q : Int) + 1 + m) / 9 = q by omega, hz]; omega
  · rw [show 4 + 9 * (q : Int) + 5 + m = 4 + (9 * q + 5 + m) by omega]
    refine hN _ (by omega) (by omega) (Or.inr (Or.inr ?_))
    rw [show (9 * (q : Int) + 5 + m) / 9 = q by omega, hz]; omega
/-- what words answers and leaves -/
def wordsQ (σ σ' : Sg) (r : Int) : Prop := ((txF (σ 124) (σ 113 23)).1 ≠ -1 ∧ r = -20 - (txF (σ 124) (σ 113 23)).1 ∧ σ' 113 23 = 0 ∧ Fm fTx σ σ') ∨ ((txF (σ 124) (σ 113 23)).1 = -1 ∧ lenQ (txF (σ 124) (σ 113 23)).2 ∧ (txF (σ 124) (σ 113 23)).2.length ≤ 8 ∧ r = (txF (σ 124) (σ 113 23)).2.length ∧ EqV (mv (σ' 114)) (slV (txF (σ 124) (σ 113 23)).2) ∧ (∀ j : Int, 1 ≤ j → j < 4 → σ' 114 j = σ 114 j) ∧ σ' 113 29 = 0 ∧ σ' 113 23 = 0 ∧ Fm fWd σ σ')

set_option maxHeartbeats 4000000 in
set_option maxRecDepth 100000 in
theorem lp_words5 {g : G} {x : Cx} {σ υ : Sg} {P : Int → Sg → Prop} {n p : Int} {t : Int → Int} {l : List (List (Int × Int))} (hO : Ok g x RX9 cX9_words 5 4) (hR : Rt g x (some .int) (pI P)) (hT : TW t n) (e124 : υ 124 = t) (e23 : υ 113 23 = n) (e24 : υ 113 24 = p) (hp : 0 ≤ p ∧ p ≤ n) (hrow : rwsQ (υ 125) l) (hlen : lenQ l) (hl8 : l.length ≤ 8) (hFm : Fm fRd σ υ) (hPf : ∀ r τ, chr t n (sk t n p) ≠ 0 → r = -20 - (sk t n p) → τ 113 23 = 0 → Fm fTx σ τ → P r τ) (hPt : ∀ τ, chr t n (sk t n p) = 0 → EqV (mv (τ 114)) (slV l) → (∀ j : Int, 1 ≤ j → j < 4 → τ 114 j = σ 114 j) → τ 113 29 = 0 → τ 113 23 = 0 → Fm fWd σ τ → P l.length τ) : Z g x 5 64 [(0, .ref (g.2.2.1 113)), (1, vI (l.length : Nat))] [] υ := by
  have hn := hT.1
  have hq := sk_r (t := t) hp.2
  have hqc := chr_r hT (i := sk t n p) (by omega)
  refine z_aload_n hO 0 dX9_words_64 rfl ?_
  refine z_cvI hO (t_X9_here (by rw [e124, e23]; exact hT) (by rw [e23, e24]; exact hp)) cv_X9_205 rfl rfl rfl rfl (by decide) (Nat.le_of_ble_eq_true rfl) dX9_words_65 (fun v65 s65 p65 => ?_)
  rw [e124, e23, e24] at p65
  obtain ⟨rfl, rfl⟩ := p65
  refine z_if_eq hO 76 dX9_words_68 (by decide) (by omega) (fun c68 => ?_) (fun c68 => ?_)
  ·
    refine z_aload_n hO 0 dX9_words_76 rfl ?_
    refine z_cvV hO (t_X9_clears) cv_X9_227 rfl rfl rfl rfl (by decide) (Nat.le_of_ble_eq_true rfl) dX9_words_77 (fun s77 p77 => ?_)
    subst p77
    refine z_aload_n hO 0 dX9_words_80 rfl ?_
    refine z_getR hO (114) fl_X9_7 rfl rfl dX9_words_81 ?_
    refine z_iconst hO dX9_words_84 ?_
    refine z_iload_n hO 1 dX9_words_85 rfl ?_
    refine z_iast hO rfl (by omega) (by decide) (by omega) dX9_words_86 ?_
    refine z_iconst hO dX9_words_87 ?_
    refine z_istore_n hO (L' := [(3, _), (0, _), (1, _)]) dX9_words_88 (by decide) rfl ?_
    refine z_sg (fl_0 (c := 114) (lo := 4) (hi := 4 + (0 - 0)) (f := fun k => (up (fl (up (up υ 113 24 (sk t n p)) 114 0 0) 114 4 76 (fun _ => 0)) 114 0 (l.length : Int)) 125 (k - 4)) (by omega)).symm ?_
    refine z_pick [1, 2, 0] rfl (lp_words2 (σ := (up (fl (up (up υ 113 24 (sk t n p)) 114 0 0) 114 4 76 (fun _ => 0)) 114 0 (l.length : Int))) hO (by omega) ?_ 73 0 (by decide) (by omega) (by omega))
    refine z_iconst hO dX9_words_117 ?_
    refine z_istore_n hO (L' := [(3, _), (0, _), (1, _)]) dX9_words_118 (by decide) rfl ?_
    have hb125 : (up (fl (up (up υ 113 24 (sk t n p)) 114 0 0) 114 4 76 (fun _ => 0)) 114 0 (l.length : Int)) 125 = υ 125 := by simp only [fl_row_ne, fl_ne, up_row_ne, up_ne, up_eq, up_nk, up_up, up_self, ne_eq, Nat.reduceEqDiff, Int.reduceEq, reduceCtorEq, not_false_eq_true, not_true_eq_false]
    have hB2 : ∀ j : Int, 0 ≤ j → j < 9 * (l.length : Int) → (fl (up (fl (up (up υ 113 24 (sk t n p)) 114 0 0) 114 4 76 (fun _ => 0)) 114 0 (l.length : Int)) 114 4 (4 + (9 * (l.length : Int) - 0)) (fun k => (up (fl (up (up υ 113 24 (sk t n p)) 114 0 0) 114 4 76 (fun _ => 0)) 114 0 (l.length : Int)) 125 (k - 4))) 114 (4 + j) = υ 125 j := fun j j0 j1 => by rw [fl_in (by omega), hb125]; congr 1; omega
    have hB0 : ∀ j : Int, j < 4 → (fl (up (fl (up (up υ 113 24 (sk t n p)) 114 0 0) 114 4 76 (fun _ => 0)) 114 0 (l.length : Int)) 114 4 (4 + (9 * (l.length : Int) - 0)) (fun k => (up (fl (up (up υ 113 24 (sk t n p)) 114 0 0) 114 4 76 (fun _ => 0)) 114 0 (l.length : Int)) 125 (k - 4))) 114 j = (up (fl (up (up υ 113 24 (sk t n p)) 114 0 0) 114 4 76 (fun _ => 0)) 114 0 (l.length : Int)) 114 j := fun j hj => fl_out (by omega)
    have hcc : ∀ i : Int, 0 ≤ i → i < (l.length : Int) → 1 ≤ (fl (up (fl (up (up υ 113 24 (sk t n p)) 114 0 0) 114 4 76 (fun _ => 0)) 114 0 (l.length : Int)) 114 4 (4 + (9 * (l.length : Int) - 0)) (fun k => (up (fl (up (up υ 113 24 (sk t n p)) 114 0 0) 114 4 76 (fun _ => 0)) 114 0 (l.length : Int)) 125 (k - 4))) 114 (4 + 9 * i) ∧ (fl (up (fl (up (up υ 113 24 (sk t n p)) 114 0 0) 114 4 76 (fun _ => 0)) 114 0 (l.length : Int)) 114 4 (4 + (9 * (l.length : Int) - 0)) (fun k => (up (fl (up (up υ 113 24 (sk t n p)) 114 0 0) 114 4 76 (fun _ => 0)) 114 0 (l.length : Int)) 125 (k - 4))) 114 (4 + 9 * i) ≤ 4 := by
      intro i i0 i1
      obtain ⟨q, rfl⟩ : ∃ q : Nat, i = q := ⟨i.toNat, by omega⟩
      have hq : q < l.length := by omega
      rw [hB2 (9 * q) (by omega) (by omega), (hrow q hq).1]
      have := hlen _ (List.getElem_mem hq); omega
    refine z_pick [1, 2, 0] rfl (lp_words4 (β := (fl (up (fl (up (up υ 113 24 (sk t n p)) 114 0 0) 114 4 76 (fun _ => 0)) 114 0 (l.length : Int)) 114 4 (4 + (9 * (l.length : Int) - 0)) (fun k => (up (fl (up (up υ 113 24 (sk t n p)) 114 0 0) 114 4 76 (fun _ => 0)) 114 0 (l.length : Int)) 125 (k - 4)))) hO (by omega) hcc ?_ 9 0 _ (by omega) (by omega) ⟨Fm.rf, fun _ _ => rfl, fun _ _ _ => ⟨rfl, fun _ _ _ => ⟨rfl, rfl⟩⟩⟩)
    intro ω hK
    have hω : Fm fWd σ ω := by
      intro c k hf
      have hne : c ≠ 114 := by rintro rfl; cases (show true = false from hf)
      rw [hK.1 c k (by show (c == 114) = false; simp [hne]), fl_ne hne, up_ne hne, fl_ne hne, up_ne hne]
      exact ((hFm.mono fRd_Tx).mono fTx_Wd |>.up (c := 113) (k := 24) rfl) c k hf
    have h00 : ω 114 0 = l.length := by rw [hK.2.1 0 (by decide), hB0 0 (by decide), up_eq]
    have hj4 : ∀ j : Int, 1 ≤ j → j < 4 → ω 114 j = σ 114 j := by
      intro j j1 j2
      rw [hK.2.1 j j2, hB0 j j2, up_nk (by omega), fl_out (by omega), up_nk (by omega), up_ne (by decide)]
      exact hFm 114 j rfl
    have hv : EqV (mv (ω 114)) (slV l) := by
      refine EqV_read hlen hrow h00 (fun j j0 j1 hu => ?_)
      have hcj := hcc (j / 9) (by omega) (by omega)
      obtain ⟨a1, a2⟩ := hK.2.2 (j / 9) (by omega) (by omega)
      have hcv : (fl (up (fl (up (up υ 113 24 (sk t n p)) 114 0 0) 114 4 76 (fun _ => 0)) 114 0 (l.length : Int)) 114 4 (4 + (9 * (l.length : Int) - 0)) (fun k => (up (fl (up (up υ 113 24 (sk t n p)) 114 0 0) 114 4 76 (fun _ => 0)) 114 0 (l.length : Int)) 125 (k - 4))) 114 (4 + 9 * (j / 9)) = υ 125 (9 * (j / 9)) := hB2 _ (by omega) (by omega)
      rcases hu with u | u | u
      · rw [← hB2 j j0 j1, show (4 : Int) + j = 4 + 9 * (j / 9) by omega]; exact a1
      · rw [← hB2 j j0 j1, show (4 : Int) + j = 4 + 9 * (j / 9) + 1 + (j % 9 - 1) by omega]; exact (a2 (j % 9 - 1) (by omega) (by omega)).1
      · rw [← hB2 j j0 j1, show (4 : Int) + j = 4 + 9 * (j / 9) + 5 + (j % 9 - 5) by omega]; exact (a2 (j % 9 - 5) (by omega) (by omega)).2
    have hv2 : EqV (mv ((up (up ω 113 29 0) 113 23 0) 114)) (slV l) := by simp only [fl_row_ne, fl_ne, up_row_ne, up_ne, up_eq, up_nk, up_up, up_self, ne_eq, Nat.reduceEqDiff, Int.reduceEq, reduceCtorEq, not_false_eq_true, not_true_eq_false]; exact hv
    refine z_aload_n hO 0 dX9_words_186 rfl ?_
    refine z_iconst hO dX9_words_187 ?_
    refine z_putI hO 29 fp_X9_192 rfl rfl rfl (by omega) rfl rfl dX9_words_188 ?_
    refine z_aload_n hO 0 dX9_words_191 rfl ?_
    refine z_iconst hO dX9_words_192 ?_
    refine z_putI hO 23 fp_X9_199 rfl rfl rfl (by omega) rfl rfl dX9_words_193 ?_
    refine z_iload_n hO 1 dX9_words_196 rfl ?_
    exact z_retI hO hR dX9_words_197 (hPt _ (by omega) hv2 (fun j j1 j2 => by simp only [fl_row_ne, fl_ne, up_row_ne, up_ne, up_eq, up_nk, up_up, up_self, ne_eq, Nat.reduceEqDiff, Int.reduceEq, reduceCtorEq, not_false_eq_true, not_true_eq_false]; exact hj4 j j1 j2) (by simp only [fl_row_ne, fl_ne, up_row_ne, up_ne, up_eq, up_nk, up_up, up_self, ne_eq, Nat.reduceEqDiff, Int.reduceEq, reduceCtorEq, not_false_eq_true, not_true_eq_false]) (by simp only [fl_row_ne, fl_ne, up_row_ne, up_ne, up_eq, up_nk, up_up, up_self, ne_eq, Nat.reduceEqDiff, Int.reduceEq, reduceCtorEq, not_false_eq_true, not_true_eq_false]) (((hω.up rfl).up rfl)))
  ·
    refine z_aload_n hO 0 dX9_words_71 rfl ?_
    refine z_cvI hO (t_X9_fault (by simp only [fl_row_ne, fl_ne, up_row_ne, up_ne, up_eq, up_nk, up_up, up_self, ne_eq, Nat.reduceEqDiff, Int.reduceEq, reduceCtorEq, not_false_eq_true, not_true_eq_false]; rw [e124, e23]; exact hT) (by simp only [fl_row_ne, fl_ne, up_row_ne, up_ne, up_eq, up_nk, up_up, up_self, ne_eq, Nat.reduceEqDiff, Int.reduceEq, reduceCtorEq, not_false_eq_true, not_true_eq_false]; rw [e23]; omega)) cv_X9_224 rfl rfl rfl rfl (by decide) (Nat.le_of_ble_eq_true rfl) dX9_words_72 (fun v72 s72 p72 => ?_)
    simp only [fl_row_ne, fl_ne, up_row_ne, up_ne, up_eq, up_nk, up_up, up_self, ne_eq, Nat.reduceEqDiff, Int.reduceEq, reduceCtorEq, not_false_eq_true, not_true_eq_false, sk_sk, e124, e23] at p72
    obtain ⟨rfl, rfl⟩ := p72
    exact z_retI hO hR dX9_words_75 (hPf _ _ (by omega) rfl up_eq (by first | exact ((hFm.mono fRd_Tx).up rfl).up rfl | exact (((hFm.mono fRd_Tx).up rfl).up rfl).up rfl))

theorem wdF_r {t : Int → Int} {n : Int} (h : TW t n) : ∀ (k : Nat) (acc : List (List (Int × Int))) (p : Int), 0 ≤ p → p ≤ n → p ≤ (wdF t n k acc p).2.2 ∧ (wdF t n k acc p).2.2 ≤ n ∧ (wdF t n k acc p).2.1.length ≤ acc.length + k := by
  intro k
  induction k with
  | zero => intro acc p h0 h1; exact ⟨Int.le_refl _, h1, Nat.le_refl _⟩
  | succ k ih =>
    intro acc p h0 h1
    obtain ⟨a1, a2, -⟩ := rdF_r h 4 [] p h0 h1
    have hs := sk_r (t := t) a2
    have hd := chr_r h (i := sk t n (rdF t n 4 [] p).2.2) (by omega)
    rw [wdF]
    split
    · exact ⟨a1, a2, by dsimp only; omega⟩
    · split
      · exact ⟨a1, a2, by dsimp only; rw [List.length_append, List.length_singleton]; omega⟩
      · split
        · have := ih (acc ++ [(rdF t n 4 [] p).2.1]) (sk t n (rdF t n 4 [] p).2.2 + 1) (by omega) (by omega)
          rw [List.length_append, List.length_singleton] at this
          exact ⟨by omega, this.2.1, by omega⟩
        · exact ⟨by dsimp only; omega, by dsimp only; omega, by dsimp only; rw [List.length_append, List.length_singleton]; omega⟩

set_option maxHeartbeats 4000000 in
set_option maxRecDepth 100000 in
theorem t_X9_words {g : G} {σ : Sg} (hT : TW (σ 124) (σ 113 23)) : MM g mX9_words [.ref (g.2.2.1 113)] σ (pI (fun r σ' => wordsQ σ σ' r)) := by
  refine mm_of rfl (by decide) rfl rfl (Nat.le_of_ble_eq_true rfl) (fun x hO hR => ?_)
  have hn := hT.1
  have hs0 := sk_r (t := σ 124) (n := σ 113 23) (i := 0) hn.1
  have hc0 := chr_r hT (i := (sk (σ 124) (σ 113 23) 0)) (by omega)
  refine z_aload_n hO 0 dX9_words_0 rfl ?_
  refine z_iconst hO dX9_words_1 ?_
  refine z_putI hO 24 fp_X9_202 rfl rfl rfl (by omega) rfl rfl dX9_words_2 ?_
  refine z_iconst hO dX9_words_5 ?_
  refine z_istore_n hO (L' := [(1, _), (0, _)]) dX9_words_6 (by decide) rfl ?_
  refine z_aload_n hO 1 dX9_words_7 rfl ?_
  refine z_cvI hO (t_X9_here (by simp only [fl_row_ne, fl_ne, up_row_ne, up_ne, up_eq, up_nk, up_up, up_self, ne_eq, Nat.reduceEqDiff, Int.reduceEq, reduceCtorEq, not_false_eq_true, not_true_eq_false]; exact hT) (by simp only [fl_row_ne, fl_ne, up_row_ne, up_ne, up_eq, up_nk, up_up, up_self, ne_eq, Nat.reduceEqDiff, Int.reduceEq, reduceCtorEq, not_false_eq_true, not_true_eq_false]; omega)) cv_X9_205 rfl rfl rfl rfl (by decide) (Nat.le_of_ble_eq_true rfl) dX9_words_8 (fun v8 s8 p8 => ?_)
  simp only [fl_row_ne, fl_ne, up_row_ne, up_ne, up_eq, up_nk, up_up, up_self, ne_eq, Nat.reduceEqDiff, Int.reduceEq, reduceCtorEq, not_false_eq_true, not_true_eq_false] at p8
  obtain ⟨rfl, rfl⟩ := p8
  refine z_if_eq hO 18 dX9_words_11 (by decide) (by omega) (fun c11 => ?_) (fun c11 => ?_)
  ·
    refine z_iconst hO dX9_words_18 ?_
    refine z_istore_n hO (L' := [(2, _), (1, _), (0, _)]) dX9_words_19 (by decide) rfl ?_
    refine z_iload_n hO 0 dX9_words_20 rfl ?_
    refine z_if_eq hO 64 dX9_words_21 (by decide) (by decide) (fun c21 => ?_) (fun c21 => absurd c21 (by omega))
    have htx : (txF (σ 124) (σ 113 23)) = (-1, []) := by unfold txF; rw [if_pos c11]
    refine z_pick [2, 1] rfl (lp_words5 (σ := σ) (t := σ 124) (n := σ 113 23) (p := (sk (σ 124) (σ 113 23) 0)) (l := []) hO hR hT (by simp only [fl_row_ne, fl_ne, up_row_ne, up_ne, up_eq, up_nk, up_up, up_self, ne_eq, Nat.reduceEqDiff, Int.reduceEq, reduceCtorEq, not_false_eq_true, not_true_eq_false]) (by simp only [fl_row_ne, fl_ne, up_row_ne, up_ne, up_eq, up_nk, up_up, up_self, ne_eq, Nat.reduceEqDiff, Int.reduceEq, reduceCtorEq, not_false_eq_true, not_true_eq_false]) up_eq (by omega) (fun i hi => absurd hi (Nat.not_lt_zero i)) (fun q hq => absurd hq (List.not_mem_nil)) (by decide) (by first | exact Fm.rf.up rfl | exact (Fm.rf.up rfl).up rfl) ?_ ?_)
    · intro r τ b1 b2 b3 b4
      rw [sk_sk] at b1; exact absurd c11 b1
    · intro τ b1 b2 b3 b4 b5 b6
      exact Or.inr ⟨by rw [htx], by rw [htx]; exact fun q hq => absurd hq (List.not_mem_nil), by rw [htx]; decide, by rw [htx], by rw [htx]; exact b2, b3, b4, b5, b6⟩
  ·
    refine z_iconst hO dX9_words_14 ?_
    refine z_goto hO 19 dX9_words_15 (by decide) ?_
    refine z_istore_n hO (L' := [(2, _), (1, _), (0, _)]) dX9_words_19 (by decide) rfl ?_
    have htx : (txF (σ 124) (σ 113 23)) = (if (wdF (σ 124) (σ 113 23) 8 [] (sk (σ 124) (σ 113 23) 0)).1 = false ∨ chr (σ 124) (σ 113 23) (sk (σ 124) (σ 113 23) (wdF (σ 124) (σ 113 23) 8 [] (sk (σ 124) (σ 113 23) 0)).2.2) ≠ 0 then (sk (σ 124) (σ 113 23) (wdF (σ 124) (σ 113 23) 8 [] (sk (σ 124) (σ 113 23) 0)).2.2, []) else (-1, (wdF (σ 124) (σ 113 23) 8 [] (sk (σ 124) (σ 113 23) 0)).2.1)) := by unfold txF; rw [if_neg c11]
    have hwr := wdF_r hT 8 [] (sk (σ 124) (σ 113 23) 0) (by omega) (by omega)
    have hs7 := sk_r (t := σ 124) hwr.2.1
    refine z_pick [2, 1, 0] rfl (lp_words (σ := σ) (t := σ 124) (n := σ 113 23) hO hR hT 7 [] (sk (σ 124) (σ 113 23) 0) _ rfl (fun i hi => absurd hi (Nat.not_lt_zero i)) (fun q hq => absurd hq (List.not_mem_nil)) (by simp only [fl_row_ne, fl_ne, up_row_ne, up_ne, up_eq, up_nk, up_up, up_self, ne_eq, Nat.reduceEqDiff, Int.reduceEq, reduceCtorEq, not_false_eq_true, not_true_eq_false]) (by simp only [fl_row_ne, fl_ne, up_row_ne, up_ne, up_eq, up_nk, up_up, up_self, ne_eq, Nat.reduceEqDiff, Int.reduceEq, reduceCtorEq, not_false_eq_true, not_true_eq_false]) up_eq (by omega) (by first | exact Fm.rf.up rfl | exact (Fm.rf.up rfl).up rfl) ?_ ?_)
    · intro r τ a1 a2 a3 a4
      rw [if_pos (Or.inl a1)] at htx
      exact Or.inl ⟨by rw [htx]; dsimp only; omega, by rw [htx]; exact a2, a3, a4⟩
    · intro υ a1 a2 a3 a4 a5
      refine lp_words5 (σ := σ) hO hR hT ((a5.row 124 (fun _ => rfl))) (a5 113 23 rfl) a2 ⟨show 0 ≤ (wdF (σ 124) (σ 113 23) 8 [] (sk (σ 124) (σ 113 23) 0)).2.2 by omega, hwr.2.1⟩ a3 a4 (by simpa using hwr.2.2) a5 ?_ ?_
      · intro r τ b1 b2 b3 b4
        rw [if_pos (Or.inr b1)] at htx
        exact Or.inl ⟨by rw [htx]; dsimp only; omega, by rw [htx]; exact b2, b3, b4⟩
      · intro τ b1 b2 b3 b4 b5 b6
        rw [if_neg (fun z => z.elim (fun y => by rw [a1] at y; cases y) (fun y => y b1))] at htx
        exact Or.inr ⟨by rw [htx], by rw [htx]; exact a4, by rw [htx]; simpa using hwr.2.2, by rw [htx], by rw [htx]; exact b2, b3, b4, b5, b6⟩
