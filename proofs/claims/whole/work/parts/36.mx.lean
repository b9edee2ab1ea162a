/-! ===== whole texts ===== -/
/-- two views of the same slots -/
def EqV (V W : Hv) : Prop := V.1 = W.1 ∧ ∀ i, 0 ≤ i → i < V.1 → V.2.1 i = W.2.1 i ∧ ∀ k, 0 ≤ k → k < V.2.1 i → V.2.2.1 i k = W.2.2.1 i k ∧ V.2.2.2 i k = W.2.2.2 i k
/-- slots as a list -/
def slV (l : List (List (Int × Int))) : Hv := (l.length, fun i => (l.getD i.toNat []).length, fun i k => ((l.getD i.toNat []).getD k.toNat (0, 0)).1, fun i k => ((l.getD i.toNat []).getD k.toNat (0, 0)).2)
def wdF (t : Int → Int) (n : Int) : Nat → List (List (Int × Int)) → Int → Bool × List (List (Int × Int)) × Int
  | 0, acc, p => (true, acc, p)
  | k + 1, acc, p =>
    if (rdF t n 4 [] p).1 = false then (false, acc, (rdF t n 4 [] p).2.2)
    else if k = 0 then (true, acc ++ [(rdF t n 4 [] p).2.1], (rdF t n 4 [] p).2.2)
    else if chr t n (sk t n (rdF t n 4 [] p).2.2) = 59 then wdF t n k (acc ++ [(rdF t n 4 [] p).2.1]) (sk t n (rdF t n 4 [] p).2.2 + 1)
    else (true, acc ++ [(rdF t n 4 [] p).2.1], sk t n (rdF t n 4 [] p).2.2)
/-- what a text tells: the place of its fault, or -1 and its slots -/
def txF (t : Int → Int) (n : Int) : Int × List (List (Int × Int)) :=
  if chr t n (sk t n 0) = 0 then (-1, [])
  else if (wdF t n 8 [] (sk t n 0)).1 = false ∨ chr t n (sk t n (wdF t n 8 [] (sk t n 0)).2.2) ≠ 0 then (sk t n (wdF t n 8 [] (sk t n 0)).2.2, [])
  else (-1, (wdF t n 8 [] (sk t n 0)).2.1)
theorem rdF_r {t : Int → Int} {n : Int} (h : TW t n) : ∀ (k : Nat) (acc : List (Int × Int)) (p : Int), 0 ≤ p → p ≤ n → p ≤ (rdF t n k acc p).2.2 ∧ (rdF t n k acc p).2.2 ≤ n ∧ (rdF t n k acc p).2.1.length ≤ acc.length + k ∧ acc.length ≤ (rdF t n k acc p).2.1.length ∧ ((rdF t n (k + 1) acc p).1 = true → acc.length < (rdF t n (k + 1) acc p).2.1.length) ∧ ((∀ q ∈ acc, 0 ≤ q.1 ∧ q.1 ≤ 31 ∧ 0 ≤ q.2 ∧ q.2 ≤ 9) → ∀ q ∈ (rdF t n k acc p).2.1, 0 ≤ q.1 ∧ q.1 ≤ 31 ∧ 0 ≤ q.2 ∧ q.2 ≤ 9) ∧ ((acc.map Prod.fst).Nodup → ((rdF t n k acc p).2.1.map Prod.fst).Nodup) := by
  have key : ∀ (k : Nat), (∀ (acc : List (Int × Int)) (p : Int), 0 ≤ p → p ≤ n → p ≤ (rdF t n k acc p).2.2 ∧ (rdF t n k acc p).2.2 ≤ n ∧ (rdF t n k acc p).2.1.length ≤ acc.length + k ∧ acc.length ≤ (rdF t n k acc p).2.1.length ∧ ((∀ q ∈ acc, 0 ≤ q.1 ∧ q.1 ≤ 31 ∧ 0 ≤ q.2 ∧ q.2 ≤ 9) → ∀ q ∈ (rdF t n k acc p).2.1, 0 ≤ q.1 ∧ q.1 ≤ 31 ∧ 0 ≤ q.2 ∧ q.2 ≤ 9) ∧ ((acc.map Prod.fst).Nodup → ((rdF t n k acc p).2.1.map Prod.fst).Nodup)) := by
    intro k
    induction k with
    | zero => intro acc p h0 h1; exact ⟨Int.le_refl _, h1, Nat.le_refl _, Nat.le_refl _, fun z => z, fun z => z⟩
    | succ k ih =>
      intro acc p h0 h1
      have hq := sk_r (t := t) h1
      have hw := wrF_r h (q := sk t n p) (by omega) (by omega)
      have hc := cpF_r h (p := (wrF t n (sk t n p)).2) (by omega) (by omega)
      have hs := sk_r (t := t) (n := n) (i := (cpF t n (wrF t n (sk t n p)).2).2) (by omega)
      have hd := chr_r h (i := sk t n (cpF t n (wrF t n (sk t n p)).2).2) (by omega)
      rw [rdF]
      split
      · exact ⟨by dsimp only; omega, by dsimp only; omega, by dsimp only; omega, Nat.le_refl _, fun z => z, fun z => z⟩
      · rename_i hg
        have hg1 : (wrF t n (sk t n p)).1 ≠ -4 := fun z => hg (Or.inl z)
        have hg2 : (wrF t n (sk t n p)).1 ∉ acc.map Prod.fst := fun z => hg (Or.inr z)
        split
        · exact ⟨by dsimp only; omega, by dsimp only; omega, by dsimp only; omega, Nat.le_refl _, fun z => z, fun z => z⟩
        · rename_i hm1
          have hmem : (∀ q ∈ acc, 0 ≤ q.1 ∧ q.1 ≤ 31 ∧ 0 ≤ q.2 ∧ q.2 ≤ 9) → ∀ q ∈ acc ++ [((wrF t n (sk t n p)).1, (cpF t n (wrF t n (sk t n p)).2).1)], 0 ≤ q.1 ∧ q.1 ≤ 31 ∧ 0 ≤ q.2 ∧ q.2 ≤ 9 := by
            intro z q hq2
            rcases List.mem_append.mp hq2 with y | y
            · exact z q y
            · rw [List.mem_singleton.mp y]; dsimp only; omega
          have hnd : (acc.map Prod.fst).Nodup → ((acc ++ [((wrF t n (sk t n p)).1, (cpF t n (wrF t n (sk t n p)).2).1)]).map Prod.fst).Nodup := by
            intro z
            rw [List.map_append, List.nodup_append]
            refine ⟨z, by simp, ?_⟩
            intro a ha b hb
            rw [List.map_singleton, List.mem_singleton] at hb
            rw [hb]; intro e; rw [e] at ha; exact hg2 ha
          split
          · exact ⟨by dsimp only; omega, by dsimp only; omega, by dsimp only; rw [List.length_append, List.length_singleton]; omega, by dsimp only; rw [List.length_append]; omega, hmem, hnd⟩
          · split
            · have := ih (acc ++ [((wrF t n (sk t n p)).1, (cpF t n (wrF t n (sk t n p)).2).1)]) (sk t n (cpF t n (wrF t n (sk t n p)).2).2 + 1) (by omega) (by omega)
              obtain ⟨a1, a2, a3, a4, a5, a6⟩ := this
              rw [List.length_append, List.length_singleton] at a3 a4
              exact ⟨by omega, a2, by omega, by omega, fun z => a5 (hmem z), fun z => a6 (hnd z)⟩
            · exact ⟨by dsimp only; omega, by dsimp only; omega, by dsimp only; rw [List.length_append, List.length_singleton]; omega, by dsimp only; rw [List.length_append]; omega, hmem, hnd⟩
  intro k acc p h0 h1
  obtain ⟨a1, a2, a3, a4, a5, a6⟩ := key k acc p h0 h1
  refine ⟨a1, a2, a3, a4, ?_, a5, a6⟩
  have hq := sk_r (t := t) h1
  have hw := wrF_r h (q := sk t n p) (by omega) (by omega)
  have hc := cpF_r h (p := (wrF t n (sk t n p)).2) (by omega) (by omega)
  have hs := sk_r (t := t) (n := n) (i := (cpF t n (wrF t n (sk t n p)).2).2) (by omega)
  have hd := chr_r h (i := sk t n (cpF t n (wrF t n (sk t n p)).2).2) (by omega)
  rw [rdF]
  split
  · intro z; cases z
  · split
    · intro z; cases z
    · split
      · intro _; dsimp only; rw [List.length_append, List.length_singleton]; omega
      · split
        · intro _
          have := (key k (acc ++ [((wrF t n (sk t n p)).1, (cpF t n (wrF t n (sk t n p)).2).1)]) (sk t n (cpF t n (wrF t n (sk t n p)).2).2 + 1) (by omega) (by omega)).2.2.2.1
          rw [List.length_append, List.length_singleton] at this; omega
        · intro _; dsimp only; rw [List.length_append, List.length_singleton]; omega
