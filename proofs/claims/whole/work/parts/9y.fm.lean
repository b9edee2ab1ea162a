/-- what a text's slots are -/
def slQ (l : List (List (Int × Int))) : Prop := ∀ a ∈ l, (∀ q ∈ a, 0 ≤ q.1 ∧ q.1 ≤ 31 ∧ 0 ≤ q.2 ∧ q.2 ≤ 9) ∧ (a.map Prod.fst).Nodup
theorem slQ_rd {t : Int → Int} {n : Int} (h : TW t n) {l : List (List (Int × Int))} (hl : slQ l) {p : Int} (p0 : 0 ≤ p ∧ p ≤ n) : slQ (l ++ [(rdF t n 4 [] p).2.1]) := by
  have x := rdF_r h 4 [] p p0.1 p0.2
  intro a ha
  rcases List.mem_append.mp ha with ha | ha
  · exact hl a ha
  · rw [List.mem_singleton.mp ha]
    exact ⟨x.2.2.2.2.2.1 (fun q hq => absurd hq (by simp)), x.2.2.2.2.2.2 (by simp)⟩
theorem slQ_wd {t : Int → Int} {n : Int} (h : TW t n) (k : Nat) : ∀ (l : List (List (Int × Int))) (p : Int), slQ l → (0 ≤ p ∧ p ≤ n) → slQ (wdF t n k l p).2.1 := by
  induction k with
  | zero => intro l p hl p0; exact hl
  | succ k ih =>
    intro l p hl p0
    have x := rdF_r h 4 [] p p0.1 p0.2
    have y := slQ_rd h hl p0
    rw [wdF]
    by_cases a : (rdF t n 4 [] p).1 = false
    · rw [if_pos a]; exact hl
    · rw [if_neg a]
      by_cases b : k = 0
      · rw [if_pos b]; exact y
      · rw [if_neg b]
        by_cases c : chr t n (sk t n (rdF t n 4 [] p).2.2) = 59
        · rw [if_pos c]
          have s := sk_r (t := t) (n := n) (i := (rdF t n 4 [] p).2.2) (by omega)
          have lt : sk t n (rdF t n 4 [] p).2.2 < n := by
            by_cases z : sk t n (rdF t n 4 [] p).2.2 < n
            · exact z
            · unfold chr at c; rw [if_neg z] at c; exact absurd c (by decide)
          exact ih _ _ y (by omega)
        · rw [if_neg c]; exact y
theorem slQ_tx {t : Int → Int} {n : Int} (h : TW t n) : slQ (txF t n).2 := by
  have hn := h.1
  have s := sk_r (t := t) (n := n) (i := 0) (by omega)
  have e : slQ [] := fun a ha => absurd ha (by simp)
  unfold txF
  by_cases a : chr t n (sk t n 0) = 0
  · rw [if_pos a]; exact e
  · rw [if_neg a]
    by_cases b : (wdF t n 8 [] (sk t n 0)).1 = false ∨ chr t n (sk t n (wdF t n 8 [] (sk t n 0)).2.2) ≠ 0
    · rw [if_pos b]; exact e
    · rw [if_neg b]; exact slQ_wd h 8 [] _ e s
