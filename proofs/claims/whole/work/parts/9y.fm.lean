/-- what a text's slots are -/
def slQ (l : List (List (Int × Int))) : Prop := ∀ a ∈ l, (∀ q ∈ a, 0 ≤ q.1 ∧ q.1 ≤ 31 ∧ 0 ≤ q.2 ∧ q.2 ≤ 9) ∧ (a.map Prod.fst).Nodup
theorem slQ_rd {t : Int → Int} {n : Int} (h : TW t n) {l : List (List (Int × Int))} (hl : slQ l) {p : Int} (p0 : 0 ≤ p ∧ p ≤ n) : slQ (l ++ [(rdF t n 4 [] p).2.1]) := by
  have x := rdF_r h 4 [] p p0.1 p0.2
  intro a ha
  rcases List.mem_append.mp ha with ha | ha
  · exact hl a ha
  · rw [List.mem_singleton.mp ha]
    exact ⟨x.2.2.2.2.2.1 (fun q hq => absurd hq (by simp)), x.2.2.2.2.2.2 (by simp)⟩
