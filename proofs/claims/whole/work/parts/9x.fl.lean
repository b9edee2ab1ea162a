/-! ===== a text tells the same where its signs are the same ===== -/
theorem tc_chr {t u : Int → Int} {n : Int} (h : ∀ i : Int, i < n → t i = u i) (i : Int) : chr t n i = chr u n i := by
  unfold chr; by_cases z : i < n
  · rw [if_pos z, if_pos z, h i z]
  · rw [if_neg z, if_neg z]
theorem tc_skN {t u : Int → Int} {n : Int} (h : ∀ i : Int, i < n → t i = u i) (k : Nat) : ∀ i : Int, skN t n k i = skN u n k i := by
  induction k with
  | zero => intro i; rfl
  | succ k ih =>
    intro i; rw [skN, skN]
    by_cases z : i < n
    · rw [h i z, ih]
    · rw [if_neg (fun a => z a.1), if_neg (fun a => z a.1)]
theorem tc_sk {t u : Int → Int} {n : Int} (h : ∀ i : Int, i < n → t i = u i) (i : Int) : sk t n i = sk u n i := tc_skN h _ i
theorem tc_wr {t u : Int → Int} {n : Int} (h : ∀ i : Int, i < n → t i = u i) (q : Int) : wrF t n q = wrF u n q := by
  unfold wrF; rw [tc_chr h q]
  by_cases z : 48 ≤ chr u n q ∧ chr u n q ≤ 57
  · rw [if_pos z, if_pos z]
    have hq : q < n := by
      by_cases y : q < n
      · exact y
      · unfold chr at z; rw [if_neg y] at z; omega
    rw [h q hq]
    by_cases y : q + 1 < n
    · rw [h _ y]
    · have e1 : ¬ (q + 1 < n ∧ 48 ≤ t (q + 1) ∧ t (q + 1) ≤ 57) := fun a => y a.1
      have e2 : ¬ (q + 1 < n ∧ 48 ≤ u (q + 1) ∧ u (q + 1) ≤ 57) := fun a => y a.1
      rw [if_neg e1, if_neg e2]
  · rw [if_neg z, if_neg z]
theorem tc_cp {t u : Int → Int} {n : Int} (h : ∀ i : Int, i < n → t i = u i) (p : Int) : cpF t n p = cpF u n p := by
  unfold cpF; simp only [tc_sk h, tc_chr h]
theorem tc_rd {t u : Int → Int} {n : Int} (h : ∀ i : Int, i < n → t i = u i) (k : Nat) : ∀ (acc : List (Int × Int)) (p : Int), rdF t n k acc p = rdF u n k acc p := by
  induction k with
  | zero => intro acc p; rfl
  | succ k ih => intro acc p; rw [rdF, rdF]; simp only [tc_sk h, tc_chr h, tc_wr h, tc_cp h, ih]
theorem tc_wd {t u : Int → Int} {n : Int} (h : ∀ i : Int, i < n → t i = u i) (k : Nat) : ∀ (acc : List (List (Int × Int))) (p : Int), wdF t n k acc p = wdF u n k acc p := by
  induction k with
  | zero => intro acc p; rfl
  | succ k ih => intro acc p; rw [wdF, wdF]; simp only [tc_sk h, tc_chr h, tc_rd h, ih]
theorem tc_tx {t u : Int → Int} {n : Int} (h : ∀ i : Int, i < n → t i = u i) : txF t n = txF u n := by
  unfold txF; simp only [tc_sk h, tc_chr h, tc_wd h]
