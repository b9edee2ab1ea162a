/-- how many of the first m bits are set -/
def cntB (s : Nat) : Nat → Nat
  | 0 => 0
  | t + 1 => cntB s t + s / 2 ^ t % 2
theorem cntB_s (s t : Nat) : cntB s (t + 1) = cntB s t + s / 2 ^ t % 2 := rfl
theorem cntB_8 (s m : Nat) : cntB s (m + 8) = bcy (s % 256) + cntB (s / 256) m := by
  induction m with
  | zero =>
    rw [show (0 : Nat) + 8 = 0 + 1 + 1 + 1 + 1 + 1 + 1 + 1 + 1 from rfl, cntB_s, cntB_s, cntB_s, cntB_s, cntB_s, cntB_s, cntB_s, cntB_s]
    unfold bcy cntB; simp only [Nat.zero_add, Nat.reduceAdd, Nat.reducePow, Nat.div_one, Nat.add_zero]; omega
  | succ m ih =>
    rw [show m + 1 + 8 = (m + 8) + 1 by omega, cntB_s, ih, cntB_s, Nat.div_div_eq_div_mul, show 256 * 2 ^ m = 2 ^ (m + 8) by rw [Nat.pow_add]; omega]
    omega
