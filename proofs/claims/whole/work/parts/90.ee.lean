/-! ===== how many bits are set ===== -/
theorem and_split {a c x y : Nat} (ha : a < 256) (hc : c < 256) : (a + 256 * x) &&& (c + 256 * y) = (a &&& c) + 256 * (x &&& y) := by
  have hac : a &&& c < 2 ^ 8 := Nat.and_lt_two_pow _ (show c < 2 ^ 8 from hc)
  rw [show a + 256 * x = 2 ^ 8 * x + a by omega, show c + 256 * y = 2 ^ 8 * y + c by omega, show (a &&& c) + 256 * (x &&& y) = 2 ^ 8 * (x &&& y) + (a &&& c) by omega]
  apply Nat.eq_of_testBit_eq
  intro j
  rw [Nat.testBit_and, Nat.testBit_two_pow_mul_add _ (show a < 2 ^ 8 from ha), Nat.testBit_two_pow_mul_add _ (show c < 2 ^ 8 from hc), Nat.testBit_two_pow_mul_add _ hac]
  by_cases h : j < 8
  · rw [if_pos h, if_pos h, if_pos h, Nat.testBit_and]
  · rw [if_neg h, if_neg h, if_neg h, Nat.testBit_and]
def rp (c : Nat) : Nat → Nat
  | 0 => 0
  | n + 1 => c + 256 * rp c n
theorem rp_s (c n : Nat) : rp c (n + 1) = c + 256 * rp c n := rfl
def bs1 (n x : Nat) : Nat := x - ((x / 2) &&& rp 85 n)
def bs2 (n x : Nat) : Nat := (x &&& rp 51 n) + ((x / 4) &&& rp 51 n)
def bs3 (n x : Nat) : Nat := (x + x / 16) &&& rp 15 n
def b1 (a : Nat) : Nat := a - ((a / 2) &&& 85)
def b2 (a : Nat) : Nat := (a &&& 51) + ((a / 4) &&& 51)
def b3 (a : Nat) : Nat := (a + a / 16) &&& 15
theorem bd_1 : ∀ a : Nat, a < 256 → ∀ c : Nat, c < 2 → (a / 2 + 128 * c) &&& 85 = (a / 2) &&& 85 := by decide +kernel
theorem bd_1b : ∀ a : Nat, a < 256 → (a / 2) &&& 85 ≤ a ∧ b1 a < 256 := by decide +kernel
theorem bd_2 : ∀ a : Nat, a < 256 → ∀ c : Nat, c < 4 → (a / 4 + 64 * c) &&& 51 = (a / 4) &&& 51 := by decide +kernel
theorem bd_2b : ∀ a : Nat, a < 256 → b2 (b1 a) ≤ 68 ∧ b2 (b1 a) % 16 ≤ 4 := by decide +kernel
theorem bd_3 : ∀ a : Nat, a < 69 → ∀ c : Nat, c < 5 → (a + a / 16 + 16 * c) &&& 15 = (a + a / 16) &&& 15 := by decide +kernel
theorem bd_3b : ∀ a : Nat, a < 256 → b3 (b2 (b1 a)) = a % 2 + a / 2 % 2 + a / 4 % 2 + a / 8 % 2 + a / 16 % 2 + a / 32 % 2 + a / 64 % 2 + a / 128 % 2 := by decide +kernel
theorem bs1_s {n a x : Nat} (ha : a < 256) : bs1 (n + 1) (a + 256 * x) = b1 a + 256 * bs1 n x := by
  have e : (a + 256 * x) / 2 = (a / 2 + 128 * (x % 2)) + 256 * (x / 2) := by omega
  have h1 := bd_1 a ha (x % 2) (by omega)
  have h2 := (bd_1b a ha).1
  have h3 : (x / 2) &&& rp 85 n ≤ x := Nat.le_trans Nat.and_le_left (Nat.div_le_self x 2)
  unfold bs1 b1
  rw [e, rp_s, and_split (by omega) (by decide), h1]
  omega
theorem bs2_s {n b y : Nat} (hb : b < 256) : bs2 (n + 1) (b + 256 * y) = b2 b + 256 * bs2 n y := by
  have e : (b + 256 * y) / 4 = (b / 4 + 64 * (y % 4)) + 256 * (y / 4) := by omega
  have h1 := bd_2 b hb (y % 4) (by omega)
  unfold bs2 b2
  rw [e, rp_s, and_split hb (by decide), and_split (by omega) (by decide), h1]
  omega
theorem bs3_s {n d z : Nat} (hd : d < 69) (hz : z % 16 < 5) : bs3 (n + 1) (d + 256 * z) = b3 d + 256 * bs3 n z := by
  have e : d + 256 * z + (d + 256 * z) / 16 = (d + d / 16 + 16 * (z % 16)) + 256 * (z + z / 16) := by omega
  have h1 := bd_3 d hd (z % 16) hz
  unfold bs3 b3
  rw [e, rp_s, and_split (by omega) (by decide), h1]
/-- the sums of bits, byte by byte -/
def bcy (a : Nat) : Nat := a % 2 + a / 2 % 2 + a / 4 % 2 + a / 8 % 2 + a / 16 % 2 + a / 32 % 2 + a / 64 % 2 + a / 128 % 2
def bcV : Nat → Nat → Nat
  | 0, _ => 0
  | n + 1, x => bcy (x % 256) + 256 * bcV n (x / 256)
theorem bcV_s (n x : Nat) : bcV (n + 1) x = bcy (x % 256) + 256 * bcV n (x / 256) := rfl
theorem bs_low : ∀ n x : Nat, x < 256 ^ n → bs2 n (bs1 n x) % 16 < 5 := by
  intro n x h
  cases n with
  | zero => have : x = 0 := by rw [Nat.pow_zero] at h; omega
            subst this; decide
  | succ n =>
    have e : x = x % 256 + 256 * (x / 256) := by omega
    have hb := bd_1b (x % 256) (by omega)
    have hc := bd_2b (x % 256) (by omega)
    rw [e, bs1_s (by omega), bs2_s hb.2]; omega
theorem bs_all : ∀ n x : Nat, x < 256 ^ n → bs3 n (bs2 n (bs1 n x)) = bcV n x := by
  intro n
  induction n with
  | zero => intro x h
            have : x = 0 := by rw [Nat.pow_zero] at h; omega
            subst this; decide
  | succ n ih =>
    intro x h
    have e : x = x % 256 + 256 * (x / 256) := by omega
    have hx : x / 256 < 256 ^ n := by rw [Nat.pow_succ] at h; omega
    have hb := bd_1b (x % 256) (by omega)
    have hc := bd_2b (x % 256) (by omega)
    have hd := bd_3b (x % 256) (by omega)
    have hl := bs_low n (x / 256) hx
    rw [bcV_s]
    conv => lhs; rw [e]
    rw [bs1_s (by omega), bs2_s hb.2, bs3_s (by omega) hl, ih _ hx, hd]; rfl
def bc : Nat → Nat → Nat
  | 0, _ => 0
  | n + 1, x => bcy (x % 256) + bc n (x / 256)
theorem bcy_r {a : Nat} : bcy a ≤ 8 := by unfold bcy; omega
