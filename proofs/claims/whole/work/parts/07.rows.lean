section ZS
variable {g : G} {x : Cx} {own : String} {cc : ByteArray} {nL dp pc : Nat} {L L' : List (Nat × Value)} {S : List Value} {σ : Sg}
theorem z_goto (h : Ok g x own cc nL dp) {off : Int} (tgt : Nat) (d : decode cc pc = .ok (.goto off, 3)) (ht : (pc : Int) + off = (tgt : Int)) (k : Z g x nL tgt L S σ) : Z g x nL pc L S σ :=
  fun H locs ls hr hP hS hl => lv_goto h.1 h.2.1 d ht (k H locs ls hr hP hS hl)
theorem z_pop (h : Ok g x own cc nL dp) {v : Value} (d : decode cc pc = .ok (.pop, 1)) (hv : v.category = 1) (k : Z g x nL (pc + 1) L S σ) : Z g x nL pc L (v :: S) σ :=
  fun H locs ls hr hP hS hl => lv_pop h.1 h.2.1 d hv (k H locs ls hr hP hS hl)
theorem z_dup (h : Ok g x own cc nL dp) {v : Value} (d : decode cc pc = .ok (.dup, 1)) (hv : v.category = 1) (k : Z g x nL (pc + 1) L (v :: v :: S) σ) : Z g x nL pc L (v :: S) σ :=
  fun H locs ls hr hP hS hl => lv_dup h.1 h.2.1 d hv (k H locs ls hr hP hS hl)
theorem z_dup2 (h : Ok g x own cc nL dp) {v w : Value} (d : decode cc pc = .ok (.dup2, 1)) (hv : v.category = 1) (hw : w.category = 1) (k : Z g x nL (pc + 1) L (v :: w :: v :: w :: S) σ) : Z g x nL pc L (v :: w :: S) σ :=
  fun H locs ls hr hP hS hl => lv_dup2_11 h.1 h.2.1 d hv hw (k H locs ls hr hP hS hl)
theorem z_icmp_lt (h : Ok g x own cc nL dp) {a b off : Int} (tgt : Nat) (d : decode cc pc = .ok (.if_icmp .lt off, 3)) (ht : (pc : Int) + off = (tgt : Int)) (ra : -2147483648 ≤ a ∧ a ≤ 2147483647) (rb : -2147483648 ≤ b ∧ b ≤ 2147483647) (kt : a < b → Z g x nL tgt L S σ) (kf : b ≤ a → Z g x nL (pc + 3) L S σ) : Z g x nL pc L (vI b :: vI a :: S) σ :=
  fun H locs ls hr hP hS hl => lv_icmp_lt h.1 h.2.1 d ht (fun q => kt ((iI_lt ra rb).mp q) H locs ls hr hP hS hl) (fun q => kf (Int.not_lt.mp fun z => q ((iI_lt ra rb).mpr z)) H locs ls hr hP hS hl)
theorem z_icmp_ge (h : Ok g x own cc nL dp) {a b off : Int} (tgt : Nat) (d : decode cc pc = .ok (.if_icmp .ge off, 3)) (ht : (pc : Int) + off = (tgt : Int)) (ra : -2147483648 ≤ a ∧ a ≤ 2147483647) (rb : -2147483648 ≤ b ∧ b ≤ 2147483647) (kt : b ≤ a → Z g x nL tgt L S σ) (kf : a < b → Z g x nL (pc + 3) L S σ) : Z g x nL pc L (vI b :: vI a :: S) σ :=
  fun H locs ls hr hP hS hl => lv_icmp_ge h.1 h.2.1 d ht (fun q => kt ((iI_le rb ra).mp q) H locs ls hr hP hS hl) (fun q => kf (Int.not_le.mp fun z => q ((iI_le rb ra).mpr z)) H locs ls hr hP hS hl)
theorem z_icmp_gt (h : Ok g x own cc nL dp) {a b off : Int} (tgt : Nat) (d : decode cc pc = .ok (.if_icmp .gt off, 3)) (ht : (pc : Int) + off = (tgt : Int)) (ra : -2147483648 ≤ a ∧ a ≤ 2147483647) (rb : -2147483648 ≤ b ∧ b ≤ 2147483647) (kt : b < a → Z g x nL tgt L S σ) (kf : a ≤ b → Z g x nL (pc + 3) L S σ) : Z g x nL pc L (vI b :: vI a :: S) σ :=
  fun H locs ls hr hP hS hl => lv_icmp_gt h.1 h.2.1 d ht (fun q => kt ((iI_lt rb ra).mp q) H locs ls hr hP hS hl) (fun q => kf (Int.not_lt.mp fun z => q ((iI_lt rb ra).mpr z)) H locs ls hr hP hS hl)
theorem z_icmp_le (h : Ok g x own cc nL dp) {a b off : Int} (tgt : Nat) (d : decode cc pc = .ok (.if_icmp .le off, 3)) (ht : (pc : Int) + off = (tgt : Int)) (ra : -2147483648 ≤ a ∧ a ≤ 2147483647) (rb : -2147483648 ≤ b ∧ b ≤ 2147483647) (kt : a ≤ b → Z g x nL tgt L S σ) (kf : b < a → Z g x nL (pc + 3) L S σ) : Z g x nL pc L (vI b :: vI a :: S) σ :=
  fun H locs ls hr hP hS hl => lv_icmp_le h.1 h.2.1 d ht (fun q => kt ((iI_le ra rb).mp q) H locs ls hr hP hS hl) (fun q => kf (Int.not_le.mp fun z => q ((iI_le ra rb).mpr z)) H locs ls hr hP hS hl)
theorem z_icmp_eq (h : Ok g x own cc nL dp) {a b off : Int} (tgt : Nat) (d : decode cc pc = .ok (.if_icmp .eq off, 3)) (ht : (pc : Int) + off = (tgt : Int)) (ra : -2147483648 ≤ a ∧ a ≤ 2147483647) (rb : -2147483648 ≤ b ∧ b ≤ 2147483647) (kt : a = b → Z g x nL tgt L S σ) (kf : a ≠ b → Z g x nL (pc + 3) L S σ) : Z g x nL pc L (vI b :: vI a :: S) σ :=
  fun H locs ls hr hP hS hl => lv_icmp_eq h.1 h.2.1 d ht (fun q => kt ((iI_eq ra rb).mp q) H locs ls hr hP hS hl) (fun q => kf (fun z => q ((iI_eq ra rb).mpr z)) H locs ls hr hP hS hl)
theorem z_icmp_ne (h : Ok g x own cc nL dp) {a b off : Int} (tgt : Nat) (d : decode cc pc = .ok (.if_icmp .ne off, 3)) (ht : (pc : Int) + off = (tgt : Int)) (ra : -2147483648 ≤ a ∧ a ≤ 2147483647) (rb : -2147483648 ≤ b ∧ b ≤ 2147483647) (kt : a ≠ b → Z g x nL tgt L S σ) (kf : a = b → Z g x nL (pc + 3) L S σ) : Z g x nL pc L (vI b :: vI a :: S) σ :=
  fun H locs ls hr hP hS hl => lv_icmp_ne h.1 h.2.1 d ht (fun q => kt (fun z => q ((iI_eq ra rb).mpr z)) H locs ls hr hP hS hl) (fun q => kf ((iI_eq ra rb).mp q) H locs ls hr hP hS hl)
theorem iI_0 : Int32.ofInt 0 = 0 := by decide
theorem r0 : (-2147483648 : Int) ≤ 0 ∧ (0 : Int) ≤ 2147483647 := by decide
theorem iI_lt0 {a : Int} (ra : -2147483648 ≤ a ∧ a ≤ 2147483647) : Int32.ofInt a < 0 ↔ a < 0 := by rw [← iI_0]; exact iI_lt ra r0
theorem iI_gt0 {a : Int} (ra : -2147483648 ≤ a ∧ a ≤ 2147483647) : 0 < Int32.ofInt a ↔ 0 < a := by rw [← iI_0]; exact iI_lt r0 ra
theorem iI_le0 {a : Int} (ra : -2147483648 ≤ a ∧ a ≤ 2147483647) : Int32.ofInt a ≤ 0 ↔ a ≤ 0 := by rw [← iI_0]; exact iI_le ra r0
theorem iI_ge0 {a : Int} (ra : -2147483648 ≤ a ∧ a ≤ 2147483647) : 0 ≤ Int32.ofInt a ↔ 0 ≤ a := by rw [← iI_0]; exact iI_le r0 ra
theorem iI_eq0 {a : Int} (ra : -2147483648 ≤ a ∧ a ≤ 2147483647) : Int32.ofInt a = 0 ↔ a = 0 := by rw [← iI_0]; exact iI_eq ra r0
theorem z_if_eq (h : Ok g x own cc nL dp) {a off : Int} (tgt : Nat) (d : decode cc pc = .ok (.ifCond .eq off, 3)) (ht : (pc : Int) + off = (tgt : Int)) (ra : -2147483648 ≤ a ∧ a ≤ 2147483647) (kt : a = 0 → Z g x nL tgt L S σ) (kf : a ≠ 0 → Z g x nL (pc + 3) L S σ) : Z g x nL pc L (vI a :: S) σ :=
  fun H locs ls hr hP hS hl => lv_if_eq h.1 h.2.1 d ht (fun q => kt ((iI_eq0 ra).mp q) H locs ls hr hP hS hl) (fun q => kf (fun z => q ((iI_eq0 ra).mpr z)) H locs ls hr hP hS hl)
theorem z_if_ne (h : Ok g x own cc nL dp) {a off : Int} (tgt : Nat) (d : decode cc pc = .ok (.ifCond .ne off, 3)) (ht : (pc : Int) + off = (tgt : Int)) (ra : -2147483648 ≤ a ∧ a ≤ 2147483647) (kt : a ≠ 0 → Z g x nL tgt L S σ) (kf : a = 0 → Z g x nL (pc + 3) L S σ) : Z g x nL pc L (vI a :: S) σ :=
  fun H locs ls hr hP hS hl => lv_if_ne h.1 h.2.1 d ht (fun q => kt (fun z => q ((iI_eq0 ra).mpr z)) H locs ls hr hP hS hl) (fun q => kf ((iI_eq0 ra).mp q) H locs ls hr hP hS hl)
theorem z_if_lt (h : Ok g x own cc nL dp) {a off : Int} (tgt : Nat) (d : decode cc pc = .ok (.ifCond .lt off, 3)) (ht : (pc : Int) + off = (tgt : Int)) (ra : -2147483648 ≤ a ∧ a ≤ 2147483647) (kt : a < 0 → Z g x nL tgt L S σ) (kf : 0 ≤ a → Z g x nL (pc + 3) L S σ) : Z g x nL pc L (vI a :: S) σ :=
  fun H locs ls hr hP hS hl => lv_if_lt h.1 h.2.1 d ht (fun q => kt ((iI_lt0 ra).mp q) H locs ls hr hP hS hl) (fun q => kf (Int.not_lt.mp fun z => q ((iI_lt0 ra).mpr z)) H locs ls hr hP hS hl)
theorem z_if_ge (h : Ok g x own cc nL dp) {a off : Int} (tgt : Nat) (d : decode cc pc = .ok (.ifCond .ge off, 3)) (ht : (pc : Int) + off = (tgt : Int)) (ra : -2147483648 ≤ a ∧ a ≤ 2147483647) (kt : 0 ≤ a → Z g x nL tgt L S σ) (kf : a < 0 → Z g x nL (pc + 3) L S σ) : Z g x nL pc L (vI a :: S) σ :=
  fun H locs ls hr hP hS hl => lv_if_ge h.1 h.2.1 d ht (fun q => kt ((iI_ge0 ra).mp q) H locs ls hr hP hS hl) (fun q => kf (Int.not_le.mp fun z => q ((iI_ge0 ra).mpr z)) H locs ls hr hP hS hl)
theorem z_if_gt (h : Ok g x own cc nL dp) {a off : Int} (tgt : Nat) (d : decode cc pc = .ok (.ifCond .gt off, 3)) (ht : (pc : Int) + off = (tgt : Int)) (ra : -2147483648 ≤ a ∧ a ≤ 2147483647) (kt : 0 < a → Z g x nL tgt L S σ) (kf : a ≤ 0 → Z g x nL (pc + 3) L S σ) : Z g x nL pc L (vI a :: S) σ :=
  fun H locs ls hr hP hS hl => lv_if_gt h.1 h.2.1 d ht (fun q => kt ((iI_gt0 ra).mp q) H locs ls hr hP hS hl) (fun q => kf (Int.not_lt.mp fun z => q ((iI_gt0 ra).mpr z)) H locs ls hr hP hS hl)
theorem z_if_le (h : Ok g x own cc nL dp) {a off : Int} (tgt : Nat) (d : decode cc pc = .ok (.ifCond .le off, 3)) (ht : (pc : Int) + off = (tgt : Int)) (ra : -2147483648 ≤ a ∧ a ≤ 2147483647) (kt : a ≤ 0 → Z g x nL tgt L S σ) (kf : 0 < a → Z g x nL (pc + 3) L S σ) : Z g x nL pc L (vI a :: S) σ :=
  fun H locs ls hr hP hS hl => lv_if_le h.1 h.2.1 d ht (fun q => kt ((iI_le0 ra).mp q) H locs ls hr hP hS hl) (fun q => kf (Int.not_le.mp fun z => q ((iI_le0 ra).mpr z)) H locs ls hr hP hS hl)
/-- two longs compared: 1, 0, -1 -/
def lcm (a b : Int) : Int := if b < a then 1 else if a = b then 0 else -1
theorem z_lcmp (h : Ok g x own cc nL dp) {a b : Int} (d : decode cc pc = .ok (.lcmp, 1)) (ra : -9223372036854775808 ≤ a ∧ a ≤ 9223372036854775807) (rb : -9223372036854775808 ≤ b ∧ b ≤ 9223372036854775807) (k1 : b < a → Z g x nL (pc + 1) L (vI 1 :: S) σ) (k2 : a = b → Z g x nL (pc + 1) L (vI 0 :: S) σ) (k3 : a < b → Z g x nL (pc + 1) L (vI (-1) :: S) σ) : Z g x nL pc L (vL b :: vL a :: S) σ := by
  intro H locs ls hr hP hS hl
  refine W.lcmp h.1 h.2.1 d ?_
  unfold lg_cmp
  by_cases h1 : b < a
  · rw [if_pos ((iL_lt rb ra).mpr h1)]; exact k1 h1 H locs ls hr hP hS hl
  · rw [if_neg (fun q => h1 ((iL_lt rb ra).mp q))]
    by_cases h2 : a = b
    · rw [if_pos ((iL_eq ra rb).mpr h2)]; exact k2 h2 H locs ls hr hP hS hl
    · rw [if_neg (fun q => h2 ((iL_eq ra rb).mp q))]; exact k3 (by omega) H locs ls hr hP hS hl
theorem iI_div {a b : Int} (ha : 0 ≤ a) (ra : a ≤ 2147483647) (hb : 0 < b) (rb : b ≤ 2147483647) : Int32.ofInt a / Int32.ofInt b = Int32.ofInt (a / b) := by
  have hq : 0 ≤ a / b := Int.ediv_nonneg ha (Int.le_of_lt hb)
  have hq2 : a / b ≤ a := Int.ediv_le_self b ha
  rw [← Int32.toInt_inj, iI_toInt ⟨by omega, by omega⟩, Int32.toInt_div_of_ne_right, iI_toInt ⟨by omega, by omega⟩, iI_toInt ⟨by omega, by omega⟩, Int.tdiv_eq_ediv_of_nonneg ha]
  intro q
  have := congrArg Int32.toInt q
  rw [iI_toInt ⟨by omega, by omega⟩] at this
  have e : (-1 : Int32).toInt = -1 := by decide
  rw [e] at this
  omega
theorem iL_div {a b : Int} (ha : 0 ≤ a) (ra : a ≤ 9223372036854775807) (hb : 0 < b) (rb : b ≤ 9223372036854775807) : Int64.ofInt a / Int64.ofInt b = Int64.ofInt (a / b) := by
  have hq : 0 ≤ a / b := Int.ediv_nonneg ha (Int.le_of_lt hb)
  have hq2 : a / b ≤ a := Int.ediv_le_self b ha
  rw [← Int64.toInt_inj, iL_toInt ⟨by omega, by omega⟩, Int64.toInt_div_of_ne_right, iL_toInt ⟨by omega, by omega⟩, iL_toInt ⟨by omega, by omega⟩, Int.tdiv_eq_ediv_of_nonneg ha]
  intro q
  have := congrArg Int64.toInt q
  rw [iL_toInt ⟨by omega, by omega⟩] at this
  have e : (-1 : Int64).toInt = -1 := by decide
  rw [e] at this
  omega
theorem z_idiv (h : Ok g x own cc nL dp) {a b : Int} (d : decode cc pc = .ok (.idiv, 1)) (ha : 0 ≤ a ∧ a ≤ 2147483647) (hb : 0 < b ∧ b ≤ 2147483647) (k : Z g x nL (pc + 1) L (vI (a / b) :: S) σ) : Z g x nL pc L (vI b :: vI a :: S) σ :=
  fun H locs ls hr hP hS hl => lv_idiv h.1 h.2.1 d (fun q => by have := (iI_eq0 ⟨by omega, hb.2⟩).mp q; omega) (by rw [iI_div ha.1 ha.2 hb.1 hb.2]; exact k H locs ls hr hP hS hl)
theorem z_irem (h : Ok g x own cc nL dp) {a b : Int} (d : decode cc pc = .ok (.irem, 1)) (ha : 0 ≤ a ∧ a ≤ 2147483647) (hb : 0 < b ∧ b ≤ 2147483647) (k : Z g x nL (pc + 1) L (vI (a % b) :: S) σ) : Z g x nL pc L (vI b :: vI a :: S) σ :=
  fun H locs ls hr hP hS hl => lv_irem h.1 h.2.1 d (fun q => by have := (iI_eq0 ⟨by omega, hb.2⟩).mp q; omega) (by
    rw [iI_div ha.1 ha.2 hb.1 hb.2, ← Int32.ofInt_mul, ← Int32.ofInt_sub, show a - a / b * b = a % b by rw [Int.emod_def, Int.mul_comm]]; exact k H locs ls hr hP hS hl)
theorem iL_0 : Int64.ofInt 0 = 0 := by decide
theorem z_ldiv (h : Ok g x own cc nL dp) {a b : Int} (d : decode cc pc = .ok (.ldiv, 1)) (ha : 0 ≤ a ∧ a ≤ 9223372036854775807) (hb : 0 < b ∧ b ≤ 9223372036854775807) (k : Z g x nL (pc + 1) L (vL (a / b) :: S) σ) : Z g x nL pc L (vL b :: vL a :: S) σ :=
  fun H locs ls hr hP hS hl => lv_ldiv h.1 h.2.1 d (fun q => by rw [← iL_0] at q; have := (iL_eq ⟨by omega, hb.2⟩ (by decide)).mp q; omega) (by rw [iL_div ha.1 ha.2 hb.1 hb.2]; exact k H locs ls hr hP hS hl)
theorem z_lrem (h : Ok g x own cc nL dp) {a b : Int} (d : decode cc pc = .ok (.lrem, 1)) (ha : 0 ≤ a ∧ a ≤ 9223372036854775807) (hb : 0 < b ∧ b ≤ 9223372036854775807) (k : Z g x nL (pc + 1) L (vL (a % b) :: S) σ) : Z g x nL pc L (vL b :: vL a :: S) σ :=
  fun H locs ls hr hP hS hl => lv_lrem h.1 h.2.1 d (fun q => by rw [← iL_0] at q; have := (iL_eq ⟨by omega, hb.2⟩ (by decide)).mp q; omega) (by
    rw [iL_div ha.1 ha.2 hb.1 hb.2, ← Int64.ofInt_mul, ← Int64.ofInt_sub, show a - a / b * b = a % b by rw [Int.emod_def, Int.mul_comm]]; exact k H locs ls hr hP hS hl)
theorem z_i2l (h : Ok g x own cc nL dp) {a : Int} (d : decode cc pc = .ok (.i2l, 1)) (ra : -2147483648 ≤ a ∧ a ≤ 2147483647) (k : Z g x nL (pc + 1) L (vL a :: S) σ) : Z g x nL pc L (vI a :: S) σ :=
  fun H locs ls hr hP hS hl => lv_i2l h.1 h.2.1 d (by rw [← Int64.toInt_inj, Int32.toInt_toInt64, iI_toInt ra, iL_toInt ⟨by omega, by omega⟩]) (k H locs ls hr hP hS hl)
theorem z_l2i (h : Ok g x own cc nL dp) {a : Int} (d : decode cc pc = .ok (.l2i, 1)) (k : Z g x nL (pc + 1) L (vI a :: S) σ) : Z g x nL pc L (vL a :: S) σ :=
  fun H locs ls hr hP hS hl => lv_l2i h.1 h.2.1 d (by rw [Int64.toInt32_ofInt]) (k H locs ls hr hP hS hl)
theorem z_i2b (h : Ok g x own cc nL dp) {a : Int} (r : Int) (d : decode cc pc = .ok (.i2b, 1)) (hv : (Int32.ofInt a).toInt8.toInt32 = Int32.ofInt r) (k : Z g x nL (pc + 1) L (vI r :: S) σ) : Z g x nL pc L (vI a :: S) σ :=
  fun H locs ls hr hP hS hl => lv_i2b h.1 h.2.1 d hv (k H locs ls hr hP hS hl)
theorem z_i2s (h : Ok g x own cc nL dp) {a : Int} (r : Int) (d : decode cc pc = .ok (.i2s, 1)) (hv : (Int32.ofInt a).toInt16.toInt32 = Int32.ofInt r) (k : Z g x nL (pc + 1) L (vI r :: S) σ) : Z g x nL pc L (vI a :: S) σ :=
  fun H locs ls hr hP hS hl => lv_i2s h.1 h.2.1 d hv (k H locs ls hr hP hS hl)
theorem z_iand (h : Ok g x own cc nL dp) {a b : Int} (r : Int) (d : decode cc pc = .ok (.iand, 1)) (hv : Int32.ofInt a &&& Int32.ofInt b = Int32.ofInt r) (k : Z g x nL (pc + 1) L (vI r :: S) σ) : Z g x nL pc L (vI b :: vI a :: S) σ :=
  fun H locs ls hr hP hS hl => lv_iand h.1 h.2.1 d (by rw [hv]; exact k H locs ls hr hP hS hl)
theorem z_ior (h : Ok g x own cc nL dp) {a b : Int} (r : Int) (d : decode cc pc = .ok (.ior, 1)) (hv : Int32.ofInt a ||| Int32.ofInt b = Int32.ofInt r) (k : Z g x nL (pc + 1) L (vI r :: S) σ) : Z g x nL pc L (vI b :: vI a :: S) σ :=
  fun H locs ls hr hP hS hl => lv_ior h.1 h.2.1 d (by rw [hv]; exact k H locs ls hr hP hS hl)
theorem z_ixor (h : Ok g x own cc nL dp) {a b : Int} (r : Int) (d : decode cc pc = .ok (.ixor, 1)) (hv : Int32.ofInt a ^^^ Int32.ofInt b = Int32.ofInt r) (k : Z g x nL (pc + 1) L (vI r :: S) σ) : Z g x nL pc L (vI b :: vI a :: S) σ :=
  fun H locs ls hr hP hS hl => lv_ixor h.1 h.2.1 d (by rw [hv]; exact k H locs ls hr hP hS hl)
theorem z_ishl (h : Ok g x own cc nL dp) {a b : Int} (r : Int) (d : decode cc pc = .ok (.ishl, 1)) (hv : Int32.ofInt a <<< (Int32.ofInt b &&& 31) = Int32.ofInt r) (k : Z g x nL (pc + 1) L (vI r :: S) σ) : Z g x nL pc L (vI b :: vI a :: S) σ :=
  fun H locs ls hr hP hS hl => lv_ishl h.1 h.2.1 d (by rw [hv]; exact k H locs ls hr hP hS hl)
theorem z_land (h : Ok g x own cc nL dp) {a b : Int} (r : Int) (d : decode cc pc = .ok (.land, 1)) (hv : Int64.ofInt a &&& Int64.ofInt b = Int64.ofInt r) (k : Z g x nL (pc + 1) L (vL r :: S) σ) : Z g x nL pc L (vL b :: vL a :: S) σ :=
  fun H locs ls hr hP hS hl => lv_land h.1 h.2.1 d (by rw [hv]; exact k H locs ls hr hP hS hl)
theorem z_lor (h : Ok g x own cc nL dp) {a b : Int} (r : Int) (d : decode cc pc = .ok (.lor, 1)) (hv : Int64.ofInt a ||| Int64.ofInt b = Int64.ofInt r) (k : Z g x nL (pc + 1) L (vL r :: S) σ) : Z g x nL pc L (vL b :: vL a :: S) σ :=
  fun H locs ls hr hP hS hl => lv_lor h.1 h.2.1 d (by rw [hv]; exact k H locs ls hr hP hS hl)
theorem z_lxor (h : Ok g x own cc nL dp) {a b : Int} (r : Int) (d : decode cc pc = .ok (.lxor, 1)) (hv : Int64.ofInt a ^^^ Int64.ofInt b = Int64.ofInt r) (k : Z g x nL (pc + 1) L (vL r :: S) σ) : Z g x nL pc L (vL b :: vL a :: S) σ :=
  fun H locs ls hr hP hS hl => lv_lxor h.1 h.2.1 d (by rw [hv]; exact k H locs ls hr hP hS hl)
theorem z_lshl (h : Ok g x own cc nL dp) {a b : Int} (r : Int) (d : decode cc pc = .ok (.lshl, 1)) (hv : Int64.ofInt a <<< ((Int32.ofInt b).toInt64 &&& 63) = Int64.ofInt r) (k : Z g x nL (pc + 1) L (vL r :: S) σ) : Z g x nL pc L (vI b :: vL a :: S) σ :=
  fun H locs ls hr hP hS hl => lv_lshl h.1 h.2.1 d hv (k H locs ls hr hP hS hl)
theorem z_lshr (h : Ok g x own cc nL dp) {a b : Int} (r : Int) (d : decode cc pc = .ok (.lshr, 1)) (hv : Int64.ofInt a >>> ((Int32.ofInt b).toInt64 &&& 63) = Int64.ofInt r) (k : Z g x nL (pc + 1) L (vL r :: S) σ) : Z g x nL pc L (vI b :: vL a :: S) σ :=
  fun H locs ls hr hP hS hl => lv_lshr h.1 h.2.1 d hv (k H locs ls hr hP hS hl)
theorem z_lushr (h : Ok g x own cc nL dp) {a b : Int} (r : Int) (d : decode cc pc = .ok (.lushr, 1)) (hv : ((Int64.ofInt a).toUInt64 >>> ((Int32.ofInt b).toInt64.toUInt64 &&& Int64.toUInt64 63)).toInt64 = Int64.ofInt r) (k : Z g x nL (pc + 1) L (vL r :: S) σ) : Z g x nL pc L (vI b :: vL a :: S) σ :=
  fun H locs ls hr hP hS hl => lv_lushr h.1 h.2.1 d hv (k H locs ls hr hP hS hl)
theorem z_i2c (h : Ok g x own cc nL dp) {a : Int} (d : decode cc pc = .ok (.i2c, 1)) (ra : 0 ≤ a ∧ a < 65536) (k : Z g x nL (pc + 1) L (vI a :: S) σ) : Z g x nL pc L (vI a :: S) σ := by
  intro H locs ls hr hP hS hl
  refine lv_i2c h.1 h.2.1 d (v := Int32.ofInt a) ?_ (k H locs ls hr hP hS hl)
  obtain ⟨n, rfl⟩ : ∃ n : Nat, a = n := ⟨a.toNat, by omega⟩
  have := pk_char (nI n)
  rw [show Int32.ofInt (n : Int) = nI n from rfl, this, pk_tn (by omega), Nat.mod_eq_of_lt (by omega)]
theorem z_tswOut (h : Ok g x own cc nL dp) {a dflt lo hi : Int} {offs : Array Int} {len : Nat} (tgt : Nat) (d : decode cc pc = .ok (.tableswitch dflt lo hi offs, len)) (ra : -2147483648 ≤ a ∧ a ≤ 2147483647) (ho : a < lo ∨ hi < a) (ht : (pc : Int) + dflt = (tgt : Int)) (k : Z g x nL tgt L S σ) : Z g x nL pc L (vI a :: S) σ :=
  fun H locs ls hr hP hS hl => lv_tableOut h.1 h.2.1 d (by rw [iI_toInt ra]; exact ho) ht (k H locs ls hr hP hS hl)
theorem z_tswIn (h : Ok g x own cc nL dp) {a dflt lo hi off : Int} {offs : Array Int} {len : Nat} (tgt : Nat) (d : decode cc pc = .ok (.tableswitch dflt lo hi offs, len)) (ra : -2147483648 ≤ a ∧ a ≤ 2147483647) (h1 : lo ≤ a) (h2 : a ≤ hi) (ho : offs[(a - lo).toNat]? = some off) (ht : (pc : Int) + off = (tgt : Int)) (k : Z g x nL tgt L S σ) : Z g x nL pc L (vI a :: S) σ :=
  fun H locs ls hr hP hS hl => lv_tableIn h.1 h.2.1 d (by rw [iI_toInt ra]; omega) (by rw [iI_toInt ra]; omega) (by rw [iI_toInt ra]; exact ho) ht (k H locs ls hr hP hS hl)
theorem z_lsw (h : Ok g x own cc nL dp) {a dflt off : Int} {ps : Array (Int × Int)} {len : Nat} (tgt : Nat) (d : decode cc pc = .ok (.lookupswitch dflt ps, len)) (hp : (ps.toList.zip (ps.toList.drop 1)).all (fun (a, next) => a.1 < next.1) = true) (ra : -2147483648 ≤ a ∧ a ≤ 2147483647) (ho : Op.lookupswitch.offset ps.toList dflt a = off) (ht : (pc : Int) + off = (tgt : Int)) (k : Z g x nL tgt L S σ) : Z g x nL pc L (vI a :: S) σ :=
  fun H locs ls hr hP hS hl => lv_lookup h.1 h.2.1 d hp (by rw [iI_toInt ra]; exact ho) ht (k H locs ls hr hP hS hl)
end ZS
