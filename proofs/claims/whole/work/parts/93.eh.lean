theorem dv_1 {a y : Nat} (h : a < 256) : (a + 256 * y) / 256 = y := by omega
theorem dv_2 {a b y : Nat} (h : a < 256) (hb : b < 256) : (a + 256 * (b + 256 * y)) / 65536 = y := by omega
theorem dv_4 {a b c d y : Nat} (h : a < 256) (hb : b < 256) (hc : c < 256) (hd : d < 256) : (a + 256 * (b + 256 * (c + 256 * (d + 256 * y)))) / 4294967296 = y := by
  rw [show (4294967296 : Nat) = 65536 * 65536 from rfl, ← Nat.div_div_eq_div_mul, dv_2 h hb, dv_2 hc hd]
theorem dv_m {s z : Nat} (h : s < 128) : (s + 256 * z) % 128 = s := by omega
theorem ad_1 {p q x y : Nat} (h : x = q + 256 * y) : (p + 256 * x) + x = (p + q) + 256 * (x + y) := by omega
theorem ad_2 {p q x y x' y' : Nat} (h : x = p + 256 * y) (h' : x' = q + 256 * y') : x + x' = (p + q) + 256 * (y + y') := by omega
theorem bc_arith {D y0 y1 y2 y3 y4 y5 y6 p0 p1 p2 p3 p4 p5 p6 p7 : Nat} (h0 : p0 ≤ 8) (h1 : p1 ≤ 8) (h2 : p2 ≤ 8) (h3 : p3 ≤ 8) (h4 : p4 ≤ 8) (h5 : p5 ≤ 8) (h6 : p6 ≤ 8) (h7 : p7 ≤ 8) (eD : D = p0 + 256 * y0) (e0 : y0 = p1 + 256 * y1) (e1 : y1 = p2 + 256 * y2) (e2 : y2 = p3 + 256 * y3) (e3 : y3 = p4 + 256 * y4) (e4 : y4 = p5 + 256 * y5) (e5 : y5 = p6 + 256 * y6) (e6 : y6 = p7) : D / 256 = y0 ∧ (D + y0) / 65536 = y1 + y2 ∧ (D + y0 + (y1 + y2)) / 4294967296 = y3 + y4 + (y5 + y6) ∧ (D + y0 + (y1 + y2) + (y3 + y4 + (y5 + y6))) % 128 = p0 + p1 + p2 + p3 + p4 + p5 + p6 + p7 := by
  have a0 : D / 256 = y0 := by rw [eD]; exact dv_1 (by clear eD e0 e1 e2 e3 e4 e5 e6; omega)
  have b0 : D + y0 = (p0 + p1) + 256 * (y0 + y1) := by rw [eD]; exact ad_1 e0
  have b1 : y0 + y1 = (p1 + p2) + 256 * (y1 + y2) := ad_2 e0 e1
  have b2 : y1 + y2 = (p2 + p3) + 256 * (y2 + y3) := ad_2 e1 e2
  have b3 : y2 + y3 = (p3 + p4) + 256 * (y3 + y4) := ad_2 e2 e3
  have b4 : y3 + y4 = (p4 + p5) + 256 * (y4 + y5) := ad_2 e3 e4
  have b5 : y4 + y5 = (p5 + p6) + 256 * (y5 + y6) := ad_2 e4 e5
  have b6 : y5 + y6 = (p6 + p7) + 256 * (y6 + 0) := ad_2 e5 (by rw [e6]; exact (Nat.add_zero p7).symm)
  have c0 : D + y0 + (y1 + y2) = (p0 + p1 + (p2 + p3)) + 256 * ((y0 + y1) + (y2 + y3)) := ad_2 b0 b2
  have c1 : (y0 + y1) + (y2 + y3) = (p1 + p2 + (p3 + p4)) + 256 * ((y1 + y2) + (y3 + y4)) := ad_2 b1 b3
  have c2 : (y1 + y2) + (y3 + y4) = (p2 + p3 + (p4 + p5)) + 256 * ((y2 + y3) + (y4 + y5)) := ad_2 b2 b4
  have c3 : (y2 + y3) + (y4 + y5) = (p3 + p4 + (p5 + p6)) + 256 * ((y3 + y4) + (y5 + y6)) := ad_2 b3 b5
  have c4 : (y3 + y4) + (y5 + y6) = (p4 + p5 + (p6 + p7)) + 256 * ((y4 + y5) + (y6 + 0)) := ad_2 b4 b6
  have d0 := ad_2 c0 c4
  clear b4 b5 b6
  refine ⟨a0, ?_, ?_, ?_⟩
  · rw [b0, b1]; exact dv_2 (by clear eD e0 e1 e2 e3 e4 e5 e6 b0 b1 b2 b3 c0 c1 c2 c3 c4 d0 a0; omega) (by clear eD e0 e1 e2 e3 e4 e5 e6 b0 b1 b2 b3 c0 c1 c2 c3 c4 d0 a0; omega)
  · rw [c0, c1, c2, c3]; exact dv_4 (by clear eD e0 e1 e2 e3 e4 e5 e6 b0 b1 b2 b3 c0 c1 c2 c3 c4 d0 a0; omega) (by clear eD e0 e1 e2 e3 e4 e5 e6 b0 b1 b2 b3 c0 c1 c2 c3 c4 d0 a0; omega) (by clear eD e0 e1 e2 e3 e4 e5 e6 b0 b1 b2 b3 c0 c1 c2 c3 c4 d0 a0; omega) (by clear eD e0 e1 e2 e3 e4 e5 e6 b0 b1 b2 b3 c0 c1 c2 c3 c4 d0 a0; omega)
  · rw [d0, dv_m (by clear eD e0 e1 e2 e3 e4 e5 e6 b0 b1 b2 b3 c0 c1 c2 c3 c4 d0 a0; omega)]
    clear eD e0 e1 e2 e3 e4 e5 e6 b0 b1 b2 b3 c0 c1 c2 c3 c4 d0 a0; omega
theorem bc_up {p x y b : Nat} (h : x = p + 256 * y) (hp : p ≤ 8) (hy : y ≤ b) : x ≤ 8 + 256 * b := by omega
/-- the last steps of the count -/
theorem bc_sum (x : Nat) : ∃ y0 y12 y36 : Nat, bcV 8 x / 256 = y0 ∧ (bcV 8 x + y0) / 65536 = y12 ∧ (bcV 8 x + y0 + y12) / 4294967296 = y36 ∧ (bcV 8 x + y0 + y12 + y36) % 128 = bc 8 x ∧ bcV 8 x ≤ 578721382704613384 ∧ y0 ≤ 2260630401189896 ∧ y12 ≤ 9000000000000 ∧ y36 ≤ 200000000 := by
  have ev : bcV 8 x = bcy (x % 256) + 256 * bcV 7 (x / 256) := bcV_s 7 x
  have e0 := bcV_s 6 (x / 256)
  have e1 := bcV_s 5 (x / 256 / 256)
  have e2 := bcV_s 4 (x / 256 / 256 / 256)
  have e3 := bcV_s 3 (x / 256 / 256 / 256 / 256)
  have e4 := bcV_s 2 (x / 256 / 256 / 256 / 256 / 256)
  have e5 := bcV_s 1 (x / 256 / 256 / 256 / 256 / 256 / 256)
  have e6 : bcV 1 (x / 256 / 256 / 256 / 256 / 256 / 256 / 256) = bcy (x / 256 / 256 / 256 / 256 / 256 / 256 / 256 % 256) := by rw [bcV_s]; rfl
  have eb : bc 8 x = bcy (x % 256) + bcy (x / 256 % 256) + bcy (x / 256 / 256 % 256) + bcy (x / 256 / 256 / 256 % 256) + bcy (x / 256 / 256 / 256 / 256 % 256) + bcy (x / 256 / 256 / 256 / 256 / 256 % 256) + bcy (x / 256 / 256 / 256 / 256 / 256 / 256 % 256) + bcy (x / 256 / 256 / 256 / 256 / 256 / 256 / 256 % 256) := by simp only [bc, Nat.add_zero, Nat.add_assoc]
  have h := bc_arith bcy_r bcy_r bcy_r bcy_r bcy_r bcy_r bcy_r bcy_r ev e0 e1 e2 e3 e4 e5 e6
  have u6 : bcV 1 (x / 256 / 256 / 256 / 256 / 256 / 256 / 256) ≤ 8 := by rw [e6]; exact bcy_r
  have u5 := bc_up e5 bcy_r u6
  have u4 := bc_up e4 bcy_r u5
  have u3 := bc_up e3 bcy_r u4
  have u2 := bc_up e2 bcy_r u3
  have u1 := bc_up e1 bcy_r u2
  have u0 := bc_up e0 bcy_r u1
  have uD := bc_up ev bcy_r u0
  simp only [Nat.reduceAdd, Nat.reduceMul] at u0 u1 u2 u3 u4 u5 uD
  clear ev e0 e1 e2 e3 e4 e5 e6
  refine ⟨_, _, _, h.1, h.2.1, h.2.2.1, by rw [h.2.2.2, eb], uD, u0, ?_, ?_⟩
  · clear h eb u0 uD u3 u4 u5 u6; omega
  · clear h eb u0 uD u1 u2; omega
