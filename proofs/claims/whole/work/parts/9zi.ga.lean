/-! ===== the world behind the two constructors ===== -/
def sgH (k : Int) : Int := if k = 6 then 1 else 0
def sgS (k : Int) : Int := if k = 1 then -1 else 0
def sgC (t : Sh) (k : Int) : Int := if t.1 = 0 ∧ t.2.1 = 1 then sgH k else if t.1 = 0 ∧ t.2.1 = 4 then sgS k else 0
def sg0 : Sg := fun c k => if c = 113 then (if k = 32 then -1 else 0) else if c = 114 then (if k = 3 then 1 else 0) else if c = 130 then (if 0 ≤ k ∧ k < 4 then -1 else 0) else sgC (sh c) k
theorem sg0_c {c : Nat} (k : Int) (h : c ≠ 113 ∧ c ≠ 114 ∧ c ≠ 130) : sg0 c k = sgC (sh c) k := by
  unfold sg0; rw [if_neg h.1, if_neg h.2.1, if_neg h.2.2]
theorem sgC_r (t : Sh) (k : Int) : -1 ≤ sgC t k ∧ sgC t k ≤ 1 := by
  unfold sgC sgH sgS; (repeat' split) <;> omega
theorem sg0_r (c : Nat) (k : Int) : -1 ≤ sg0 c k ∧ sg0 c k ≤ 1 := by
  unfold sg0
  have := sgC_r (sh c) k
  (repeat' split) <;> omega
theorem Rn_sg0 : Rn sg0 := fun c k => by have := sg0_r c k; omega
theorem sg0_0 {c : Nat} {k : Int} (h : sh c = (0, 7, [3, 7, 15, 11, 49, 83, 85, 106, 0]) ∨ True) (e : sgC (sh c) k = 0) (h2 : c ≠ 113 ∧ c ≠ 114 ∧ c ≠ 130) : sg0 c k = 0 := by rw [sg0_c k h2, e]
theorem Rel_sg0 : Rel sg0 := by
  have z : ∀ (c : Nat) (k : Int), (c ≠ 113 ∧ c ≠ 114 ∧ c ≠ 130) → (sh c).1 ≠ 0 → sg0 c k = 0 := fun c k h h2 => by
    rw [sg0_c k h]; unfold sgC; rw [if_neg (fun q => h2 q.1), if_neg (fun q => h2 q.1)]
  have m : ∀ k : Int, sg0 114 k = if k = 3 then 1 else 0 := fun k => rfl
  have h13 : ∀ k : Int, sg0 1 k = sgH k := fun k => rfl
  have eV : EqV (mv (sg0 114)) (cv sg0 1) := ⟨rfl, fun i i0 i1 => by
    have i1 : i < 0 := i1
    omega⟩
  have wV : WV (mv (sg0 114)) := ⟨by decide, by decide, fun i i0 i1 => by
    have i1 : i < 0 := i1
    omega⟩
  have dV : DV (mv (sg0 114)) := fun i i0 i1 => by
    have i1 : i < 0 := i1
    omega
  refine ⟨⟨⟨eV, rfl, rfl, rfl⟩, wV, dV, by decide, by decide, by decide⟩, ⟨by decide, by decide, rfl, fun j j0 j1 => ?_⟩, Or.inl ⟨rfl, by decide⟩, ⟨rfl, ⟨by decide, fun i i0 i1 => ?_⟩, fun i i1 => ?_⟩, fun s s0 s1 => ?_, SI_fgt (fun k k0 k1 => ?_) rfl rfl rfl⟩
  · have j1 : j < 0 := j1
    omega
  · have i1 : i < 0 := i1
    omega
  · rw [z 82 i (by decide) (by decide), z 124 i (by decide) (by decide)]
  · have hs : s = 0 ∨ s = 1 ∨ s = 2 ∨ s = 3 := by omega
    rcases hs with rfl | rfl | rfl | rfl <;> exact ⟨by decide, by decide, by decide, by decide, fun q => absurd q (by decide)⟩
  · rw [z 100 k (by decide) (by decide)]; decide
/-- a cell of the first world -/
def Fc (g : G) (c : Nat) : Nat × va_E := (g.2.2.1 c, weR g c (sg0 c))
theorem fc_1 {g : G} {c n a : Nat} (hs : sh c = (1, n, [])) (h : c ≠ 113 ∧ c ≠ 114 ∧ c ≠ 130) (e : g.2.2.1 c = a) : yI g a n = Fc g c := by
  unfold Fc; rw [we_1 hs, e]
  have : (fun k : Nat => Int32.ofInt (sg0 c (k : Int))) = fun _ => Int32.ofInt 0 := funext fun k => by rw [sg0_c _ h, hs]; rfl
  rw [this]
theorem fc_2 {g : G} {c n a : Nat} (hs : sh c = (2, n, [])) (h : c ≠ 113 ∧ c ≠ 114 ∧ c ≠ 130) (e : g.2.2.1 c = a) : yC g a n = Fc g c := by
  unfold Fc; rw [we_2 hs, e]
  have : (fun k : Nat => Int32.ofInt (sg0 c (k : Int))) = fun _ => Int32.ofInt 0 := funext fun k => by rw [sg0_c _ h, hs]; rfl
  rw [this]
theorem fc_3 {g : G} {c n a : Nat} (hs : sh c = (3, n, [])) (h : c ≠ 113 ∧ c ≠ 114 ∧ c ≠ 130) (e : g.2.2.1 c = a) : yJ g a n = Fc g c := by
  unfold Fc; rw [we_3 hs, e]
  have : (fun k : Nat => Int64.ofInt (sg0 c (k : Int))) = fun _ => Int64.ofInt 0 := funext fun k => by rw [sg0_c _ h, hs]; rfl
  rw [this]
theorem fc_q {g : G} {c t n a : Nat} {l : List Nat} {f : Nat → Option Nat} (hs : sh c = (4, t, l)) (hl : l.length = n) (e : g.2.2.1 c = a) (hf : ∀ k : Nat, f k = l[k]?.map g.2.2.1) : yQ g t a n f = Fc g c := by
  unfold Fc; rw [we_4 hs, e, hl]
  have : f = fun k => l[k]?.map g.2.2.1 := funext hf
  rw [this]
theorem fc_o {g : G} {c ci a : Nat} {l : List Nat} {fs : List Value} (hs : sh c = (0, ci, l)) (h : c ≠ 113 ∧ c ≠ 114 ∧ c ≠ 130) (e : g.2.2.1 c = a) (hf : l.mapIdx (fun k x => wv g.2.2.1 (sgC (0, ci, l)) k x) = fs) : (a, .inr (ci, fs)) = Fc g c := by
  unfold Fc; rw [we_0 hs, e]
  have : sg0 c = sgC (0, ci, l) := funext fun k => by rw [sg0_c _ h, hs]
  rw [this, hf]
theorem fX2 {g : G} {o h : Nat} {u : AT_WX2} (hd : Hd o) (h3 : o + 3 < 113) (e0 : g.2.2.1 o = h) (e1 : g.2.2.1 (o + 1) = u.1) (e2 : g.2.2.1 (o + 2) = u.2.1) (e3 : g.2.2.1 (o + 3) = u.2.2) : WX2 g h u = [o, o + 1, o + 2, o + 3].map (Fc g) := by
  have a0 : (h, .inr (1, [.ref u.1, .ref u.2.1, .ref u.2.2, vI 0, vI 0, vI 0, vI 1])) = Fc g o := fc_o hd.1 (by omega) e0 (by rw [← e1, ← e2, ← e3]; rfl)
  have a1 : yI g u.1 8 = Fc g (o + 1) := fc_1 hd.2.1 (by omega) e1
  have a2 : yI g u.2.1 32 = Fc g (o + 2) := fc_1 hd.2.2.1 (by omega) e2
  have a3 : yI g u.2.2 32 = Fc g (o + 3) := fc_1 hd.2.2.2 (by omega) e3
  simp only [List.map_cons, List.map_nil, ← a0, ← a1, ← a2, ← a3]
  rfl
theorem fX5 {g : G} {o h : Nat} {u : AT_WX5} (s0 : sh o = (0, 4, [o + 1 + 2, 0, 0])) (s1 : sh (o + 1) = (3, 24, [])) (h3 : o + 1 < 113) (e0 : g.2.2.1 o = h) (e1 : g.2.2.1 (o + 1) = u) : WX5 g h u = [o, o + 1].map (Fc g) := by
  have a0 : (h, .inr (4, [.ref u, vI (-1), vI 0])) = Fc g o := fc_o s0 (by omega) e0 (by rw [← e1]; rfl)
  have a1 : yJ g u 24 = Fc g (o + 1) := fc_3 s1 (by omega) e1
  simp only [List.map_cons, List.map_nil, ← a0, ← a1]
  rfl
theorem fX3a {g : G} {h : Nat} {u : AT_WX3} (ex : g.2.2.1 13 = h) (ey : g.2.2.1 14 = u.1) (e00 : g.2.2.1 15 = u.2.1) (e01 : g.2.2.1 16 = u.2.2.1.1) (e02 : g.2.2.1 17 = u.2.2.1.2.1) (e03 : g.2.2.1 18 = u.2.2.1.2.2) (e10 : g.2.2.1 19 = u.2.2.2.1) (e11 : g.2.2.1 20 = u.2.2.2.2.1.1) (e12 : g.2.2.1 21 = u.2.2.2.2.1.2.1) (e13 : g.2.2.1 22 = u.2.2.2.2.1.2.2) (e20 : g.2.2.1 23 = u.2.2.2.2.2.1) (e21 : g.2.2.1 24 = u.2.2.2.2.2.2.1.1) (e22 : g.2.2.1 25 = u.2.2.2.2.2.2.1.2.1) (e23 : g.2.2.1 26 = u.2.2.2.2.2.2.1.2.2) (e30 : g.2.2.1 27 = u.2.2.2.2.2.2.2.1) (e31 : g.2.2.1 28 = u.2.2.2.2.2.2.2.2.1.1) (e32 : g.2.2.1 29 = u.2.2.2.2.2.2.2.2.1.2.1) (e33 : g.2.2.1 30 = u.2.2.2.2.2.2.2.2.1.2.2) (e40 : g.2.2.1 31 = u.2.2.2.2.2.2.2.2.2.1) (e41 : g.2.2.1 32 = u.2.2.2.2.2.2.2.2.2.2.1.1) (e42 : g.2.2.1 33 = u.2.2.2.2.2.2.2.2.2.2.1.2.1) (e43 : g.2.2.1 34 = u.2.2.2.2.2.2.2.2.2.2.1.2.2) (e50 : g.2.2.1 35 = u.2.2.2.2.2.2.2.2.2.2.2.1) (e51 : g.2.2.1 36 = u.2.2.2.2.2.2.2.2.2.2.2.2.1.1) (e52 : g.2.2.1 37 = u.2.2.2.2.2.2.2.2.2.2.2.2.1.2.1) (e53 : g.2.2.1 38 = u.2.2.2.2.2.2.2.2.2.2.2.2.1.2.2) (e60 : g.2.2.1 39 = u.2.2.2.2.2.2.2.2.2.2.2.2.2.1) (e61 : g.2.2.1 40 = u.2.2.2.2.2.2.2.2.2.2.2.2.2.2.1.1) (e62 : g.2.2.1 41 = u.2.2.2.2.2.2.2.2.2.2.2.2.2.2.1.2.1) (e63 : g.2.2.1 42 = u.2.2.2.2.2.2.2.2.2.2.2.2.2.2.1.2.2) (e70 : g.2.2.1 43 = u.2.2.2.2.2.2.2.2.2.2.2.2.2.2.2.1) (e71 : g.2.2.1 44 = u.2.2.2.2.2.2.2.2.2.2.2.2.2.2.2.2.1) (e72 : g.2.2.1 45 = u.2.2.2.2.2.2.2.2.2.2.2.2.2.2.2.2.2.1) (e73 : g.2.2.1 46 = u.2.2.2.2.2.2.2.2.2.2.2.2.2.2.2.2.2.2) : WX3 g h u = [13, 14, 15, 16, 17, 18, 19, 20, 21, 22, 23, 24, 25, 26, 27, 28, 29, 30, 31, 32, 33, 34, 35, 36, 37, 38, 39, 40, 41, 42, 43, 44, 45, 46].map (Fc g) := by
  have b0 : (h, .inr (2, [.ref u.1, vI 0, vI 0])) = Fc g 13 := fc_o (l := [16, 0, 0]) rfl (by decide) ex (by rw [← ey]; rfl)
  have b1 : yQ g 0 u.1 8 (va_up (va_up (va_up (va_up (va_up (va_up (va_up (va_up (fun _ => none) 0 (some u.2.1)) 1 (some u.2.2.2.1)) 2 (some u.2.2.2.2.2.1)) 3 (some u.2.2.2.2.2.2.2.1)) 4 (some u.2.2.2.2.2.2.2.2.2.1)) 5 (some u.2.2.2.2.2.2.2.2.2.2.2.1)) 6 (some u.2.2.2.2.2.2.2.2.2.2.2.2.2.1)) 7 (some u.2.2.2.2.2.2.2.2.2.2.2.2.2.2.2.1)) = Fc g 14 := fc_q (l := [15, 19, 23, 27, 31, 35, 39, 43]) rfl rfl ey (fun k => by
    rcases k with _ | _ | _ | _ | _ | _ | _ | _ | k
    · rw [← e00]; rfl
    · rw [← e10]; rfl
    · rw [← e20]; rfl
    · rw [← e30]; rfl
    · rw [← e40]; rfl
    · rw [← e50]; rfl
    · rw [← e60]; rfl
    · rw [← e70]; rfl
    · unfold va_up; simp)
  have c0 := fX2 (g := g) (h := u.2.1) (u := u.2.2.1) (hd_r 0 (by decide)) (by decide) e00 e01 e02 e03
  have c1 := fX2 (g := g) (h := u.2.2.2.1) (u := u.2.2.2.2.1) (hd_r 1 (by decide)) (by decide) e10 e11 e12 e13
  have c2 := fX2 (g := g) (h := u.2.2.2.2.2.1) (u := u.2.2.2.2.2.2.1) (hd_r 2 (by decide)) (by decide) e20 e21 e22 e23
  have c3 := fX2 (g := g) (h := u.2.2.2.2.2.2.2.1) (u := u.2.2.2.2.2.2.2.2.1) (hd_r 3 (by decide)) (by decide) e30 e31 e32 e33
  have c4 := fX2 (g := g) (h := u.2.2.2.2.2.2.2.2.2.1) (u := u.2.2.2.2.2.2.2.2.2.2.1) (hd_r 4 (by decide)) (by decide) e40 e41 e42 e43
  have c5 := fX2 (g := g) (h := u.2.2.2.2.2.2.2.2.2.2.2.1) (u := u.2.2.2.2.2.2.2.2.2.2.2.2.1) (hd_r 5 (by decide)) (by decide) e50 e51 e52 e53
  have c6 := fX2 (g := g) (h := u.2.2.2.2.2.2.2.2.2.2.2.2.2.1) (u := u.2.2.2.2.2.2.2.2.2.2.2.2.2.2.1) (hd_r 6 (by decide)) (by decide) e60 e61 e62 e63
  have c7 := fX2 (g := g) (h := u.2.2.2.2.2.2.2.2.2.2.2.2.2.2.2.1) (u := u.2.2.2.2.2.2.2.2.2.2.2.2.2.2.2.2) (hd_r 7 (by decide)) (by decide) e70 e71 e72 e73
  unfold WX3
  rw [b0, b1, c0, c1, c2, c3, c4, c5, c6, c7]
  rfl
theorem fX3b {g : G} {h : Nat} {u : AT_WX3} (ex : g.2.2.1 47 = h) (ey : g.2.2.1 48 = u.1) (e00 : g.2.2.1 49 = u.2.1) (e01 : g.2.2.1 50 = u.2.2.1.1) (e02 : g.2.2.1 51 = u.2.2.1.2.1) (e03 : g.2.2.1 52 = u.2.2.1.2.2) (e10 : g.2.2.1 53 = u.2.2.2.1) (e11 : g.2.2.1 54 = u.2.2.2.2.1.1) (e12 : g.2.2.1 55 = u.2.2.2.2.1.2.1) (e13 : g.2.2.1 56 = u.2.2.2.2.1.2.2) (e20 : g.2.2.1 57 = u.2.2.2.2.2.1) (e21 : g.2.2.1 58 = u.2.2.2.2.2.2.1.1) (e22 : g.2.2.1 59 = u.2.2.2.2.2.2.1.2.1) (e23 : g.2.2.1 60 = u.2.2.2.2.2.2.1.2.2) (e30 : g.2.2.1 61 = u.2.2.2.2.2.2.2.1) (e31 : g.2.2.1 62 = u.2.2.2.2.2.2.2.2.1.1) (e32 : g.2.2.1 63 = u.2.2.2.2.2.2.2.2.1.2.1) (e33 : g.2.2.1 64 = u.2.2.2.2.2.2.2.2.1.2.2) (e40 : g.2.2.1 65 = u.2.2.2.2.2.2.2.2.2.1) (e41 : g.2.2.1 66 = u.2.2.2.2.2.2.2.2.2.2.1.1) (e42 : g.2.2.1 67 = u.2.2.2.2.2.2.2.2.2.2.1.2.1) (e43 : g.2.2.1 68 = u.2.2.2.2.2.2.2.2.2.2.1.2.2) (e50 : g.2.2.1 69 = u.2.2.2.2.2.2.2.2.2.2.2.1) (e51 : g.2.2.1 70 = u.2.2.2.2.2.2.2.2.2.2.2.2.1.1) (e52 : g.2.2.1 71 = u.2.2.2.2.2.2.2.2.2.2.2.2.1.2.1) (e53 : g.2.2.1 72 = u.2.2.2.2.2.2.2.2.2.2.2.2.1.2.2) (e60 : g.2.2.1 73 = u.2.2.2.2.2.2.2.2.2.2.2.2.2.1) (e61 : g.2.2.1 74 = u.2.2.2.2.2.2.2.2.2.2.2.2.2.2.1.1) (e62 : g.2.2.1 75 = u.2.2.2.2.2.2.2.2.2.2.2.2.2.2.1.2.1) (e63 : g.2.2.1 76 = u.2.2.2.2.2.2.2.2.2.2.2.2.2.2.1.2.2) (e70 : g.2.2.1 77 = u.2.2.2.2.2.2.2.2.2.2.2.2.2.2.2.1) (e71 : g.2.2.1 78 = u.2.2.2.2.2.2.2.2.2.2.2.2.2.2.2.2.1) (e72 : g.2.2.1 79 = u.2.2.2.2.2.2.2.2.2.2.2.2.2.2.2.2.2.1) (e73 : g.2.2.1 80 = u.2.2.2.2.2.2.2.2.2.2.2.2.2.2.2.2.2.2) : WX3 g h u = [47, 48, 49, 50, 51, 52, 53, 54, 55, 56, 57, 58, 59, 60, 61, 62, 63, 64, 65, 66, 67, 68, 69, 70, 71, 72, 73, 74, 75, 76, 77, 78, 79, 80].map (Fc g) := by
  have b0 : (h, .inr (2, [.ref u.1, vI 0, vI 0])) = Fc g 47 := fc_o (l := [50, 0, 0]) rfl (by decide) ex (by rw [← ey]; rfl)
  have b1 : yQ g 0 u.1 8 (va_up (va_up (va_up (va_up (va_up (va_up (va_up (va_up (fun _ => none) 0 (some u.2.1)) 1 (some u.2.2.2.1)) 2 (some u.2.2.2.2.2.1)) 3 (some u.2.2.2.2.2.2.2.1)) 4 (some u.2.2.2.2.2.2.2.2.2.1)) 5 (some u.2.2.2.2.2.2.2.2.2.2.2.1)) 6 (some u.2.2.2.2.2.2.2.2.2.2.2.2.2.1)) 7 (some u.2.2.2.2.2.2.2.2.2.2.2.2.2.2.2.1)) = Fc g 48 := fc_q (l := [49, 53, 57, 61, 65, 69, 73, 77]) rfl rfl ey (fun k => by
    rcases k with _ | _ | _ | _ | _ | _ | _ | _ | k
    · rw [← e00]; rfl
    · rw [← e10]; rfl
    · rw [← e20]; rfl
    · rw [← e30]; rfl
    · rw [← e40]; rfl
    · rw [← e50]; rfl
    · rw [← e60]; rfl
    · rw [← e70]; rfl
    · unfold va_up; simp)
  have c0 := fX2 (g := g) (h := u.2.1) (u := u.2.2.1) (hd_q 0 (by decide)) (by decide) e00 e01 e02 e03
  have c1 := fX2 (g := g) (h := u.2.2.2.1) (u := u.2.2.2.2.1) (hd_q 1 (by decide)) (by decide) e10 e11 e12 e13
  have c2 := fX2 (g := g) (h := u.2.2.2.2.2.1) (u := u.2.2.2.2.2.2.1) (hd_q 2 (by decide)) (by decide) e20 e21 e22 e23
  have c3 := fX2 (g := g) (h := u.2.2.2.2.2.2.2.1) (u := u.2.2.2.2.2.2.2.2.1) (hd_q 3 (by decide)) (by decide) e30 e31 e32 e33
  have c4 := fX2 (g := g) (h := u.2.2.2.2.2.2.2.2.2.1) (u := u.2.2.2.2.2.2.2.2.2.2.1) (hd_q 4 (by decide)) (by decide) e40 e41 e42 e43
  have c5 := fX2 (g := g) (h := u.2.2.2.2.2.2.2.2.2.2.2.1) (u := u.2.2.2.2.2.2.2.2.2.2.2.2.1) (hd_q 5 (by decide)) (by decide) e50 e51 e52 e53
  have c6 := fX2 (g := g) (h := u.2.2.2.2.2.2.2.2.2.2.2.2.2.1) (u := u.2.2.2.2.2.2.2.2.2.2.2.2.2.2.1) (hd_q 6 (by decide)) (by decide) e60 e61 e62 e63
  have c7 := fX2 (g := g) (h := u.2.2.2.2.2.2.2.2.2.2.2.2.2.2.2.1) (u := u.2.2.2.2.2.2.2.2.2.2.2.2.2.2.2.2) (hd_q 7 (by decide)) (by decide) e70 e71 e72 e73
  unfold WX3
  rw [b0, b1, c0, c1, c2, c3, c4, c5, c6, c7]
  rfl
