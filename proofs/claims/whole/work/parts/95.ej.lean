/-! ===== questions: sets of those counted, parted by the slot that is looked for; c t: the reading of the t-th ===== -/
section QU
variable {V : Hv} {c : Nat → Nat} {s m : Nat}
def taT (V : Hv) (c : Nat → Nat) (s : Nat) (i k : Int) : Nat → Int
  | 0 => 0
  | t + 1 => taT V c s i k t + (if s.testBit t = true ∧ pk V (c t) i = k then 1 else 0)
def hvT (V : Hv) (c : Nat → Nat) (s : Nat) (i w : Int) : Nat → Int
  | 0 => 0
  | t + 1 => hvT V c s i w t + (if s.testBit t = true ∧ V.2.2.1 i (pk V (c t) i) = w then 1 else 0)
def nS (s : Nat) : Nat → Int
  | 0 => 0
  | t + 1 => nS s t + (if s.testBit t = true then 1 else 0)
theorem taT_s (V : Hv) (c : Nat → Nat) (s : Nat) (i k : Int) (t : Nat) : taT V c s i k (t + 1) = taT V c s i k t + (if s.testBit t = true ∧ pk V (c t) i = k then 1 else 0) := rfl
theorem hvT_s (V : Hv) (c : Nat → Nat) (s : Nat) (i w : Int) (t : Nat) : hvT V c s i w (t + 1) = hvT V c s i w t + (if s.testBit t = true ∧ V.2.2.1 i (pk V (c t) i) = w then 1 else 0) := rfl
theorem nS_s (s t : Nat) : nS s (t + 1) = nS s t + (if s.testBit t = true then 1 else 0) := rfl
theorem nS_r (s m : Nat) : 0 ≤ nS s m ∧ nS s m ≤ m := by
  induction m with
  | zero => exact ⟨Int.le_refl 0, Int.le_refl 0⟩
  | succ m ih => rw [nS_s]; split <;> omega
theorem taT_r (V : Hv) (c : Nat → Nat) (s : Nat) (i k : Int) (m : Nat) : 0 ≤ taT V c s i k m ∧ taT V c s i k m ≤ m := by
  induction m with
  | zero => exact ⟨Int.le_refl 0, Int.le_refl 0⟩
  | succ m ih => rw [taT_s]; split <;> omega
theorem hvT_r (V : Hv) (c : Nat → Nat) (s : Nat) (i w : Int) (m : Nat) : 0 ≤ hvT V c s i w m ∧ hvT V c s i w m ≤ m := by
  induction m with
  | zero => exact ⟨Int.le_refl 0, Int.le_refl 0⟩
  | succ m ih => rw [hvT_s]; split <;> omega
theorem nS_pos {s m : Nat} (h : 0 < nS s m) : ∃ t, t < m ∧ s.testBit t = true := by
  induction m with
  | zero => exact absurd h (by show ¬ (0 : Int) < 0; decide)
  | succ m ih =>
    rw [nS_s] at h
    by_cases q : s.testBit m = true
    · exact ⟨m, by omega, q⟩
    · rw [if_neg q] at h
      obtain ⟨t, a, b⟩ := ih (by omega); exact ⟨t, by omega, b⟩
theorem taT_pos {V : Hv} {c : Nat → Nat} {s : Nat} {i k : Int} {m t : Nat} (ht : t < m) (hs : s.testBit t = true) (hk : pk V (c t) i = k) : 0 < taT V c s i k m := by
  induction m with
  | zero => exact absurd ht (Nat.not_lt_zero t)
  | succ m ih =>
    have r := taT_r V c s i k m
    rw [taT_s]
    by_cases e : t = m
    · subst e; rw [if_pos ⟨hs, hk⟩]; omega
    · have := ih (by omega); split <;> omega
theorem taT_0 {V : Hv} {c : Nat → Nat} {s : Nat} {i k : Int} (m : Nat) (h : ∀ t, t < m → s.testBit t = true → pk V (c t) i ≠ k) : taT V c s i k m = 0 := by
  induction m with
  | zero => rfl
  | succ m ih => rw [taT_s, ih (fun t ht => h t (by omega)), if_neg (fun z => h m (by omega) z.1 z.2)]; rfl
theorem hvT_ta {V : Hv} (hV : WV V) (hD : DV V) {c : Nat → Nat} {s : Nat} (m : Nat) {i k : Int} (h0 : 0 ≤ i) (h1 : i < V.1) (k0 : 0 ≤ k) (k1 : k < V.2.1 i) : hvT V c s i (V.2.2.1 i k) m = taT V c s i k m := by
  induction m with
  | zero => rfl
  | succ m ih =>
    rw [hvT_s, taT_s, ih]
    have p := pk_WP hV (c m) i h0 h1
    by_cases q : s.testBit m = true ∧ V.2.2.1 i (pk V (c m) i) = V.2.2.1 i k
    · rw [if_pos q, if_pos ⟨q.1, hD i h0 h1 _ _ p.1 p.2 k0 k1 q.2⟩]
    · rw [if_neg q, if_neg (fun z => q ⟨z.1, by rw [z.2]⟩)]
theorem hvT_out {V : Hv} (hV : WV V) {c : Nat → Nat} {s : Nat} (m : Nat) {i w : Int} (h0 : 0 ≤ i) (h1 : i < V.1) (h : ∀ k, 0 ≤ k → k < V.2.1 i → V.2.2.1 i k ≠ w) : hvT V c s i w m = 0 := by
  induction m with
  | zero => rfl
  | succ m ih =>
    have p := pk_WP hV (c m) i h0 h1
    rw [hvT_s, ih, if_neg (fun z => h _ p.1 p.2 z.2)]; rfl
def hvS (V : Hv) (c : Nat → Nat) (s m : Nat) : Int → Int := fun j => hvT V c s (j / 32) (j % 32) m
theorem hvS_at (V : Hv) (c : Nat → Nat) (s m : Nat) {i w : Int} (h0 : 0 ≤ w) (h1 : w < 32) : hvS V c s m (32 * i + w) = hvT V c s i w m := by
  unfold hvS; rw [show (32 * i + w) / 32 = i by omega, show (32 * i + w) % 32 = w by omega]
/-- the slot that is looked for by a set -/
def slF (V : Hv) (c : Nat → Nat) (s m : Nat) : Int := (lookF (hvS V c s m) (nS s m) V.1.toNat).1
/-- by candidates: the same slot -/
theorem slF_cls {V : Hv} (hV : WV V) (hD : DV V) {c : Nat → Nat} {s m : Nat} {R : Int → Int} (hR : ∀ i k : Int, 0 ≤ i → i < 8 → 0 ≤ k → k < 4 → R (i * 4 + k) = if i < V.1 then taT V c s i k m else 0) : (pbF R (nS s m) 8).1 = slF V c s m := by
  have n0 := hV.1
  have n8 := hV.2.1
  have hr := nS_r s m
  refine (look_eq hV hr.1 (fun i hi => most_eq hV hi (fun k k0 k1 => ?_) (fun w w0 w1 hw => ?_) (fun k k0 k1 => ?_)) (fun hp i hi => ?_) (fun i hi h8 => ?_)).symm
  · have q := hV.2.2 i (by omega) hi
    have d := q.2.2 k k0 k1
    rw [hvS_at _ _ _ _ (by omega) (by omega), hvT_ta hV hD _ (by omega) hi k0 k1, hR i k (by omega) (by omega) k0 (by omega), if_pos hi]
  · rw [hvS_at _ _ _ _ w0 w1]; exact hvT_out hV _ (by omega) hi hw
  · have q := hV.2.2 i (by omega) hi
    rw [hR i k (by omega) (by omega) (by omega) k1, if_pos hi]
    refine taT_0 m (fun t _ _ => ?_)
    have p := pk_WP hV (c t) i (by omega) hi
    omega
  · obtain ⟨t, t1, t2⟩ := nS_pos hp
    have p := pk_WP hV (c t) i (by omega) hi
    have q := hV.2.2 i (by omega) hi
    have tp := taT_pos (V := V) (c := c) (i := i) t1 t2 rfl
    have b := (pmF_le (R := R) (i := i) 4).2.1 (pk V (c t) i).toNat (by omega)
    rw [show (((pk V (c t) i).toNat : Nat) : Int) = pk V (c t) i by omega, hR i _ (by omega) (by omega) p.1 (by omega), if_pos hi] at b
    omega
  · rcases (pmF_le (R := R) (i := i) 4).2.2 with z | ⟨k, k1, k2⟩
    · exact z
    · rw [k2, hR i k (by omega) (by omega) (by omega) (by omega), if_neg (by omega)]
/-- a slot by which a set is parted -/
def alv (V : Hv) (c : Nat → Nat) (s m : Nat) (i : Int) : Prop := ∃ t u, t < m ∧ u < m ∧ s.testBit t = true ∧ s.testBit u = true ∧ pk V (c t) i ≠ pk V (c u) i
theorem lookF_p {H : Int → Int} {all : Int} : ∀ n : Nat, (lookF H all n).2 ≤ all ∧ ((lookF H all n).1 = -4 ∨ ∃ i : Nat, i < n ∧ (lookF H all n).1 = i ∧ mostF H (32 * i) 32 < all) := by
  intro n
  induction n with
  | zero => exact ⟨Int.le_refl _, Or.inl rfl⟩
  | succ n ih =>
    rw [lookF_s]
    split
    · rename_i q; exact ⟨by simp only; omega, Or.inr ⟨n, by omega, rfl, by omega⟩⟩
    · refine ⟨ih.1, ?_⟩
      rcases ih.2 with z | ⟨i, a, b⟩
      · exact Or.inl z
      · exact Or.inr ⟨i, by omega, b⟩
theorem slF_r {V : Hv} (hV : WV V) {c : Nat → Nat} {s m : Nat} : slF V c s m = -4 ∨ (0 ≤ slF V c s m ∧ slF V c s m < V.1 ∧ alv V c s m (slF V c s m)) := by
  have n0 := hV.1
  rcases (lookF_p (H := hvS V c s m) (all := nS s m) V.1.toNat).2 with z | ⟨i, a, b, d⟩
  · exact Or.inl z
  · right
    have e : slF V c s m = i := b
    rw [e]
    refine ⟨by omega, by omega, ?_⟩
    apply Classical.byContradiction
    intro na
    have hi : (i : Int) < V.1 := by omega
    have r0 := mostF_le (H := hvS V c s m) (b := 32 * i) 32
    have hp : 0 < nS s m := by omega
    obtain ⟨t, t1, t2⟩ := nS_pos hp
    have p := pk_WP hV (c t) i (by omega) hi
    have q := (hV.2.2 i (by omega) hi).2.2 (pk V (c t) i) p.1 p.2
    have all : ∀ u, u < m → s.testBit u = true → pk V (c u) i = pk V (c t) i := fun u u1 u2 => by
      apply Classical.byContradiction; intro z; exact na ⟨u, t, u1, t1, u2, t2, z⟩
    have key : ∀ j : Nat, j ≤ m → hvT V c s i (V.2.2.1 i (pk V (c t) i)) j = nS s j := by
      intro j
      induction j with
      | zero => intro _; rfl
      | succ j ih =>
        intro hj
        rw [hvT_s, nS_s, ih (by omega)]
        by_cases x : s.testBit j = true
        · rw [if_pos x, if_pos ⟨x, by rw [all j (by omega) x]⟩]
        · rw [if_neg x, if_neg (fun z => x z.1)]
    have w := r0.2.1 (V.2.2.1 i (pk V (c t) i)).toNat (by omega)
    rw [show (((V.2.2.1 i (pk V (c t) i)).toNat : Nat) : Int) = V.2.2.1 i (pk V (c t) i) by omega, hvS_at _ _ _ _ (by omega) (by omega), key m (Nat.le_refl m)] at w
    omega
/-- those of a set that take a candidate -/
def prt (V : Hv) (c : Nat → Nat) (s m : Nat) (i k : Int) : Nat := setF (fun t => s.testBit t && decide (pk V (c t) i = k)) m
theorem prt_bit {V : Hv} {c : Nat → Nat} {s m : Nat} {i k : Int} {t : Nat} : (prt V c s m i k).testBit t = true ↔ t < m ∧ s.testBit t = true ∧ pk V (c t) i = k := by
  unfold prt; rw [setF_bit]
  simp only [Bool.and_eq_true, decide_eq_true_eq]
/-- how many slots part a set -/
noncomputable def alN (V : Hv) (c : Nat → Nat) (s m : Nat) : Nat → Nat
  | 0 => 0
  | i + 1 => alN V c s m i + (if dec (alv V c s m i) = true then 1 else 0)
theorem alN_s (V : Hv) (c : Nat → Nat) (s m i : Nat) : alN V c s m (i + 1) = alN V c s m i + (if dec (alv V c s m i) = true then 1 else 0) := rfl
theorem alN_r (V : Hv) (c : Nat → Nat) (s m i : Nat) : alN V c s m i ≤ i := by
  induction i with
  | zero => exact Nat.le_refl 0
  | succ i ih => rw [alN_s]; split <;> omega
theorem alv_prt {V : Hv} {c : Nat → Nat} {s m : Nat} {i k : Int} {j : Int} (h : alv V c (prt V c s m i k) m j) : alv V c s m j ∧ j ≠ i := by
  obtain ⟨t, u, a, b, d, e, f⟩ := h
  have d := prt_bit.mp d
  have e := prt_bit.mp e
  refine ⟨⟨t, u, a, b, d.2.1, e.2.1, f⟩, ?_⟩
  rintro rfl; exact f (by rw [d.2.2, e.2.2])
theorem alN_prt {V : Hv} {c : Nat → Nat} {s m : Nat} {i k : Int} (n : Nat) : alN V c (prt V c s m i k) m n + (if 0 ≤ i ∧ i < n ∧ dec (alv V c s m i) = true then 1 else 0) ≤ alN V c s m n := by
  induction n with
  | zero => show 0 + _ ≤ 0; rw [if_neg (by omega)]; omega
  | succ n ih =>
    rw [alN_s, alN_s]
    by_cases e : i = n
    · subst e
      rw [if_neg (by omega)] at ih
      have h0 : dec (alv V c (prt V c s m n k) m n) = false := dec_not.mpr (fun z => (alv_prt z).2 rfl)
      rw [h0, if_neg (by decide)]
      split
      · rename_i q; rw [if_pos q.2.2]; omega
      · split <;> omega
    · have h0 : dec (alv V c (prt V c s m i k) m n) = true → dec (alv V c s m n) = true := fun z => dec_iff.mpr (alv_prt (dec_iff.mp z)).1
      by_cases q : dec (alv V c (prt V c s m i k) m n) = true
      · rw [if_pos q, if_pos (h0 q)]
        by_cases x : 0 ≤ i ∧ i < n ∧ dec (alv V c s m i) = true
        · rw [if_pos x] at ih; rw [if_pos ⟨x.1, by omega, x.2.2⟩]; omega
        · rw [if_neg x] at ih; rw [if_neg (fun y => x ⟨y.1, by omega, y.2.2⟩)]; omega
      · rw [if_neg q]
        by_cases x : 0 ≤ i ∧ i < n ∧ dec (alv V c s m i) = true
        · rw [if_pos x] at ih; rw [if_pos ⟨x.1, by omega, x.2.2⟩]; split <;> omega
        · rw [if_neg x] at ih; rw [if_neg (fun y => x ⟨y.1, by omega, y.2.2⟩)]; split <;> omega
/-- all of a set tell the same -/
def smP (V : Hv) (c : Nat → Nat) (s m : Nat) : Prop := ∀ t u, t < m → u < m → s.testBit t = true → s.testBit u = true → nm V (c t) = nm V (c u)
noncomputable def leaf (V : Hv) (c : Nat → Nat) (s m : Nat) : Bool := dec (smP V c s m ∨ slF V c s m < 0)
/-- questions on the way to t -/
noncomputable def pth (V : Hv) (c : Nat → Nat) (m : Nat) : Nat → Nat → Nat → Int
  | 0, _, _ => 0
  | f + 1, s, t => if leaf V c s m = true then 0 else 1 + pth V c m f (prt V c s m (slF V c s m) (pk V (c t) (slF V c s m))) t
theorem pth_s (V : Hv) (c : Nat → Nat) (m f s t : Nat) : pth V c m (f + 1) s t = if leaf V c s m = true then 0 else 1 + pth V c m f (prt V c s m (slF V c s m) (pk V (c t) (slF V c s m))) t := rfl
theorem leaf_0 {V : Hv} (hV : WV V) {c : Nat → Nat} {s m : Nat} (h : alN V c s m V.1.toNat = 0) : leaf V c s m = true := by
  refine dec_iff.mpr (Or.inr ?_)
  have n0 := hV.1
  rcases slF_r hV (c := c) (s := s) (m := m) with z | ⟨a, b, d⟩
  · omega
  · exfalso
    have q := alN_prt (V := V) (c := c) (s := s) (m := m) (i := slF V c s m) (k := 0) V.1.toNat
    rw [if_pos ⟨a, by omega, dec_iff.mpr d⟩] at q; omega
theorem leaf_n {V : Hv} (hV : WV V) {c : Nat → Nat} {s m : Nat} (h : leaf V c s m ≠ true) (k : Int) : alN V c (prt V c s m (slF V c s m) k) m V.1.toNat + 1 ≤ alN V c s m V.1.toNat ∧ 0 ≤ slF V c s m ∧ slF V c s m < V.1 ∧ ¬ smP V c s m := by
  have n0 := hV.1
  have nl : ¬ (smP V c s m ∨ slF V c s m < 0) := fun z => h (dec_iff.mpr z)
  rcases slF_r hV (c := c) (s := s) (m := m) with z | ⟨a, b, d⟩
  · exact absurd (Or.inr (by omega)) nl
  · have q := alN_prt (V := V) (c := c) (s := s) (m := m) (i := slF V c s m) (k := k) V.1.toNat
    rw [if_pos ⟨a, by omega, dec_iff.mpr d⟩] at q
    exact ⟨q, a, b, fun z => nl (Or.inl z)⟩
theorem pth_f {V : Hv} (hV : WV V) {c : Nat → Nat} {m : Nat} : ∀ (f g s t : Nat), alN V c s m V.1.toNat ≤ f → alN V c s m V.1.toNat ≤ g → pth V c m f s t = pth V c m g s t := by
  intro f
  induction f with
  | zero =>
    intro g s t h1 h2
    cases g with
    | zero => rfl
    | succ g => rw [pth_s, if_pos (leaf_0 hV (by omega))]; rfl
  | succ f ih =>
    intro g s t h1 h2
    cases g with
    | zero => rw [pth_s, if_pos (leaf_0 hV (by omega))]; rfl
    | succ g =>
      rw [pth_s, pth_s]
      by_cases q : leaf V c s m = true
      · rw [if_pos q, if_pos q]
      · have a := leaf_n hV q (pk V (c t) (slF V c s m))
        rw [if_neg q, if_neg q, ih g _ t (by omega) (by omega)]
noncomputable def Pq (V : Hv) (c : Nat → Nat) (m s t : Nat) : Int := pth V c m 8 s t
theorem Pq_l {V : Hv} {c : Nat → Nat} {m s t : Nat} (h : leaf V c s m = true) : Pq V c m s t = 0 := by unfold Pq; rw [pth_s, if_pos h]
theorem Pq_n {V : Hv} (hV : WV V) {c : Nat → Nat} {m s t : Nat} (h : leaf V c s m ≠ true) : Pq V c m s t = 1 + Pq V c m (prt V c s m (slF V c s m) (pk V (c t) (slF V c s m))) t := by
  have a := leaf_n hV h (pk V (c t) (slF V c s m))
  have b := alN_r V c s m V.1.toNat
  have n8 := hV.2.1
  unfold Pq
  rw [pth_s, if_neg h, pth_f hV 7 8 _ t (by omega) (by omega)]
theorem Pq_r {V : Hv} (hV : WV V) {c : Nat → Nat} {m : Nat} : ∀ (f s t : Nat), 0 ≤ pth V c m f s t ∧ pth V c m f s t ≤ f := by
  intro f
  induction f with
  | zero => intro s t; exact ⟨Int.le_refl 0, Int.le_refl 0⟩
  | succ f ih => intro s t; rw [pth_s]; have := ih (prt V c s m (slF V c s m) (pk V (c t) (slF V c s m))) t; split <;> omega
/-- how many there must be -/
noncomputable def mxQ (V : Hv) (c : Nat → Nat) (m s : Nat) : Nat → Int
  | 0 => 0
  | t + 1 => max (mxQ V c m s t) (Pq V c m s t)
theorem mxQ_s (V : Hv) (c : Nat → Nat) (m s t : Nat) : mxQ V c m s (t + 1) = max (mxQ V c m s t) (Pq V c m s t) := rfl
theorem mxQ_r {V : Hv} (hV : WV V) {c : Nat → Nat} {m s : Nat} (n : Nat) : 0 ≤ mxQ V c m s n ∧ mxQ V c m s n ≤ 8 ∧ (∀ t, t < n → Pq V c m s t ≤ mxQ V c m s n) ∧ (mxQ V c m s n = 0 ∨ ∃ t, t < n ∧ mxQ V c m s n = Pq V c m s t) := by
  induction n with
  | zero => exact ⟨Int.le_refl 0, by show (0 : Int) ≤ 8; decide, fun t h => absurd h (Nat.not_lt_zero t), Or.inl rfl⟩
  | succ n ih =>
    obtain ⟨a, b, d, e⟩ := ih
    have r : 0 ≤ Pq V c m s n ∧ Pq V c m s n ≤ (8 : Nat) := Pq_r hV 8 s n
    rw [mxQ_s]
    refine ⟨by omega, by omega, fun t ht => ?_, ?_⟩
    · by_cases x : t = n
      · subst x; omega
      · have := d t (by omega); omega
    · by_cases x : mxQ V c m s n < Pq V c m s n
      · exact Or.inr ⟨n, by omega, by omega⟩
      · rcases e with z | ⟨t, t1, t2⟩
        · exact Or.inl (by omega)
        · exact Or.inr ⟨t, by omega, by omega⟩
end QU
