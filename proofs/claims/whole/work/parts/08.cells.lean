/-! ===== fields, arrays ===== -/
/-- getfield index in class own reads field k of class ci -/
def FL (own : String) (ix ci k : Nat) : Prop := ∃ (C : String) (T : u_T) (N : Nat), vwCl[ci]? = some (C, T, N) ∧ k < N ∧ (∀ w ∈ u_ws C T N, w ∈ lw_g) ∧ Cond.fieldLink own ix (T k).1 (T k).2.1 (T k).2.2.1 ∈ lw_g
/-- putfield index in class own writes field k of class ci, of type ty -/
def FP (own : String) (ix ci k : Nat) (ty : FieldType) : Prop := ∃ (C : String) (T : u_T) (N : Nat) (ty0 : Nat → FieldType), vwCl[ci]? = some (C, T, N) ∧ k < N ∧ (∀ w ∈ u_ws C T N, w ∈ lw_g) ∧ Cond.fieldLink own ix (T k).1 (T k).2.1 (T k).2.2.1 ∈ lw_g ∧ (∀ k, k < N → parseFieldDescriptor (T k).2.2.1 = some (ty0 k)) ∧ (∀ a, a < N → ∀ b, b < N → a ≠ b → (T a).2.1 ≠ (T b).2.1) ∧ (T k).2.2.2 = false ∧ ty0 k = ty
theorem lk_0 {c ci k : Nat} {fl : List Nat} (hs : sh c = (0, ci, fl)) (hf : fl[k]? = some 0) : lk c k = false := by
  unfold lk; rw [hs]; simp [hf]
theorem lk_1 {c n : Nat} {l : List Nat} (k : Int) (hs : sh c = (1, n, l)) : lk c k = false := by
  unfold lk; rw [hs]; rfl
theorem lk_2 {c n : Nat} {l : List Nat} (k : Int) (hs : sh c = (2, n, l)) : lk c k = false := by
  unfold lk; rw [hs]; rfl
theorem we_0 {g : G} {c ci : Nat} {fl : List Nat} {r : Int → Int} (hs : sh c = (0, ci, fl)) : weR g c r = .inr (ci, fl.mapIdx (fun k x => wv g.2.2.1 r k x)) := by unfold weR; rw [hs]; rfl
theorem we_1 {g : G} {c n : Nat} {fl : List Nat} {r : Int → Int} (hs : sh c = (1, n, fl)) : weR g c r = .inl (g.2.2.2 0, n, .inl (fun k => Int32.ofInt (r k))) := by unfold weR; rw [hs]; rfl
theorem we_2 {g : G} {c n : Nat} {fl : List Nat} {r : Int → Int} (hs : sh c = (2, n, fl)) : weR g c r = .inl (g.2.2.2 1, n, .inl (fun k => Int32.ofInt (r k))) := by unfold weR; rw [hs]; rfl
theorem we_3 {g : G} {c n : Nat} {fl : List Nat} {r : Int → Int} (hs : sh c = (3, n, fl)) : weR g c r = .inl (g.2.2.2 2, n, .inr (.inl (fun k => Int64.ofInt (r k)))) := by unfold weR; rw [hs]; rfl
theorem we_4 {g : G} {c t : Nat} {fl : List Nat} {r : Int → Int} (hs : sh c = (4, t, fl)) : weR g c r = .inl (g.2.2.2 (3 + t), fl.length, .inr (.inr (.inr (.inr (fun k => fl[k]?.map g.2.2.1))))) := by unfold weR; rw [hs]; rfl
theorem sh_lt {c t n : Nat} {l : List Nat} (hs : sh c = (t, n, l)) (ht : t < 9) : c < 134 := by
  apply Nat.lt_of_not_le
  intro h
  have h2 : shL.length ≤ c := Nat.le_trans (show shL.length ≤ 134 by decide +kernel) h
  unfold sh at hs
  rw [List.getD_eq_getElem?_getD, List.getElem?_eq_none h2] at hs
  simp at hs
  omega
theorem up_row {σ : Sg} {c : Nat} {k v : Int} : up σ c k v c = fun k' => if k' = k then v else σ c k' := by
  funext k'; simp [up]
theorem up_row_ne {σ : Sg} {c c' : Nat} {k v : Int} (h : c' ≠ c) : up σ c k v c' = σ c' := by
  funext k'; simp [up, h]
theorem in_ok {i : Int} {n : Nat} (h : 0 ≤ i ∧ i < n) (hn : n < 2147483648) : vp_in (Int32.ofInt i) n ∧ (Int32.ofInt i).toNatClampNeg = i.toNat := by
  have ht := iI_toInt (a := i) ⟨by omega, by omega⟩
  have hc : (Int32.ofInt i).toNatClampNeg = i.toNat := by rw [← Int32.toNat_toInt, ht]
  refine ⟨vp_in_iff.mpr ⟨by rw [ht]; exact h.1, by rw [ht]; exact h.2⟩, hc⟩
section ZF
variable {g : G} {x : Cx} {own : String} {cc : ByteArray} {nL dp pc : Nat} {L L' : List (Nat × Value)} {S : List Value} {σ : Sg}
theorem z_getI (h : Ok g x own cc nL dp) {ix ci k c : Nat} {fl : List Nat} (ki : Int) (F : FL own ix ci k) (hs : sh c = (0, ci, fl)) (hf : fl[k]? = some 0) (hk : ((k : Nat) : Int) = ki) (d : decode cc pc = .ok (.getfield ix, 3)) (kk : -2147483648 ≤ σ c ki ∧ σ c ki ≤ 2147483647 → Z g x nL (pc + 3) L (vI (σ c ki) :: S) σ) : Z g x nL pc L (.ref (g.2.2.1 c) :: S) σ := by
  intro H locs ls hr hP hS hl
  subst hk
  obtain ⟨C, T, N, h1, h2, h3, h4⟩ := F
  exact va_get h.1 h.2.1 h.2.2.2.2.1 h3 h.2.2.2.1 h.2.2.2.2.2.1 hP c (ws_at g σ (sh_lt hs (by decide)) |>.trans (by rw [we_0 hs])) h1 k h2 (h.2.2.2.2.1 _ h4) (fun _ q => q) (v := vI (σ c k)) (by rw [List.getElem?_mapIdx, hf]; rfl) d (kk ((hr c k).1 (lk_0 hs hf)) H locs ls hr hP hS hl)
theorem z_getL (h : Ok g x own cc nL dp) {ix ci k c : Nat} {fl : List Nat} (ki : Int) (F : FL own ix ci k) (hs : sh c = (0, ci, fl)) (hf : fl[k]? = some 1) (hk : ((k : Nat) : Int) = ki) (d : decode cc pc = .ok (.getfield ix, 3)) (kk : -9223372036854775808 ≤ σ c ki ∧ σ c ki ≤ 9223372036854775807 → Z g x nL (pc + 3) L (vL (σ c ki) :: S) σ) : Z g x nL pc L (.ref (g.2.2.1 c) :: S) σ := by
  intro H locs ls hr hP hS hl
  subst hk
  obtain ⟨C, T, N, h1, h2, h3, h4⟩ := F
  exact va_get h.1 h.2.1 h.2.2.2.2.1 h3 h.2.2.2.1 h.2.2.2.2.2.1 hP c (ws_at g σ (sh_lt hs (by decide)) |>.trans (by rw [we_0 hs])) h1 k h2 (h.2.2.2.2.1 _ h4) (fun _ q => q) (v := vL (σ c k)) (by rw [List.getElem?_mapIdx, hf]; rfl) d (kk (hr c k).2 H locs ls hr hP hS hl)
theorem z_getR (h : Ok g x own cc nL dp) {ix ci k c : Nat} {fl : List Nat} (j : Nat) (F : FL own ix ci k) (hs : sh c = (0, ci, fl)) (hf : fl[k]? = some (j + 2)) (d : decode cc pc = .ok (.getfield ix, 3)) (kk : Z g x nL (pc + 3) L (.ref (g.2.2.1 j) :: S) σ) : Z g x nL pc L (.ref (g.2.2.1 c) :: S) σ := by
  intro H locs ls hr hP hS hl
  obtain ⟨C, T, N, h1, h2, h3, h4⟩ := F
  exact va_get h.1 h.2.1 h.2.2.2.2.1 h3 h.2.2.2.1 h.2.2.2.2.2.1 hP c (ws_at g σ (sh_lt hs (by decide)) |>.trans (by rw [we_0 hs])) h1 k h2 (h.2.2.2.2.1 _ h4) (fun _ q => q) (v := .ref (g.2.2.1 j)) (by rw [List.getElem?_mapIdx, hf]; rfl) d (kk H locs ls hr hP hS hl)
theorem z_putI (h : Ok g x own cc nL dp) {ix ci k c : Nat} {fl : List Nat} {z : Int} {ty : FieldType} (ki : Int) (F : FP own ix ci k ty) (hs : sh c = (0, ci, fl)) (hf : fl[k]? = some 0) (hk : ((k : Nat) : Int) = ki) (rz : -2147483648 ≤ z ∧ z ≤ 2147483647) (hn : narrow ty (vI z) = vI z) (hfit : fits ty (vI z) = true) (d : decode cc pc = .ok (.putfield ix, 3)) (kk : Z g x nL (pc + 3) L S (up σ c ki z)) : Z g x nL pc L (vI z :: .ref (g.2.2.1 c) :: S) σ := by
  intro H locs ls hr hP hS hl
  subst hk
  obtain ⟨C, T, N, ty0, h1, h2, h3, h4, h5, h6, h7, h8⟩ := F
  have hc := sh_lt hs (by decide)
  refine va_put h.1 h.2.1 h.2.2.2.2.1 h3 ty0 h5 h6 h.2.2.2.1 h.2.2.2.2.2.1 hP (h.2.2.2.2.2.2.1.D h.2.2.2.2.2.2.2.1 σ) hS c (ws_at g σ hc |>.trans (by rw [we_0 hs])) h1 k h2 (h.2.2.2.2.1 _ h4) (fun _ q => q) h7 (ty := ty) (by rw [h5 k h2, h8]) hn hfit (by rw [List.length_mapIdx]; exact (List.getElem?_eq_some_iff.mp hf).1) d (fun H1 locs1 hP1 hD1 hS1 => ?_)
  refine kk H1 locs1 ls (Rn_up hr ⟨fun _ => rz, by omega⟩) ?_ hS1 hl
  rw [← ws_set g σ (up σ c k z) hc (fun c' hne => up_row_ne hne), we_0 hs]
  have e : (fl.mapIdx (fun k x => wv g.2.2.1 (σ c) k x)).set k (vI z) = fl.mapIdx (fun k' x => wv g.2.2.1 (up σ c k z c) k' x) := by
    apply List.ext_getElem?
    intro i
    by_cases hi : i = k
    · subst hi
      rw [List.getElem?_set_self (by rw [List.length_mapIdx]; exact (List.getElem?_eq_some_iff.mp hf).1), List.getElem?_mapIdx, hf]
      simp [wv, up_row]
    · rw [List.getElem?_set_ne (fun q => hi q.symm), List.getElem?_mapIdx, List.getElem?_mapIdx]
      have hne : ¬ ((i : Int) = (k : Int)) := by omega
      cases fl[i]? with
      | none => rfl
      | some y =>
        simp only [Option.map_some, up_row]
        unfold wv
        simp only [hne, if_false]
  rw [← e]; exact hP1
theorem z_putL (h : Ok g x own cc nL dp) {ix ci k c : Nat} {fl : List Nat} {z : Int} (ki : Int) (F : FP own ix ci k .long) (hs : sh c = (0, ci, fl)) (hf : fl[k]? = some 1) (hk : ((k : Nat) : Int) = ki) (rz : -9223372036854775808 ≤ z ∧ z ≤ 9223372036854775807) (d : decode cc pc = .ok (.putfield ix, 3)) (kk : Z g x nL (pc + 3) L S (up σ c ki z)) : Z g x nL pc L (vL z :: .ref (g.2.2.1 c) :: S) σ := by
  intro H locs ls hr hP hS hl
  subst hk
  obtain ⟨C, T, N, ty0, h1, h2, h3, h4, h5, h6, h7, h8⟩ := F
  have hc := sh_lt hs (by decide)
  refine va_put h.1 h.2.1 h.2.2.2.2.1 h3 ty0 h5 h6 h.2.2.2.1 h.2.2.2.2.2.1 hP (h.2.2.2.2.2.2.1.D h.2.2.2.2.2.2.2.1 σ) hS c (ws_at g σ hc |>.trans (by rw [we_0 hs])) h1 k h2 (h.2.2.2.2.1 _ h4) (fun _ q => q) h7 (ty := .long) (by rw [h5 k h2, h8]) rfl rfl (by rw [List.length_mapIdx]; exact (List.getElem?_eq_some_iff.mp hf).1) d (fun H1 locs1 hP1 hD1 hS1 => ?_)
  refine kk H1 locs1 ls (Rn_up hr ⟨fun q => ?_, rz⟩) ?_ hS1 hl
  · exfalso
    unfold lk at q; rw [hs] at q; simp [hf] at q
  rw [← ws_set g σ (up σ c k z) hc (fun c' hne => up_row_ne hne), we_0 hs]
  have e : (fl.mapIdx (fun k x => wv g.2.2.1 (σ c) k x)).set k (vL z) = fl.mapIdx (fun k' x => wv g.2.2.1 (up σ c k z c) k' x) := by
    apply List.ext_getElem?
    intro i
    by_cases hi : i = k
    · subst hi
      rw [List.getElem?_set_self (by rw [List.length_mapIdx]; exact (List.getElem?_eq_some_iff.mp hf).1), List.getElem?_mapIdx, hf]
      simp [wv, up_row]
    · rw [List.getElem?_set_ne (fun q => hi q.symm), List.getElem?_mapIdx, List.getElem?_mapIdx]
      have hne : ¬ ((i : Int) = (k : Int)) := by omega
      cases fl[i]? with
      | none => rfl
      | some y =>
        simp only [Option.map_some, up_row]
        unfold wv
        simp only [hne, if_false]
  rw [← e]; exact hP1
theorem z_iald (h : Ok g x own cc nL dp) {c n : Nat} {l : List Nat} {i : Int} (hs : sh c = (1, n, l)) (hi : 0 ≤ i ∧ i < n) (hn : n < 2147483648) (d : decode cc pc = .ok (.iaload, 1)) (kk : -2147483648 ≤ σ c i ∧ σ c i ≤ 2147483647 → Z g x nL (pc + 1) L (vI (σ c i) :: S) σ) : Z g x nL pc L (vI i :: .ref (g.2.2.1 c) :: S) σ := by
  intro H locs ls hr hP hS hl
  obtain ⟨h1, h2⟩ := in_ok hi hn
  refine va_iald h.1 h.2.1 h.2.2.2.2.2.1 hP c 0 (ws_at g σ (sh_lt hs (by decide)) |>.trans (by rw [we_1 hs])) rfl h1 d ?_
  rw [h2, Int.toNat_of_nonneg hi.1]
  exact kk ((hr c i).1 (lk_1 i hs)) H locs ls hr hP hS hl
theorem z_cald (h : Ok g x own cc nL dp) {c n : Nat} {l : List Nat} {i : Int} (hs : sh c = (2, n, l)) (hi : 0 ≤ i ∧ i < n) (hn : n < 2147483648) (d : decode cc pc = .ok (.caload, 1)) (kk : -2147483648 ≤ σ c i ∧ σ c i ≤ 2147483647 → Z g x nL (pc + 1) L (vI (σ c i) :: S) σ) : Z g x nL pc L (vI i :: .ref (g.2.2.1 c) :: S) σ := by
  intro H locs ls hr hP hS hl
  obtain ⟨h1, h2⟩ := in_ok hi hn
  refine va_cald h.1 h.2.1 h.2.2.2.2.2.1 hP c 1 (ws_at g σ (sh_lt hs (by decide)) |>.trans (by rw [we_2 hs])) rfl h1 d ?_
  rw [h2, Int.toNat_of_nonneg hi.1]
  exact kk ((hr c i).1 (lk_2 i hs)) H locs ls hr hP hS hl
theorem z_lald (h : Ok g x own cc nL dp) {c n : Nat} {l : List Nat} {i : Int} (hs : sh c = (3, n, l)) (hi : 0 ≤ i ∧ i < n) (hn : n < 2147483648) (d : decode cc pc = .ok (.laload, 1)) (kk : -9223372036854775808 ≤ σ c i ∧ σ c i ≤ 9223372036854775807 → Z g x nL (pc + 1) L (vL (σ c i) :: S) σ) : Z g x nL pc L (vI i :: .ref (g.2.2.1 c) :: S) σ := by
  intro H locs ls hr hP hS hl
  obtain ⟨h1, h2⟩ := in_ok hi hn
  refine va_lald h.1 h.2.1 h.2.2.2.2.2.1 hP c 2 (ws_at g σ (sh_lt hs (by decide)) |>.trans (by rw [we_3 hs])) rfl h1 d ?_
  rw [h2, Int.toNat_of_nonneg hi.1]
  exact kk (hr c i).2 H locs ls hr hP hS hl
theorem z_aald (h : Ok g x own cc nL dp) {c t : Nat} {fl : List Nat} {i : Int} (j : Nat) (hs : sh c = (4, t, fl)) (ht : t < 2) (hi : 0 ≤ i ∧ i < fl.length) (hn : fl.length < 2147483648) (hj : fl[i.toNat]? = some j) (d : decode cc pc = .ok (.aaload, 1)) (kk : Z g x nL (pc + 1) L (.ref (g.2.2.1 j) :: S) σ) : Z g x nL pc L (vI i :: .ref (g.2.2.1 c) :: S) σ := by
  intro H locs ls hr hP hS hl
  obtain ⟨h1, h2⟩ := in_ok hi hn
  have hty : ∃ C, (gty g)[3 + t]? = some (g.2.2.2 (3 + t), .object C) := by
    rcases (show t = 0 ∨ t = 1 by omega) with rfl | rfl
    · exact ⟨RX2, rfl⟩
    · exact ⟨RX5, rfl⟩
  obtain ⟨C, hty⟩ := hty
  refine va_aldq h.1 h.2.1 h.2.2.2.2.2.1 hP c (3 + t) (ws_at g σ (sh_lt hs (by decide)) |>.trans (by rw [we_4 hs])) hty h1 d ?_
  rw [h2, hj]
  exact kk H locs ls hr hP hS hl
theorem z_iast (h : Ok g x own cc nL dp) {c n : Nat} {l : List Nat} {i z : Int} (hs : sh c = (1, n, l)) (hi : 0 ≤ i ∧ i < n) (hn : n < 2147483648) (rz : -2147483648 ≤ z ∧ z ≤ 2147483647) (d : decode cc pc = .ok (.iastore, 1)) (kk : Z g x nL (pc + 1) L S (up σ c i z)) : Z g x nL pc L (vI z :: vI i :: .ref (g.2.2.1 c) :: S) σ := by
  intro H locs ls hr hP hS hl
  obtain ⟨h1, h2⟩ := in_ok hi hn
  have hc := sh_lt hs (by decide)
  refine va_iast h.1 h.2.1 h.2.2.2.2.2.1 hP (h.2.2.2.2.2.2.1.D h.2.2.2.2.2.2.2.1 σ) hS c 0 (ws_at g σ hc |>.trans (by rw [we_1 hs])) rfl h1 d (fun H1 locs1 hP1 hD1 hS1 => ?_)
  refine kk H1 locs1 ls (Rn_up hr ⟨fun _ => rz, by omega⟩) ?_ hS1 hl
  rw [← ws_set g σ (up σ c i z) hc (fun c' hne => up_row_ne hne), we_1 hs]
  rw [h2] at hP1
  have e : upd (fun k : Nat => Int32.ofInt (σ c k)) i.toNat (Int32.ofInt z) = fun k : Nat => Int32.ofInt (up σ c i z c k) := by
    funext k
    simp only [upd, up_row]
    by_cases hk : k = i.toNat
    · rw [if_pos hk, if_pos (by omega)]
    · rw [if_neg hk, if_neg (by omega)]
  rw [← e]; exact hP1
theorem z_last (h : Ok g x own cc nL dp) {c n : Nat} {l : List Nat} {i z : Int} (hs : sh c = (3, n, l)) (hi : 0 ≤ i ∧ i < n) (hn : n < 2147483648) (rz : -9223372036854775808 ≤ z ∧ z ≤ 9223372036854775807) (d : decode cc pc = .ok (.lastore, 1)) (kk : Z g x nL (pc + 1) L S (up σ c i z)) : Z g x nL pc L (vL z :: vI i :: .ref (g.2.2.1 c) :: S) σ := by
  intro H locs ls hr hP hS hl
  obtain ⟨h1, h2⟩ := in_ok hi hn
  have hc := sh_lt hs (by decide)
  refine va_last h.1 h.2.1 h.2.2.2.2.2.1 hP (h.2.2.2.2.2.2.1.D h.2.2.2.2.2.2.2.1 σ) hS c 2 (ws_at g σ hc |>.trans (by rw [we_3 hs])) rfl h1 d (fun H1 locs1 hP1 hD1 hS1 => ?_)
  refine kk H1 locs1 ls (Rn_up hr ⟨fun q => ?_, rz⟩) ?_ hS1 hl
  · exfalso; unfold lk at q; rw [hs] at q; cases q
  rw [← ws_set g σ (up σ c i z) hc (fun c' hne => up_row_ne hne), we_3 hs]
  rw [h2] at hP1
  have e : vp_updL (fun k : Nat => Int64.ofInt (σ c k)) i.toNat (Int64.ofInt z) = fun k : Nat => Int64.ofInt (up σ c i z c k) := by
    funext k
    simp only [vp_updL, up_row]
    by_cases hk : k = i.toNat
    · rw [if_pos hk, if_pos (by omega)]
    · rw [if_neg hk, if_neg (by omega)]
  rw [← e]; exact hP1
theorem z_cast (h : Ok g x own cc nL dp) {c n : Nat} {l : List Nat} {i z : Int} (hs : sh c = (2, n, l)) (hi : 0 ≤ i ∧ i < n) (hn : n < 2147483648) (rz : 0 ≤ z ∧ z < 65536) (d : decode cc pc = .ok (.castore, 1)) (kk : Z g x nL (pc + 1) L S (up σ c i z)) : Z g x nL pc L (vI z :: vI i :: .ref (g.2.2.1 c) :: S) σ := by
  intro H locs ls hr hP hS hl
  obtain ⟨h1, h2⟩ := in_ok hi hn
  have hc := sh_lt hs (by decide)
  refine va_cast h.1 h.2.1 h.2.2.2.2.2.1 hP (h.2.2.2.2.2.2.1.D h.2.2.2.2.2.2.2.1 σ) hS c 1 (ws_at g σ hc |>.trans (by rw [we_2 hs])) rfl h1 d (fun H1 locs1 hP1 hD1 hS1 => ?_)
  refine kk H1 locs1 ls (Rn_up hr ⟨fun _ => by omega, by omega⟩) ?_ hS1 hl
  rw [← ws_set g σ (up σ c i z) hc (fun c' hne => up_row_ne hne), we_2 hs]
  rw [h2] at hP1
  have hz : vp_nar .char (Int32.ofInt z) = Int32.ofInt z := by
    obtain ⟨n, rfl⟩ : ∃ n : Nat, z = n := ⟨z.toNat, by omega⟩
    have := (pk_charN (q := n) (by omega)).1
    unfold vp_nar
    rw [show Int32.ofInt (n : Int) = nI n from rfl, this]
  rw [hz] at hP1
  have e : upd (fun k : Nat => Int32.ofInt (σ c k)) i.toNat (Int32.ofInt z) = fun k : Nat => Int32.ofInt (up σ c i z c k) := by
    funext k
    simp only [upd, up_row]
    by_cases hk : k = i.toNat
    · rw [if_pos hk, if_pos (by omega)]
    · rw [if_neg hk, if_neg (by omega)]
  rw [← e]; exact hP1
theorem z_alen1 (h : Ok g x own cc nL dp) {c n : Nat} {l : List Nat} (hs : sh c = (1, n, l)) (d : decode cc pc = .ok (.arraylength, 1)) (kk : Z g x nL (pc + 1) L (vI n :: S) σ) : Z g x nL pc L (.ref (g.2.2.1 c) :: S) σ := by
  intro H locs ls hr hP hS hl
  exact va_alen h.1 h.2.1 h.2.2.2.2.2.1 hP c 0 (ws_at g σ (sh_lt hs (by decide)) |>.trans (by rw [we_1 hs])) (ty := .int) rfl (v := Int32.ofInt n) rfl d (kk H locs ls hr hP hS hl)
def cp (σ : Sg) (a : Nat) (i : Int) (b : Nat) (j n : Int) : Sg := fun c k => if c = b then (if j ≤ k ∧ k < j + n then σ a (i + (k - j)) else σ b k) else σ c k
theorem cp_row {σ : Sg} {a b : Nat} {i j n : Int} : cp σ a i b j n b = fun k => if j ≤ k ∧ k < j + n then σ a (i + (k - j)) else σ b k := by
  funext k; simp [cp]
theorem cp_row_ne {σ : Sg} {a b c : Nat} {i j n : Int} (h : c ≠ b) : cp σ a i b j n c = σ c := by
  funext k; simp [cp, h]
theorem Rn_cp {σ : Sg} (h : Rn σ) {a b : Nat} {i j n : Int} (hl : ∀ k, lk a k = false ∨ lk b k = true) (hab : ∀ k k', lk b k = false → lk a k' = false) : Rn (cp σ a i b j n) := by
  intro c k
  by_cases h1 : c = b
  · subst h1
    rw [cp_row]
    dsimp only
    split
    · exact ⟨fun q => (h a _).1 (hab k _ q), (h a _).2⟩
    · exact h c k
  · rw [cp_row_ne h1]; exact h c k
theorem clamp_ok {i : Int} (h : 0 ≤ i ∧ i ≤ 2147483647) : (Int32.ofInt i).toNatClampNeg = i.toNat := by
  rw [← Int32.toNat_toInt, iI_toInt ⟨by omega, h.2⟩]
theorem nlt_ok {i : Int} (h : 0 ≤ i ∧ i ≤ 2147483647) : ¬ Int32.ofInt i < 0 := fun q => by have := (iI_lt0 ⟨by omega, h.2⟩).mp q; omega
/-- System.arraycopy as class own links it -/
def AC (own : String) (ix : Nat) : Prop := Cond.methodLink own ix arraycopyName ∈ lw_g ∧ Cond.native arraycopyName ∈ lw_g ∧ Cond.static arraycopyName ∈ lw_g ∧ Cond.initialized "java/lang/System" ∈ lw_g
theorem z_copyI (h : Ok g x own cc nL dp) {a b n0 n1 ix : Nat} {l0 l1 : List Nat} {i j n : Int} (ac : AC own ix) (hd : 1 ≤ dp) (ha : sh a = (1, n0, l0)) (hb : sh b = (1, n1, l1)) (h0 : n0 < 2147483648) (h1 : n1 < 2147483648) (hi : 0 ≤ i) (hj : 0 ≤ j) (hn : 0 ≤ n) (hin : i + n ≤ n0) (hjn : j + n ≤ n1) (hst : (S.map fun v => v.category).sum ≤ 8) (d : decode cc pc = .ok (.invokestatic ix, 3)) (kk : Z g x nL (pc + 3) L S (cp σ a i b j n)) : Z g x nL pc L (vI n :: vI j :: .ref (g.2.2.1 b) :: vI i :: .ref (g.2.2.1 a) :: S) σ := by
  intro H locs ls hr hP hS hl
  have hca := sh_lt ha (by decide)
  have hcb := sh_lt hb (by decide)
  have e1 := clamp_ok (i := i) ⟨hi, by omega⟩
  have e2 := clamp_ok (i := j) ⟨hj, by omega⟩
  have e3 := clamp_ok (i := n) ⟨hn, by omega⟩
  have hfr : 1 ≤ (xR x).frames := Nat.le_trans hd h.2.2.2.2.2.2.2.2.2.1
  have hlo : 40 * dp ≤ (xR x).locals := h.2.2.2.2.2.2.2.2.2.2.1
  refine va_copyi h.1 h.2.1 (by rw [hl.1]; exact h.2.2.1) h.2.2.2.1 (h.2.2.2.2.1 _ ac.1) (h.2.2.2.2.1 _ ac.2.1) (h.2.2.2.2.1 _ ac.2.2.1) (h.2.2.2.2.1 _ ac.2.2.2) h.2.2.2.2.2.1 hP (h.2.2.2.2.2.2.1.D h.2.2.2.2.2.2.2.1 σ) hS a b 0 0 (ws_at g σ hca |>.trans (by rw [we_1 ha])) (ws_at g σ hcb |>.trans (by rw [we_1 hb])) rfl rfl rfl (nlt_ok ⟨hi, by omega⟩) (nlt_ok ⟨hj, by omega⟩) (nlt_ok ⟨hn, by omega⟩) (by rw [e1, e3]; omega) (by rw [e2, e3]; omega) (fun _ _ => rfl) hfr (by show _ + (7 + 11) ≤ _; omega) d (fun H1 locs1 hP1 hD1 hS1 => ?_)
  refine kk H1 locs1 ls (Rn_cp hr (fun k => Or.inl (lk_1 k ha)) (fun _ k' _ => lk_1 k' ha)) ?_ hS1 hl
  rw [← ws_set g σ (cp σ a i b j n) hcb (fun c' hne => cp_row_ne hne), we_1 hb]
  rw [e1, e2, e3] at hP1
  have e : va_cpy (fun k : Nat => Int32.ofInt (σ a k)) (fun k : Nat => Int32.ofInt (σ b k)) i.toNat j.toNat n.toNat = fun k : Nat => Int32.ofInt (cp σ a i b j n b k) := by
    funext k
    simp only [va_cpy, cp_row]
    by_cases hk : j.toNat ≤ k ∧ k < j.toNat + n.toNat
    · rw [if_pos hk, if_pos (by omega)]
      congr 2; omega
    · rw [if_neg hk, if_neg (by omega)]
  rw [← e]; exact hP1
theorem lk_3 {c n : Nat} {l : List Nat} (k : Int) (hs : sh c = (3, n, l)) : lk c k = true := by
  unfold lk; rw [hs]; rfl
theorem z_copyL (h : Ok g x own cc nL dp) {a b n0 n1 ix : Nat} {l0 l1 : List Nat} {i j n : Int} (ac : AC own ix) (hd : 1 ≤ dp) (ha : sh a = (3, n0, l0)) (hb : sh b = (3, n1, l1)) (h0 : n0 < 2147483648) (h1 : n1 < 2147483648) (hi : 0 ≤ i) (hj : 0 ≤ j) (hn : 0 ≤ n) (hin : i + n ≤ n0) (hjn : j + n ≤ n1) (hst : (S.map fun v => v.category).sum ≤ 8) (d : decode cc pc = .ok (.invokestatic ix, 3)) (kk : Z g x nL (pc + 3) L S (cp σ a i b j n)) : Z g x nL pc L (vI n :: vI j :: .ref (g.2.2.1 b) :: vI i :: .ref (g.2.2.1 a) :: S) σ := by
  intro H locs ls hr hP hS hl
  have hca := sh_lt ha (by decide)
  have hcb := sh_lt hb (by decide)
  have e1 := clamp_ok (i := i) ⟨hi, by omega⟩
  have e2 := clamp_ok (i := j) ⟨hj, by omega⟩
  have e3 := clamp_ok (i := n) ⟨hn, by omega⟩
  have hfr : 1 ≤ (xR x).frames := Nat.le_trans hd h.2.2.2.2.2.2.2.2.2.1
  have hlo : 40 * dp ≤ (xR x).locals := h.2.2.2.2.2.2.2.2.2.2.1
  refine va_copyl h.1 h.2.1 (by rw [hl.1]; exact h.2.2.1) h.2.2.2.1 (h.2.2.2.2.1 _ ac.1) (h.2.2.2.2.1 _ ac.2.1) (h.2.2.2.2.1 _ ac.2.2.1) (h.2.2.2.2.1 _ ac.2.2.2) h.2.2.2.2.2.1 hP (h.2.2.2.2.2.2.1.D h.2.2.2.2.2.2.2.1 σ) hS a b 2 2 (ws_at g σ hca |>.trans (by rw [we_3 ha])) (ws_at g σ hcb |>.trans (by rw [we_3 hb])) rfl rfl rfl (nlt_ok ⟨hi, by omega⟩) (nlt_ok ⟨hj, by omega⟩) (nlt_ok ⟨hn, by omega⟩) (by rw [e1, e3]; omega) (by rw [e2, e3]; omega) (fun _ _ => rfl) hfr (by show _ + (7 + 11) ≤ _; omega) d (fun H1 locs1 hP1 hD1 hS1 => ?_)
  refine kk H1 locs1 ls (Rn_cp hr (fun k => Or.inr (lk_3 k hb)) (fun k _ q => by rw [lk_3 k hb] at q; cases q)) ?_ hS1 hl
  rw [← ws_set g σ (cp σ a i b j n) hcb (fun c' hne => cp_row_ne hne), we_3 hb]
  rw [e1, e2, e3] at hP1
  have e : va_cpy (fun k : Nat => Int64.ofInt (σ a k)) (fun k : Nat => Int64.ofInt (σ b k)) i.toNat j.toNat n.toNat = fun k : Nat => Int64.ofInt (cp σ a i b j n b k) := by
    funext k
    simp only [va_cpy, cp_row]
    by_cases hk : j.toNat ≤ k ∧ k < j.toNat + n.toNat
    · rw [if_pos hk, if_pos (by omega)]
      congr 2; omega
    · rw [if_neg hk, if_neg (by omega)]
  rw [← e]; exact hP1
/-- Math.max as class own links it -/
def MX (own : String) (ix : Nat) : Prop := Cond.methodLink own ix Lib.Math.max.name ∈ lw_g ∧ Cond.static Lib.Math.max.name ∈ lw_g ∧ Cond.initialized "java/lang/Math" ∈ lw_g ∧ Cond.code Lib.Math.max.name Lib.Math.max.code 2 (some .int) ∈ lw_g
theorem z_max (h : Ok g x own cc nL dp) {ix : Nat} {a b : Int} (mx : MX own ix) (hd : 1 ≤ dp) (ra : -2147483648 ≤ a ∧ a ≤ 2147483647) (rb : -2147483648 ≤ b ∧ b ≤ 2147483647) (hst : (S.map fun v => v.category).sum ≤ 8) (d : decode cc pc = .ok (.invokestatic ix, 3)) (kk : Z g x nL (pc + 3) L (vI (max a b) :: S) σ) : Z g x nL pc L (vI b :: vI a :: S) σ := by
  intro H locs ls hr hP hS hl
  have hfr : 1 ≤ (xR x).frames := Nat.le_trans hd h.2.2.2.2.2.2.2.2.2.1
  have hlo : 40 * dp ≤ (xR x).locals := h.2.2.2.2.2.2.2.2.2.2.1
  refine va_mmax h.1 h.2.1 (by rw [hl.1]; exact h.2.2.1) h.2.2.2.1 (h.2.2.2.2.1 _ mx.1) (h.2.2.2.2.1 _ mx.2.1) (h.2.2.2.2.1 _ mx.2.2.1) (h.2.2.2.2.1 _ mx.2.2.2) hfr (by omega) h.2.2.2.2.2.2.2.2.2.2.2.1 h.2.2.2.2.2.2.2.2.2.2.2.2 d ?_
  have e : (if Int32.ofInt a < Int32.ofInt b then Int32.ofInt b else Int32.ofInt a) = Int32.ofInt (max a b) := by
    by_cases q : a < b
    · rw [if_pos ((iI_lt ra rb).mpr q), Int.max_def, if_pos (by omega)]
    · rw [if_neg (fun z => q ((iI_lt ra rb).mp z)), Int.max_def]
      by_cases q2 : a ≤ b
      · rw [if_pos q2]; congr 1; omega
      · rw [if_neg q2]
  rw [e]
  exact kk H locs ls hr hP hS hl
end ZF
