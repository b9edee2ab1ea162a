/-! ===== answers that change nothing ===== -/
def pE (e : Int) (σ0 : Sg) : Int → Sg → Prop := fun r σ => r = e ∧ σ = σ0
def pQ (c : Prop) (σ0 : Sg) : Bool → Sg → Prop := fun b σ => (b = true ↔ c) ∧ σ = σ0
section ZQ
variable {g : G} {x : Cx} {own : String} {cc : ByteArray} {nL dp pc : Nat} {L L' : List (Nat × Value)} {S : List Value} {σ σ0 : Sg}
theorem z_retE {e z : Int} (h : Ok g x own cc nL dp) (r : Rt g x (some .int) (pI (pE e σ0))) (d : decode cc pc = .ok (.ireturn, 1)) (hz : z = e) (hs : σ = σ0) : Z g x nL pc L [vI z] σ := z_retI h r d ⟨hz, hs⟩
theorem z_retEL {e z : Int} (h : Ok g x own cc nL dp) (r : Rt g x (some .long) (pL (pE e σ0))) (d : decode cc pc = .ok (.lreturn, 1)) (hz : z = e) (hs : σ = σ0) : Z g x nL pc L [vL z] σ := z_retL h r d ⟨hz, hs⟩
theorem z_retQT {c : Prop} (h : Ok g x own cc nL dp) (r : Rt g x (some .boolean) (pB (pQ c σ0))) (d : decode cc pc = .ok (.ireturn, 1)) (hz : c) (hs : σ = σ0) : Z g x nL pc L [vI 1] σ := z_retT h r d ⟨iff_of_true rfl hz, hs⟩
theorem z_retQF {c : Prop} (h : Ok g x own cc nL dp) (r : Rt g x (some .boolean) (pB (pQ c σ0))) (d : decode cc pc = .ok (.ireturn, 1)) (hz : ¬ c) (hs : σ = σ0) : Z g x nL pc L [vI 0] σ := z_retF h r d ⟨iff_of_false (by decide) hz, hs⟩
theorem z_retQB {c : Prop} {b : Bool} (h : Ok g x own cc nL dp) (r : Rt g x (some .boolean) (pB (pQ c σ0))) (d : decode cc pc = .ok (.ireturn, 1)) (hz : b = true ↔ c) (hs : σ = σ0) : Z g x nL pc L [vI (b2i b)] σ := z_retB h r d ⟨hz, hs⟩
theorem z_cvE {e : Int} (h : Ok g x own cc nL dp) {I : MI} {ix n ci b N : Nat} {fl : List Nat} {T : u_T} {As : List Value} {st : List Value} (M : MM g I (.ref (g.2.2.1 b) :: As) σ (pI (pE e σ))) (cv : CV own ix I n) (hs : sh b = (0, ci, fl)) (hcl : vwCl[ci]? = some (I.1.cls, T, N)) (hn : As.length = n) (hst : As.reverse ++ .ref (g.2.2.1 b) :: S = st) (hd : I.2.2.2.2 < dp) (hsum : (S.map fun v => v.category).sum ≤ 8) (d : decode cc pc = .ok (.invokevirtual ix, 3)) (kk : Z g x nL (pc + 3) L (vI e :: S) σ) : Z g x nL pc L st σ :=
  z_cvI h M cv hs hcl hn hst hd hsum d (fun r σ' hp => by obtain ⟨rfl, rfl⟩ := hp; exact kk)
theorem z_cvEL {e : Int} (h : Ok g x own cc nL dp) {I : MI} {ix n ci b N : Nat} {fl : List Nat} {T : u_T} {As : List Value} {st : List Value} (M : MM g I (.ref (g.2.2.1 b) :: As) σ (pL (pE e σ))) (cv : CV own ix I n) (hs : sh b = (0, ci, fl)) (hcl : vwCl[ci]? = some (I.1.cls, T, N)) (hn : As.length = n) (hst : As.reverse ++ .ref (g.2.2.1 b) :: S = st) (hd : I.2.2.2.2 < dp) (hsum : (S.map fun v => v.category).sum ≤ 8) (d : decode cc pc = .ok (.invokevirtual ix, 3)) (kk : Z g x nL (pc + 3) L (vL e :: S) σ) : Z g x nL pc L st σ :=
  z_cvL h M cv hs hcl hn hst hd hsum d (fun r σ' hp => by obtain ⟨rfl, rfl⟩ := hp; exact kk)
theorem z_cvQ {c : Prop} (h : Ok g x own cc nL dp) {I : MI} {ix n ci b N : Nat} {fl : List Nat} {T : u_T} {As : List Value} {st : List Value} (M : MM g I (.ref (g.2.2.1 b) :: As) σ (pB (pQ c σ))) (cv : CV own ix I n) (hs : sh b = (0, ci, fl)) (hcl : vwCl[ci]? = some (I.1.cls, T, N)) (hn : As.length = n) (hst : As.reverse ++ .ref (g.2.2.1 b) :: S = st) (hd : I.2.2.2.2 < dp) (hsum : (S.map fun v => v.category).sum ≤ 8) (d : decode cc pc = .ok (.invokevirtual ix, 3)) (kT : c → Z g x nL (pc + 3) L (vI 1 :: S) σ) (kF : ¬ c → Z g x nL (pc + 3) L (vI 0 :: S) σ) : Z g x nL pc L st σ :=
  z_cvB h M cv hs hcl hn hst hd hsum d (fun σ' hp => by obtain ⟨h1, rfl⟩ := hp; exact kT (h1.mp rfl)) (fun σ' hp => by obtain ⟨h1, rfl⟩ := hp; exact kF (fun q => Bool.noConfusion (h1.mpr q)))
theorem z_csE {e : Int} (h : Ok g x own cc nL dp) {I : MI} {ix n : Nat} {As : List Value} {st : List Value} (M : MM g I As σ (pI (pE e σ))) (cv : CS own ix I n) (hn : As.length = n) (hst : As.reverse ++ S = st) (hd : I.2.2.2.2 < dp) (hsum : (S.map fun v => v.category).sum ≤ 8) (d : decode cc pc = .ok (.invokestatic ix, 3)) (kk : Z g x nL (pc + 3) L (vI e :: S) σ) : Z g x nL pc L st σ :=
  z_csI h M cv hn hst hd hsum d (fun r σ' hp => by obtain ⟨rfl, rfl⟩ := hp; exact kk)
theorem z_csEL {e : Int} (h : Ok g x own cc nL dp) {I : MI} {ix n : Nat} {As : List Value} {st : List Value} (M : MM g I As σ (pL (pE e σ))) (cv : CS own ix I n) (hn : As.length = n) (hst : As.reverse ++ S = st) (hd : I.2.2.2.2 < dp) (hsum : (S.map fun v => v.category).sum ≤ 8) (d : decode cc pc = .ok (.invokestatic ix, 3)) (kk : Z g x nL (pc + 3) L (vL e :: S) σ) : Z g x nL pc L st σ :=
  z_csL h M cv hn hst hd hsum d (fun r σ' hp => by obtain ⟨rfl, rfl⟩ := hp; exact kk)
theorem z_csQ {c : Prop} (h : Ok g x own cc nL dp) {I : MI} {ix n : Nat} {As : List Value} {st : List Value} (M : MM g I As σ (pB (pQ c σ))) (cv : CS own ix I n) (hn : As.length = n) (hst : As.reverse ++ S = st) (hd : I.2.2.2.2 < dp) (hsum : (S.map fun v => v.category).sum ≤ 8) (d : decode cc pc = .ok (.invokestatic ix, 3)) (kT : c → Z g x nL (pc + 3) L (vI 1 :: S) σ) (kF : ¬ c → Z g x nL (pc + 3) L (vI 0 :: S) σ) : Z g x nL pc L st σ :=
  z_csB h M cv hn hst hd hsum d (fun σ' hp => by obtain ⟨h1, rfl⟩ := hp; exact kT (h1.mp rfl)) (fun σ' hp => by obtain ⟨h1, rfl⟩ := hp; exact kF (fun q => Bool.noConfusion (h1.mpr q)))
end ZQ
theorem up_up {σ : Sg} {c : Nat} {k a b : Int} : up (up σ c k a) c k b = up σ c k b := by
  funext c' k'; unfold up; split <;> (try split) <;> rfl
theorem up_self {σ : Sg} {c : Nat} {k : Int} : up σ c k (σ c k) = σ := by
  funext c' k'; unfold up; split
  · split
    · subst_vars; rfl
    · rfl
  · rfl
/-- a stretch of a row filled -/
def fl (σ : Sg) (c : Nat) (lo hi : Int) (f : Int → Int) : Sg := fun c' k => if c' = c ∧ lo ≤ k ∧ k < hi then f k else σ c' k
theorem fl_ne {σ : Sg} {c c' : Nat} {lo hi k : Int} {f : Int → Int} (h : c' ≠ c) : fl σ c lo hi f c' k = σ c' k := by simp [fl, h]
theorem fl_row_ne {σ : Sg} {c c' : Nat} {lo hi : Int} {f : Int → Int} (h : c' ≠ c) : fl σ c lo hi f c' = σ c' := by funext k; simp [fl, h]
theorem fl_out {σ : Sg} {c c' : Nat} {lo hi k : Int} {f : Int → Int} (h : k < lo ∨ hi ≤ k) : fl σ c lo hi f c' k = σ c' k := by unfold fl; rw [if_neg (by omega)]
theorem fl_in {σ : Sg} {c : Nat} {lo hi k : Int} {f : Int → Int} (h : lo ≤ k ∧ k < hi) : fl σ c lo hi f c k = f k := by unfold fl; rw [if_pos ⟨rfl, h⟩]
theorem fl_0 {σ : Sg} {c : Nat} {lo hi : Int} {f : Int → Int} (h : hi ≤ lo) : fl σ c lo hi f = σ := by funext c' k; unfold fl; rw [if_neg (by omega)]
theorem fl_s {σ : Sg} {c : Nat} {lo hi hi' k v : Int} {f : Int → Int} (h : lo ≤ hi) (hk : k = hi) (hv : v = f hi) (he : hi' = hi + 1) : up (fl σ c lo hi f) c k v = fl σ c lo hi' f := by
  subst hk; subst he; subst hv
  funext c' k'
  unfold up fl
  by_cases hc : c' = c
  · subst hc
    by_cases e : k' = k
    · subst e; rw [if_pos rfl, if_pos rfl, if_pos ⟨rfl, by omega, by omega⟩]
    · rw [if_pos rfl, if_neg e]
      by_cases q : lo ≤ k' ∧ k' < k
      · rw [if_pos ⟨rfl, q⟩, if_pos ⟨rfl, by omega, by omega⟩]
      · rw [if_neg (fun z => q z.2), if_neg (fun z => q ⟨z.2.1, by omega⟩)]
  · rw [if_neg hc, if_neg (fun z => hc z.1), if_neg (fun z => hc z.1)]
/-- the cells of a Heard at o -/
def Hd (o : Nat) : Prop := sh o = (0, 1, [o + 1 + 2, o + 2 + 2, o + 3 + 2, 0, 0, 0, 0]) ∧ sh (o + 1) = (1, 8, []) ∧ sh (o + 2) = (1, 32, []) ∧ sh (o + 3) = (1, 32, [])
theorem hd_1 : Hd 1 := ⟨rfl, rfl, rfl, rfl⟩
theorem hd_5 : Hd 5 := ⟨rfl, rfl, rfl, rfl⟩
theorem hd_9 : Hd 9 := ⟨rfl, rfl, rfl, rfl⟩
theorem hd_r (i : Nat) (h : i < 8) : Hd (15 + 4 * i) := by
  rcases (show i = 0 ∨ i = 1 ∨ i = 2 ∨ i = 3 ∨ i = 4 ∨ i = 5 ∨ i = 6 ∨ i = 7 by omega) with rfl | rfl | rfl | rfl | rfl | rfl | rfl | rfl <;> exact ⟨rfl, rfl, rfl, rfl⟩
theorem hd_q (i : Nat) (h : i < 8) : Hd (49 + 4 * i) := by
  rcases (show i = 0 ∨ i = 1 ∨ i = 2 ∨ i = 3 ∨ i = 4 ∨ i = 5 ∨ i = 6 ∨ i = 7 by omega) with rfl | rfl | rfl | rfl | rfl | rfl | rfl | rfl <;> exact ⟨rfl, rfl, rfl, rfl⟩
