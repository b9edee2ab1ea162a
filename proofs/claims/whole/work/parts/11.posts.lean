/-! ===== posts by kind of answer ===== -/
def b2i (b : Bool) : Int := if b then 1 else 0
theorem b2i_t : b2i true = 1 := rfl
theorem b2i_f : b2i false = 0 := rfl
theorem b2i_r (b : Bool) : 0 ≤ b2i b ∧ b2i b ≤ 1 := by cases b <;> decide
theorem b2i_0 {b : Bool} : b2i b = 0 ↔ b = false := by cases b <;> decide
theorem b2i_1 {b : Bool} : b2i b ≠ 0 ↔ b = true := by cases b <;> decide
def pI (P : Int → Sg → Prop) : List Value → Sg → Prop := fun rv σ => ∃ r : Int, rv = [vI r] ∧ P r σ
def pL (P : Int → Sg → Prop) : List Value → Sg → Prop := fun rv σ => ∃ r : Int, rv = [vL r] ∧ P r σ
def pB (P : Bool → Sg → Prop) : List Value → Sg → Prop := fun rv σ => ∃ b : Bool, rv = [vI (b2i b)] ∧ P b σ
def pV (P : Sg → Prop) : List Value → Sg → Prop := fun rv σ => rv = [] ∧ P σ
section ZP
variable {g : G} {x : Cx} {own : String} {cc : ByteArray} {nL dp pc : Nat} {L L' : List (Nat × Value)} {S : List Value} {σ : Sg}
theorem z_retI {P : Int → Sg → Prop} {z : Int} (h : Ok g x own cc nL dp) (r : Rt g x (some .int) (pI P)) (d : decode cc pc = .ok (.ireturn, 1)) (hp : P z σ) : Z g x nL pc L [vI z] σ := z_iret h r d ⟨z, rfl, hp⟩
theorem z_retL {P : Int → Sg → Prop} {z : Int} (h : Ok g x own cc nL dp) (r : Rt g x (some .long) (pL P)) (d : decode cc pc = .ok (.lreturn, 1)) (hp : P z σ) : Z g x nL pc L [vL z] σ := z_lret h r d ⟨z, rfl, hp⟩
theorem z_retT {P : Bool → Sg → Prop} (h : Ok g x own cc nL dp) (r : Rt g x (some .boolean) (pB P)) (d : decode cc pc = .ok (.ireturn, 1)) (hp : P true σ) : Z g x nL pc L [vI 1] σ := z_zret h r d (Or.inr rfl) ⟨true, rfl, hp⟩
theorem z_retF {P : Bool → Sg → Prop} (h : Ok g x own cc nL dp) (r : Rt g x (some .boolean) (pB P)) (d : decode cc pc = .ok (.ireturn, 1)) (hp : P false σ) : Z g x nL pc L [vI 0] σ := z_zret h r d (Or.inl rfl) ⟨false, rfl, hp⟩
theorem z_retB {P : Bool → Sg → Prop} {b : Bool} (h : Ok g x own cc nL dp) (r : Rt g x (some .boolean) (pB P)) (d : decode cc pc = .ok (.ireturn, 1)) (hp : P b σ) : Z g x nL pc L [vI (b2i b)] σ := z_zret h r d (by cases b <;> simp [b2i]) ⟨b, rfl, hp⟩
theorem z_retV {P : Sg → Prop} (h : Ok g x own cc nL dp) (r : Rt g x none (pV P)) (d : decode cc pc = .ok (.return_, 1)) (hp : P σ) : Z g x nL pc L [] σ := z_vret h r d ⟨rfl, hp⟩
theorem z_cvI {P : Int → Sg → Prop} (h : Ok g x own cc nL dp) {I : MI} {ix n ci b N : Nat} {fl : List Nat} {T : u_T} {As : List Value} {st : List Value} (M : MM g I (.ref (g.2.2.1 b) :: As) σ (pI P)) (cv : CV own ix I n) (hs : sh b = (0, ci, fl)) (hcl : vwCl[ci]? = some (I.1.cls, T, N)) (hn : As.length = n) (hst : As.reverse ++ .ref (g.2.2.1 b) :: S = st) (hd : I.2.2.2.2 < dp) (hsum : (S.map fun v => v.category).sum ≤ 8) (d : decode cc pc = .ok (.invokevirtual ix, 3)) (kk : ∀ (r : Int) (σ' : Sg), P r σ' → Z g x nL (pc + 3) L (vI r :: S) σ') : Z g x nL pc L st σ :=
  z_callV h M cv hs hcl hn hst hd hsum d (fun rv σ' hp => by obtain ⟨r, rfl, hp⟩ := hp; exact kk r σ' hp)
theorem z_cvL {P : Int → Sg → Prop} (h : Ok g x own cc nL dp) {I : MI} {ix n ci b N : Nat} {fl : List Nat} {T : u_T} {As : List Value} {st : List Value} (M : MM g I (.ref (g.2.2.1 b) :: As) σ (pL P)) (cv : CV own ix I n) (hs : sh b = (0, ci, fl)) (hcl : vwCl[ci]? = some (I.1.cls, T, N)) (hn : As.length = n) (hst : As.reverse ++ .ref (g.2.2.1 b) :: S = st) (hd : I.2.2.2.2 < dp) (hsum : (S.map fun v => v.category).sum ≤ 8) (d : decode cc pc = .ok (.invokevirtual ix, 3)) (kk : ∀ (r : Int) (σ' : Sg), P r σ' → Z g x nL (pc + 3) L (vL r :: S) σ') : Z g x nL pc L st σ :=
  z_callV h M cv hs hcl hn hst hd hsum d (fun rv σ' hp => by obtain ⟨r, rfl, hp⟩ := hp; exact kk r σ' hp)
theorem z_cvB {P : Bool → Sg → Prop} (h : Ok g x own cc nL dp) {I : MI} {ix n ci b N : Nat} {fl : List Nat} {T : u_T} {As : List Value} {st : List Value} (M : MM g I (.ref (g.2.2.1 b) :: As) σ (pB P)) (cv : CV own ix I n) (hs : sh b = (0, ci, fl)) (hcl : vwCl[ci]? = some (I.1.cls, T, N)) (hn : As.length = n) (hst : As.reverse ++ .ref (g.2.2.1 b) :: S = st) (hd : I.2.2.2.2 < dp) (hsum : (S.map fun v => v.category).sum ≤ 8) (d : decode cc pc = .ok (.invokevirtual ix, 3)) (kT : ∀ (σ' : Sg), P true σ' → Z g x nL (pc + 3) L (vI 1 :: S) σ') (kF : ∀ (σ' : Sg), P false σ' → Z g x nL (pc + 3) L (vI 0 :: S) σ') : Z g x nL pc L st σ :=
  z_callV h M cv hs hcl hn hst hd hsum d (fun rv σ' hp => by
    obtain ⟨b, rfl, hp⟩ := hp
    cases b
    · exact kF σ' hp
    · exact kT σ' hp)
theorem z_cvV {P : Sg → Prop} (h : Ok g x own cc nL dp) {I : MI} {ix n ci b N : Nat} {fl : List Nat} {T : u_T} {As : List Value} {st : List Value} (M : MM g I (.ref (g.2.2.1 b) :: As) σ (pV P)) (cv : CV own ix I n) (hs : sh b = (0, ci, fl)) (hcl : vwCl[ci]? = some (I.1.cls, T, N)) (hn : As.length = n) (hst : As.reverse ++ .ref (g.2.2.1 b) :: S = st) (hd : I.2.2.2.2 < dp) (hsum : (S.map fun v => v.category).sum ≤ 8) (d : decode cc pc = .ok (.invokevirtual ix, 3)) (kk : ∀ (σ' : Sg), P σ' → Z g x nL (pc + 3) L S σ') : Z g x nL pc L st σ :=
  z_callV h M cv hs hcl hn hst hd hsum d (fun rv σ' hp => by obtain ⟨rfl, hp⟩ := hp; exact kk σ' hp)
theorem z_csI {P : Int → Sg → Prop} (h : Ok g x own cc nL dp) {I : MI} {ix n : Nat} {As : List Value} {st : List Value} (M : MM g I As σ (pI P)) (cv : CS own ix I n) (hn : As.length = n) (hst : As.reverse ++ S = st) (hd : I.2.2.2.2 < dp) (hsum : (S.map fun v => v.category).sum ≤ 8) (d : decode cc pc = .ok (.invokestatic ix, 3)) (kk : ∀ (r : Int) (σ' : Sg), P r σ' → Z g x nL (pc + 3) L (vI r :: S) σ') : Z g x nL pc L st σ :=
  z_callS h M cv hn hst hd hsum d (fun rv σ' hp => by obtain ⟨r, rfl, hp⟩ := hp; exact kk r σ' hp)
theorem z_csL {P : Int → Sg → Prop} (h : Ok g x own cc nL dp) {I : MI} {ix n : Nat} {As : List Value} {st : List Value} (M : MM g I As σ (pL P)) (cv : CS own ix I n) (hn : As.length = n) (hst : As.reverse ++ S = st) (hd : I.2.2.2.2 < dp) (hsum : (S.map fun v => v.category).sum ≤ 8) (d : decode cc pc = .ok (.invokestatic ix, 3)) (kk : ∀ (r : Int) (σ' : Sg), P r σ' → Z g x nL (pc + 3) L (vL r :: S) σ') : Z g x nL pc L st σ :=
  z_callS h M cv hn hst hd hsum d (fun rv σ' hp => by obtain ⟨r, rfl, hp⟩ := hp; exact kk r σ' hp)
theorem z_csB {P : Bool → Sg → Prop} (h : Ok g x own cc nL dp) {I : MI} {ix n : Nat} {As : List Value} {st : List Value} (M : MM g I As σ (pB P)) (cv : CS own ix I n) (hn : As.length = n) (hst : As.reverse ++ S = st) (hd : I.2.2.2.2 < dp) (hsum : (S.map fun v => v.category).sum ≤ 8) (d : decode cc pc = .ok (.invokestatic ix, 3)) (kT : ∀ (σ' : Sg), P true σ' → Z g x nL (pc + 3) L (vI 1 :: S) σ') (kF : ∀ (σ' : Sg), P false σ' → Z g x nL (pc + 3) L (vI 0 :: S) σ') : Z g x nL pc L st σ :=
  z_callS h M cv hn hst hd hsum d (fun rv σ' hp => by
    obtain ⟨b, rfl, hp⟩ := hp
    cases b
    · exact kF σ' hp
    · exact kT σ' hp)
/-- the same world and answer under a weaker post -/
theorem MM.mono {I : MI} {av : List Value} {p q : List Value → Sg → Prop} (h : MM g I av σ p) (hpq : ∀ rv σ', p rv σ' → q rv σ') : MM g I av σ q := by
  intro sz T e ha hc hk s m args below hf happ hP hK
  obtain ⟨t, o, a1, a2, a3, ⟨⟨⟨v, σ', b1, b2, b3⟩, b4⟩, b5⟩⟩ := h sz T e ha hc hk s m args below hf happ hP hK
  exact ⟨t, o, a1, a2, a3, ⟨⟨⟨v, σ', b1, hpq _ _ b2, b3⟩, b4⟩, b5⟩⟩
/-- the answer's value by an equation -/
theorem z_top {a b : Int} (e : a = b) (k : Z g x nL pc L (vI b :: S) σ) : Z g x nL pc L (vI a :: S) σ := e ▸ k
theorem z_topL {a b : Int} (e : a = b) (k : Z g x nL pc L (vL b :: S) σ) : Z g x nL pc L (vL a :: S) σ := e ▸ k
theorem z_sg {τ : Sg} (e : σ = τ) (k : Z g x nL pc L S τ) : Z g x nL pc L S σ := e ▸ k
/-- the world's numbers are in their ranges -/
theorem z_rn (k : Rn σ → Z g x nL pc L S σ) : Z g x nL pc L S σ := fun H locs ls hr hP hS hl => k hr H locs ls hr hP hS hl
end ZP
