/-! ===== methods by contract over the world ===== -/
def rmD (d : Nat) : Room := { frames := d, cells := 0, slots := 0, locals := 40 * d }
def wOf (I : MI) : List Cond := Cond.code I.1 I.2.1 I.2.2.1 I.2.2.2.1 :: lw_g
def Bst (g : G) (σ : Sg) (U : State) : Prop := Rn σ ∧ va_P g.2.1 vwCl (ws g σ) U.heap ∧ va_K g.2.1 vwCl (gty g) U ∧ Dj g
def Qm (g : G) (post : List Value → Sg → Prop) (sz : Nat) : Array Value → State → Outcome → State → Prop := fun _ st oc t => (∃ (v : Option Value) (σ' : Sg), oc = .returned v ∧ post v.toList σ' ∧ Bst g σ' t) ∧ va_F (Aa g sz) st t
/-- called with these values over a world that holds σ, the method returns; what it answers and what the world holds then meet post; nothing else has changed -/
def MM (g : G) (I : MI) (av : List Value) (σ : Sg) (post : List Value → Sg → Prop) : Prop := ∀ sz : Nat, Met g.1 I.1 (wOf I) (rmD I.2.2.2.2) (va_Pc av (fun U => U.heap.size = sz ∧ Bst g σ U)) (Qm g post sz) 0 0 (Aa g sz)
def Rt (g : G) (x : Cx) (ret : Option FieldType) (post : List Value → Sg → Prop) : Prop :=
  xQ x = MQ (xb x) (Qm g post (xs x).heap.size) (xa x) (xs x) (xk x) (xn x) (Aa g (xs x).heap.size) ∧ xA x = Aa g (xs x).heap.size ∧ (xt x).sig.returnType = ret ∧ (xt x).locks = false
theorem lw_ggood {w : Cond} (h : w ∈ lw_g) : GoodIn lw_g [w] := fun v hv => by
  rw [List.mem_singleton.mp hv]; exact ⟨h, good_of_word (List.mem_filter.mp h).2⟩
theorem lw_gIn {l : List Cond} (h : ∀ w ∈ l, w ∈ lw_g) : GoodIn lw_g l := fun v hv => ⟨h v hv, good_of_word (List.mem_filter.mp (h v hv)).2⟩
theorem mm_of {g : G} {I : MI} {av : List Value} {σ : Sg} {post : List Value → Sg → Prop} {own : String} {cc : ByteArray} {nL dp : Nat} {ret : Option FieldType} {y : MethodName} {L : List (Nat × Value)} (hI : I = (y, cc, nL, ret, dp)) (hp : plainName y.cls = true) (ho : y.cls = own) (hL : lv_args 0 av = L) (hlen : (lg_sl av).length ≤ nL)
    (k : ∀ x : Cx, Ok g x own cc nL dp → Rt g x ret post → Z g x nL 0 L [] σ) : MM g I av σ post := by
  subst hI; subst ho
  intro sz
  refine Met.ofW (cc := cc) (maxL := nL) (ret := ret) hp rfl ?_
  intro p e s m args below meth c s₁ B hml hv
  obtain ⟨rfl, hsz, hr, hP, hK, hj⟩ := hv
  subst hsz
  have hts := atoms_spec (ws := Cond.code y cc nL ret :: lw_g) B.pre
  have hown : s.vm.findClass y.cls = some m.cls := findClass_of_methodNamed B.named
  have hl := lv_entry av (n := nL) hlen
  rw [hL] at hl
  rw [lg_entry_eq]
  let x : Cx := (p, e, rmD dp, s, m, av.toArray, below, meth, c, 0, 0, MQ below (Qm g post s.heap.size) av.toArray s 0 0 (Aa g s.heap.size), Aa g s.heap.size)
  have ok : Ok g x y.cls cc nL dp := ⟨B.exec, B.bytes, hml, hown, fun w hw => hts w (List.mem_cons_of_mem _ hw), hK, hj, fun c hc => Or.inl ⟨c, hc, rfl⟩, fun q hq => Or.inr hq, Nat.le_refl _, Nat.le_refl _, Nat.le_refl _, Nat.le_refl _⟩
  have rt : Rt g x ret post := ⟨rfl, rfl, B.returns, B.notSynchronized⟩
  exact k x ok rt s.heap [] _ hr hP va_S.rf hl
section ZM
variable {g : G} {x : Cx} {own : String} {cc : ByteArray} {nL dp pc : Nat} {L L' : List (Nat × Value)} {S : List Value} {σ : Sg} {post : List Value → Sg → Prop}
theorem z_iret (h : Ok g x own cc nL dp) {z : Int} (r : Rt g x (some .int) post) (d : decode cc pc = .ok (.ireturn, 1)) (hp : post [vI z] σ) : Z g x nL pc L [vI z] σ := by
  intro H locs ls hr hP hS hl
  obtain ⟨r1, r2, r3, r4⟩ := r
  unfold Wx
  rw [r1]
  rw [r2] at hS
  exact W.iret h.1 h.2.1 r3 (fun t ht hW => ⟨⟨some (vI z), σ, rfl, hp, hr, by rw [ht]; exact hP, va_K.moved hW.alike h.2.2.2.2.2.1, h.2.2.2.2.2.2.1⟩, hS.F ht⟩) hS.2.2 d r4
theorem z_zret (h : Ok g x own cc nL dp) {z : Int} (r : Rt g x (some .boolean) post) (d : decode cc pc = .ok (.ireturn, 1)) (hz : z = 0 ∨ z = 1) (hp : post [vI z] σ) : Z g x nL pc L [vI z] σ := by
  intro H locs ls hr hP hS hl
  obtain ⟨r1, r2, r3, r4⟩ := r
  unfold Wx
  rw [r1]
  rw [r2] at hS
  exact W.zret h.1 h.2.1 r3 (by rcases hz with rfl | rfl <;> decide) (fun t ht hW => ⟨⟨some (vI z), σ, rfl, hp, hr, by rw [ht]; exact hP, va_K.moved hW.alike h.2.2.2.2.2.1, h.2.2.2.2.2.2.1⟩, hS.F ht⟩) hS.2.2 d r4
theorem z_lret (h : Ok g x own cc nL dp) {z : Int} (r : Rt g x (some .long) post) (d : decode cc pc = .ok (.lreturn, 1)) (hp : post [vL z] σ) : Z g x nL pc L [vL z] σ := by
  intro H locs ls hr hP hS hl
  obtain ⟨r1, r2, r3, r4⟩ := r
  unfold Wx
  rw [r1]
  rw [r2] at hS
  exact W.lret h.1 h.2.1 r3 (fun t ht hW => ⟨⟨some (vL z), σ, rfl, hp, hr, by rw [ht]; exact hP, va_K.moved hW.alike h.2.2.2.2.2.1, h.2.2.2.2.2.2.1⟩, hS.F ht⟩) hS.2.2 d r4
theorem z_vret (h : Ok g x own cc nL dp) (r : Rt g x none post) (d : decode cc pc = .ok (.return_, 1)) (hp : post [] σ) : Z g x nL pc L [] σ := by
  intro H locs ls hr hP hS hl
  obtain ⟨r1, r2, r3, r4⟩ := r
  unfold Wx
  rw [r1]
  rw [r2] at hS
  exact W.vret h.1 h.2.1 r3 (fun t ht hW => ⟨⟨none, σ, rfl, hp, hr, by rw [ht]; exact hP, va_K.moved hW.alike h.2.2.2.2.2.1, h.2.2.2.2.2.2.1⟩, hS.F ht⟩) hS.2.2 d r4
/-- invokevirtual index in class own calls I, of n parameters -/
def CV (own : String) (ix : Nat) (I : MI) (n : Nat) : Prop := (Cond.methodLink own ix I.1 ∈ lw_g ∧ Cond.instanceMethod I.1 ∈ lw_g ∧ Cond.selects I.1.cls I.1 I.1 ∈ lw_g ∧ Cond.initialized I.1.cls ∈ lw_g) ∧ Cond.code I.1 I.2.1 I.2.2.1 I.2.2.2.1 ∈ lw_g ∧ I.1.cls ≠ "java/lang/invoke/MethodHandle" ∧ I.1.cls ≠ "java/lang/invoke/VarHandle" ∧ (parseMethodDescriptor I.1.desc).map (fun d => d.parameters.length) = some n ∧ I.2.2.1 ≤ 21
def CS (own : String) (ix : Nat) (I : MI) (n : Nat) : Prop := (Cond.methodLink own ix I.1 ∈ lw_g ∧ Cond.static I.1 ∈ lw_g ∧ Cond.initialized I.1.cls ∈ lw_g) ∧ Cond.code I.1 I.2.1 I.2.2.1 I.2.2.2.1 ∈ lw_g ∧ I.1.cls ≠ "java/lang/invoke/MethodHandle" ∧ I.1.cls ≠ "java/lang/invoke/VarHandle" ∧ (parseMethodDescriptor I.1.desc).map (fun d => d.parameters.length) = some n ∧ I.2.2.1 ≤ 21
theorem blind {g : G} {σ : Sg} {sz : Nat} {av : List Value} : FrameBlind (va_Pc av (fun U => U.heap.size = sz ∧ Bst g σ U)) := by
  intro a U g' mk q
  obtain ⟨q0, q1, qr, qP, qK, qD⟩ := q
  exact ⟨q0, q1, qr, qP, va_K.moved (u := U) (U := U.calling g' mk a) (Vm.Alike.refl U.vm) qK, qD⟩
theorem z_back (h : Ok g x own cc nL dp) {H : Heap} {locs : List Loc} {ls : Array Slot} {st0 : List Value} {a : Array Value} (hS : va_S (xA x) (xs x).heap H locs) (hl : lv_has ls nL L)
    (hrun : va_Run (xp x) g.1 (xe x) (xR x) (xs x) (xm x) (xa x) (xb x) (xt x) (xc x) H locs (xk x) (xn x) 0 0 (F0 (xm x) pc ls st0) S (Qm g post H.size a) (Aa g H.size)) (kk : ∀ (rv : List Value) (σ' : Sg), post rv σ' → Z g x nL (pc + 3) L (rv ++ S) σ') : Wx g x H locs (F0 (xm x) pc ls st0) := by
  intro T hT X
  obtain ⟨v, st₀, t, T', Lc, h0, X', hL, e1, e2, ⟨⟨v', σ', hv, hp, hr', hP', hK', hj'⟩, hz, hk⟩, st⟩ := hrun T hT X
  cases hv
  rw [h0] at hz hk
  have hAA : ∀ q, Aa g H.size q → xA x q := by
    rintro q (⟨c, hc, rfl⟩ | hq)
    · exact h.2.2.2.2.2.2.2.1 c hc
    · exact h.2.2.2.2.2.2.2.2.1 q (Nat.le_trans hS.1 hq)
  obtain ⟨t2, a1, b1⟩ := kk v.toList σ' hp T'.heap (locs ++ Lc) ls hr' (by rw [e1]; exact hP')
    ⟨Nat.le_trans hS.1 (by rw [e1]; exact hz), fun q h1 h2 => by rw [e1, hk q (Nat.lt_of_lt_of_le h1 hS.1) (fun z => h2 (hAA q z))]; exact hS.2.1 q h1 h2, fun q hq => by
      rcases List.mem_append.mp hq with h | h
      · exact hS.2.2 q h
      · exact hAA _ (hL q h)⟩ hl T' rfl X'
  exact ⟨t2, st t2 a1, b1⟩
theorem z_callV (h : Ok g x own cc nL dp) {I : MI} {ix n ci b N : Nat} {fl : List Nat} {T : u_T} {As : List Value} {st : List Value} (M : MM g I (.ref (g.2.2.1 b) :: As) σ post) (cv : CV own ix I n) (hs : sh b = (0, ci, fl)) (hcl : vwCl[ci]? = some (I.1.cls, T, N)) (hn : As.length = n) (hst : As.reverse ++ .ref (g.2.2.1 b) :: S = st) (hd : I.2.2.2.2 < dp) (hsum : (S.map fun v => v.category).sum ≤ 8) (d : decode cc pc = .ok (.invokevirtual ix, 3)) (kk : ∀ (rv : List Value) (σ' : Sg), post rv σ' → Z g x nL (pc + 3) L (rv ++ S) σ') : Z g x nL pc L st σ := by
  subst hst
  intro H locs ls hr hP hS hl
  obtain ⟨⟨c1, c2, c3, c4⟩, c5, c6, c7, c8, c9⟩ := cv
  have hfr : dp ≤ (xR x).frames := h.2.2.2.2.2.2.2.2.2.1
  have hlo : 40 * dp ≤ (xR x).locals := h.2.2.2.2.2.2.2.2.2.2.1
  refine z_back (a := (Value.ref (g.2.2.1 b) :: As).toArray) h hS hl ?_ kk
  refine va_runV (Ts := lw_g) (ws := wOf I) (rm := rmD I.2.2.2.2) (nL := nL) (C := I.1.cls) (bytes := I.2.1) (maxL := I.2.2.1) (ret := I.2.2.2.1) (n := n) (As := As) ⟨h.1, h.2.1, h.2.2.1, h.2.2.2.1, h.2.2.2.2.1⟩ (M H.size) (cwV n h.2.2.2.2.1 (lw_gIn (fun w hw => ?_)) rfl rfl rfl ⟨rfl, c6, c7, c8⟩ ⟨?_, ?_⟩) ⟨blind, va_recv h.2.2.2.2.2.1 hP hcl (ws_at g σ (sh_lt hs (by decide)) |>.trans (by rw [we_0 hs])), fun U hU hW => ⟨rfl, by rw [hU], hr, by rw [hU]; exact hP, va_K.moved hW.alike h.2.2.2.2.2.1, h.2.2.2.2.2.2.1⟩⟩ rfl hn hl.1 rfl (lv_room hsum) d ⟨h.2.2.2.2.2.2.2.2.2.2.2.1, h.2.2.2.2.2.2.2.2.2.2.2.2⟩
  · rcases List.mem_append.mp hw with q | q
    · simp only [List.mem_cons, List.not_mem_nil, or_false] at q
      rcases q with rfl | rfl | rfl | rfl <;> assumption
    · rcases List.mem_cons.mp q with rfl | q
      · exact c5
      · exact q
  · show I.2.2.2.2 + 1 ≤ _; omega
  · show 8 + (I.2.2.1 + 11) + 40 * I.2.2.2.2 ≤ _; omega
theorem z_callS (h : Ok g x own cc nL dp) {I : MI} {ix n : Nat} {As : List Value} {st : List Value} (M : MM g I As σ post) (cv : CS own ix I n) (hn : As.length = n) (hst : As.reverse ++ S = st) (hd : I.2.2.2.2 < dp) (hsum : (S.map fun v => v.category).sum ≤ 8) (d : decode cc pc = .ok (.invokestatic ix, 3)) (kk : ∀ (rv : List Value) (σ' : Sg), post rv σ' → Z g x nL (pc + 3) L (rv ++ S) σ') : Z g x nL pc L st σ := by
  subst hst
  intro H locs ls hr hP hS hl
  obtain ⟨⟨c1, c2, c4⟩, c5, c6, c7, c8, c9⟩ := cv
  have hfr : dp ≤ (xR x).frames := h.2.2.2.2.2.2.2.2.2.1
  have hlo : 40 * dp ≤ (xR x).locals := h.2.2.2.2.2.2.2.2.2.2.1
  refine z_back (a := As.toArray) h hS hl ?_ kk
  refine va_runS (Ts := lw_g) (ws := wOf I) (rm := rmD I.2.2.2.2) (nL := nL) (bytes := I.2.1) (maxL := I.2.2.1) (ret := I.2.2.2.1) (n := n) (As := As) ⟨h.1, h.2.1, h.2.2.1, h.2.2.2.1, h.2.2.2.2.1⟩ (M H.size) (va_cwS n h.2.2.2.2.1 (lw_gIn (fun w hw => ?_)) rfl rfl rfl ⟨c6, c7, c8⟩ ⟨?_, ?_⟩) ⟨blind, fun U hU hW => ⟨rfl, by rw [hU], hr, by rw [hU]; exact hP, va_K.moved hW.alike h.2.2.2.2.2.1, h.2.2.2.2.2.2.1⟩⟩ rfl hn hl.1 rfl (lv_room hsum) d ⟨h.2.2.2.2.2.2.2.2.2.2.2.1, h.2.2.2.2.2.2.2.2.2.2.2.2⟩
  · rcases List.mem_append.mp hw with q | q
    · simp only [List.mem_cons, List.not_mem_nil, or_false] at q
      rcases q with rfl | rfl | rfl <;> assumption
    · rcases List.mem_cons.mp q with rfl | q
      · exact c5
      · exact q
  · show I.2.2.2.2 + 1 ≤ _; omega
  · show 8 + (I.2.2.1 + 11) + 40 * I.2.2.2.2 ≤ _; omega
end ZM
