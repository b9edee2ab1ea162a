/-! ===== building: worlds as lists, cells are made ===== -/
def AO (U : State) : Prop := va_AO RX2 U ∧ va_AO RX5 U
theorem AO.moved {u U : State} (hvm : u.vm.Alike U.vm) (h : AO u) : AO U := ⟨h.1.moved hvm, h.2.moved hvm⟩
def OkY (g : G) (x : Cx) (own : String) (cc : ByteArray) (nL d K N : Nat) : Prop :=
  (xp x).tables.exec = Jvm.exec ∧ (xc x).code = cc ∧ (xc x).maxLocals = nL ∧ (xs x).vm.findClass own = some (xm x).cls ∧ (∀ w ∈ lw_g, w.before (xa x) (xs x) = true) ∧ va_K g.2.1 vwCl (gty g) (xs x) ∧ AO (xs x) ∧ (∀ q, (xs x).heap.size ≤ q → xA x q) ∧ d ≤ (xR x).frames ∧ 40 * d ≤ (xR x).locals ∧ K ≤ (xR x).cells ∧ N ≤ (xR x).slots
def Y (g : G) (x : Cx) (nL pc : Nat) (L : List (Nat × Value)) (S : List Value) (w : va_W) (k n : Nat) : Prop :=
  ∀ (H : Heap) (locs : List Loc) (ls : Array Slot), va_P g.2.1 vwCl w H → va_D (xA x) w → va_S (xA x) (xs x).heap H locs → lv_has ls nL L → W (xp x) g.1 (xe x) (xR x) (xs x) (xm x) (xa x) (xb x) (xt x) (xc x) H locs k n (xQ x) (F0 (xm x) pc ls S)
theorem va_D_iff {A : Nat → Prop} {w : va_W} : va_D A w ↔ (w.map Prod.fst).Nodup ∧ ∀ q ∈ w, A q.1 := by
  constructor
  · intro h
    refine ⟨?_, fun q hq => ?_⟩
    · refine List.pairwise_iff_getElem.mpr (fun i j hi hj hij e => ?_)
      rw [List.length_map] at hi hj
      rw [List.getElem_map, List.getElem_map] at e
      have := h.1 i j _ _ (List.getElem?_eq_getElem hi) (List.getElem?_eq_getElem hj) e
      omega
    · obtain ⟨i, hi⟩ := List.getElem?_of_mem hq
      exact h.2 i q hi
  · intro h
    refine ⟨fun i j p q hp hq e => ?_, fun k q hk => h.2 q (List.mem_of_getElem? hk)⟩
    have hn := List.pairwise_iff_getElem.mp h.1
    obtain ⟨li, ei⟩ := List.getElem?_eq_some_iff.mp hp
    obtain ⟨lj, ej⟩ := List.getElem?_eq_some_iff.mp hq
    rcases Nat.lt_trichotomy i j with z | z | z
    · exact absurd (by rw [List.getElem_map, List.getElem_map, ei, ej]; exact e) (hn i j (by rw [List.length_map]; exact li) (by rw [List.length_map]; exact lj) z)
    · exact z
    · exact absurd (by rw [List.getElem_map, List.getElem_map, ei, ej]; exact e.symm) (hn j i (by rw [List.length_map]; exact lj) (by rw [List.length_map]; exact li) z)
theorem va_P_mem {D : va_G} {cl : List vw_C} {w : va_W} {H : Heap} : va_P D cl w H ↔ ∀ q ∈ w, va_at D cl q H := by
  constructor
  · intro h q hq
    obtain ⟨i, hi⟩ := List.getElem?_of_mem hq
    exact h i q hi
  · intro h k q hk; exact h q (List.mem_of_getElem? hk)
section YR
variable {g : G} {x : Cx} {own : String} {cc : ByteArray} {nL dp pc K N k n : Nat} {L L' : List (Nat × Value)} {S : List Value} {w : va_W}
theorem y_perm {w' : va_W} (hp : w.Perm w') (kk : Y g x nL pc L S w' k n) : Y g x nL pc L S w k n := by
  intro H locs ls hP hD hS hl
  rw [va_P_mem] at hP
  rw [va_D_iff] at hD
  refine kk H locs ls (va_P_mem.mpr fun q hq => hP q (hp.mem_iff.mpr hq)) (va_D_iff.mpr ⟨(hp.map _).nodup_iff.mp hD.1, fun q hq => hD.2 q (hp.mem_iff.mpr hq)⟩) hS hl
theorem y_pick (ks : List Nat) (hk : lv_pick L ks = L') (k0 : Y g x nL pc L' S w k n) : Y g x nL pc L S w k n :=
  fun H locs ls hP hD hS hl => k0 H locs ls hP hD hS (lv_sub hl ks hk)
theorem y_iconst (h : OkY g x own cc nL dp K N) {z : Int} (d : decode cc pc = .ok (.iconst z, 1)) (k0 : Y g x nL (pc + 1) L (vI z :: S) w k n) : Y g x nL pc L S w k n :=
  fun H locs ls hP hD hS hl => lv_iconst h.1 h.2.1 d rfl (k0 H locs ls hP hD hS hl)
theorem y_bipush (h : OkY g x own cc nL dp K N) {z : Int} (d : decode cc pc = .ok (.bipush z, 2)) (hv : (Int8.ofInt z).toInt32 = Int32.ofInt z) (k0 : Y g x nL (pc + 2) L (vI z :: S) w k n) : Y g x nL pc L S w k n :=
  fun H locs ls hP hD hS hl => lv_bipush h.1 h.2.1 d hv (k0 H locs ls hP hD hS hl)
theorem y_sipush (h : OkY g x own cc nL dp K N) {z : Int} (d : decode cc pc = .ok (.sipush z, 3)) (hv : (Int16.ofInt z).toInt32 = Int32.ofInt z) (k0 : Y g x nL (pc + 3) L (vI z :: S) w k n) : Y g x nL pc L S w k n :=
  fun H locs ls hP hD hS hl => lv_sipush h.1 h.2.1 d hv (k0 H locs ls hP hD hS hl)
theorem y_aload_n (h : OkY g x own cc nL dp K N) {j : Fin 4} {z : Nat} (q : Nat) (d : decode cc pc = .ok (.aload_n j, 1)) (hq : L[q]? = some ((j : Nat), .ref z)) (k0 : Y g x nL (pc + 1) L (.ref z :: S) w k n) : Y g x nL pc L S w k n :=
  fun H locs ls hP hD hS hl => lv_aload_n h.1 h.2.1 d rfl (lv_at hl q hq) (k0 H locs ls hP hD hS hl)
theorem y_iload_n (h : OkY g x own cc nL dp K N) {j : Fin 4} {z : Int} (q : Nat) (d : decode cc pc = .ok (.iload_n j, 1)) (hq : L[q]? = some ((j : Nat), vI z)) (k0 : Y g x nL (pc + 1) L (vI z :: S) w k n) : Y g x nL pc L S w k n :=
  fun H locs ls hP hD hS hl => lv_iload_n h.1 h.2.1 d rfl (lv_at hl q hq) (k0 H locs ls hP hD hS hl)
theorem y_istore_n (h : OkY g x own cc nL dp K N) {j : Fin 4} {z : Int} (d : decode cc pc = .ok (.istore_n j, 1)) (hn : (j : Nat) < nL) (hl' : ((j : Nat), vI z) :: L.filter (fun q => !(q.1 == (j : Nat)) && !(q.1 + 1 == (j : Nat) && q.2.category == 2)) = L') (k0 : Y g x nL (pc + 1) L' S w k n) : Y g x nL pc L (vI z :: S) w k n :=
  fun H locs ls hP hD hS hl => lv_istore_n h.1 h.2.1 d rfl hl hn hl' (fun ls2 hl2 => k0 H locs ls2 hP hD hS hl2)
theorem y_astore_n (h : OkY g x own cc nL dp K N) {j : Fin 4} {z : Nat} (d : decode cc pc = .ok (.astore_n j, 1)) (hn : (j : Nat) < nL) (hl' : ((j : Nat), Value.ref z) :: L.filter (fun q => !(q.1 == (j : Nat)) && !(q.1 + 1 == (j : Nat) && q.2.category == 2)) = L') (k0 : Y g x nL (pc + 1) L' S w k n) : Y g x nL pc L (.ref z :: S) w k n :=
  fun H locs ls hP hD hS hl => lv_astore_n h.1 h.2.1 d rfl hl hn hl' (fun ls2 hl2 => k0 H locs ls2 hP hD hS hl2)
theorem y_iinc (h : OkY g x own cc nL dp K N) {j : Nat} {m z : Int} (q : Nat) (d : decode cc pc = .ok (.iinc j m, 3)) (hq : L[q]? = some (j, vI z)) (hn : j < nL) (hl' : (j, vI (z + m)) :: L.filter (fun q => !(q.1 == j) && !(q.1 + 1 == j && q.2.category == 2)) = L') (k0 : Y g x nL (pc + 3) L' S w k n) : Y g x nL pc L S w k n :=
  fun H locs ls hP hD hS hl => lv_iinc h.1 h.2.1 d hl hq (v := Int32.ofInt (z + m)) (by rw [Int32.ofInt_add]) hn hl' (fun ls2 hl2 => k0 H locs ls2 hP hD hS hl2)
theorem y_dup (h : OkY g x own cc nL dp K N) {v : Value} (d : decode cc pc = .ok (.dup, 1)) (hv : v.category = 1) (k0 : Y g x nL (pc + 1) L (v :: v :: S) w k n) : Y g x nL pc L (v :: S) w k n :=
  fun H locs ls hP hD hS hl => lv_dup h.1 h.2.1 d hv (k0 H locs ls hP hD hS hl)
theorem y_goto (h : OkY g x own cc nL dp K N) {off : Int} (tgt : Nat) (d : decode cc pc = .ok (.goto off, 3)) (ht : (pc : Int) + off = (tgt : Int)) (k0 : Y g x nL tgt L S w k n) : Y g x nL pc L S w k n :=
  fun H locs ls hP hD hS hl => lv_goto h.1 h.2.1 d ht (k0 H locs ls hP hD hS hl)
theorem y_geT (h : OkY g x own cc nL dp K N) {a b off : Int} (tgt : Nat) (d : decode cc pc = .ok (.if_icmp .ge off, 3)) (ht : (pc : Int) + off = (tgt : Int)) (hc : Int32.ofInt b ≤ Int32.ofInt a) (k0 : Y g x nL tgt L S w k n) : Y g x nL pc L (vI b :: vI a :: S) w k n :=
  fun H locs ls hP hD hS hl => lv_icmp_ge h.1 h.2.1 d ht (fun _ => k0 H locs ls hP hD hS hl) (fun q => absurd hc q)
theorem y_geF (h : OkY g x own cc nL dp K N) {a b off : Int} (tgt : Nat) (d : decode cc pc = .ok (.if_icmp .ge off, 3)) (ht : (pc : Int) + off = (tgt : Int)) (hc : ¬ Int32.ofInt b ≤ Int32.ofInt a) (k0 : Y g x nL (pc + 3) L S w k n) : Y g x nL pc L (vI b :: vI a :: S) w k n :=
  fun H locs ls hP hD hS hl => lv_icmp_ge h.1 h.2.1 d ht (fun q => absurd q hc) (fun _ => k0 H locs ls hP hD hS hl)
/-- Object's constructor -/
def OI (own : String) (ix : Nat) : Prop := Cond.methodLink own ix Lib.objectInit ∈ lw_g ∧ Cond.instanceMethod Lib.objectInit ∈ lw_g ∧ Cond.code Lib.objectInit ⟨#[0xb1]⟩ 1 none ∈ lw_g
theorem y_obj (h : OkY g x own cc nL dp K N) {ix a : Nat} (o : OI own ix) (hd : 1 ≤ dp) (d : decode cc pc = .ok (.invokespecial ix, 3)) (k0 : Y g x nL (pc + 3) L [] w k n) : Y g x nL pc L [.ref a] w k n := by
  intro H locs ls hP hD hS hl
  have hf : dp ≤ (xR x).frames := h.2.2.2.2.2.2.2.2.1
  have hlo : 40 * dp ≤ (xR x).locals := h.2.2.2.2.2.2.2.2.2.1
  refine W.objInit h.1 h.2.1 h.2.2.2.1 (h.2.2.2.2.1 _ o.1) (h.2.2.2.2.1 _ o.2.1) (h.2.2.2.2.1 _ o.2.2) rfl (by rw [h.2.2.1]; exact hl.1) rfl d (by omega) ?_ ?_
  · have := lv_room (m := xm x) (pc := pc) (ls := ls) (rest := [.ref a]) (st := []) (by decide)
    omega
  · exact W.eq (g2 := F0 (xm x) (pc + 3) ls []) rfl (k0 H locs ls hP hD hS hl)
/-- a class that can be made -/
def NW (own : String) (ix ci M : Nat) (ty : Nat → FieldType) : Prop := ∃ (C : String) (T : u_T), vwCl[ci]? = some (C, T, M) ∧ Cond.classLink own ix C ∈ lw_g ∧ Cond.instantiable C M ∈ lw_g ∧ Cond.initialized C ∈ lw_g ∧ (∀ w ∈ u_ws C T M, w ∈ lw_g) ∧ ∀ k, k < M → parseFieldDescriptor (T k).2.2.1 = some (ty k)
theorem y_new (h : OkY g x own cc nL dp K N) {ix ci M : Nat} {ty : Nat → FieldType} (nw : NW own ix ci M ty) (fs : List Value) (hfs : ∀ j, j < M → defaultValue (ty j) = vp_V fs j) (hk : k + 1 ≤ K) (hn : n + M ≤ N) (d : decode cc pc = .ok (.new ix, 3)) (k0 : ∀ q : Nat, Y g x nL (pc + 3) L (.ref q :: S) (w ++ [(q, .inr (ci, fs))]) (k + 1) (n + M)) : Y g x nL pc L S w k n := by
  intro H locs ls hP hD hS hl
  obtain ⟨C, T, h1, h2, h3, h4, h5, h6⟩ := nw
  exact va_new h.1 h.2.1 h.2.2.2.2.1 h5 ty h6 h.2.2.2.1 (h.2.2.2.2.1 _ h2) (h.2.2.2.2.1 _ h3) (h.2.2.2.2.1 _ h4) h.2.2.2.2.2.1 hP hD hS h.2.2.2.2.2.2.2.1 h1 hfs (Nat.le_trans hk h.2.2.2.2.2.2.2.2.2.2.1) (Nat.le_trans hn h.2.2.2.2.2.2.2.2.2.2.2) d (fun q H1 hP1 hD1 hS1 => k0 q H1 locs ls hP1 hD1 hS1 hl)
theorem arr_one {D : va_G} {tys : List (ClassId × FieldType)} {U : State} {c1 c2 : ClassId} {ty : FieldType} {i j : Nat} (hK : va_K D vwCl tys U) (h1 : tys[i]? = some (c1, ty)) (h2 : tys[j]? = some (c2, ty)) : c1 = c2 := by
  have a := (hK.2 i _ h1).2
  have b := (hK.2 j _ h2).2
  have key : ∀ c, va_RA U c ty → U.vm.findClass ("[" ++ ty.toString) = some c := by
    intro c h
    cases ty with
    | object C => obtain ⟨_, _, _, _, _, h4⟩ := h; exact h4
    | _ => exact h
  exact Option.some.inj ((key _ a).symm.trans (key _ b))
theorem y_newI (h : OkY g x own cc nL dp K N) {M : Nat} (z : Int) (hz : z = M) (hM : M < 2000) (hk : k + 1 ≤ K) (hn : n + M ≤ N) (d : decode cc pc = .ok (.newarray .int, 2)) (k0 : ∀ q : Nat, Y g x nL (pc + 2) L (.ref q :: S) (w ++ [(q, .inl (g.2.2.2 0, M, .inl (fun _ => Int32.ofInt 0)))]) (k + 1) (n + M)) : Y g x nL pc L (vI z :: S) w k n := by
  intro H locs ls hP hD hS hl
  have e : (Int32.ofInt z).toInt = z := iI_toInt (by omega)
  refine va_newa (atype := .int) (ty := .int) (a0 := (M, .inl (fun _ => Int32.ofInt 0))) (N' := M) h.1 h.2.1 (h.2.2.2.2.1 _ (lw_gin 127 (by decide +kernel) (by decide +kernel))) rfl h.2.2.2.2.2.1 hP hD hS h.2.2.2.2.2.2.2.1 (fun cA => rfl) (fun q => ?_) (by rw [← Int32.toNat_toInt, e]; omega) (by show M * 4 ≤ _; omega) (Nat.le_trans hk h.2.2.2.2.2.2.2.2.2.2.1) (Nat.le_trans hn h.2.2.2.2.2.2.2.2.2.2.2) d (fun q cA H1 hK1 hP1 hD1 hS1 => ?_)
  · rw [Int32.lt_iff_toInt_lt, e] at q; have : (0 : Int32).toInt = 0 := by decide
    omega
  · have ec : g.2.2.2 0 = cA := arr_one (i := 0) (j := 5) hK1 rfl rfl
    subst ec
    exact k0 q H1 locs ls hP1 hD1 hS1 hl
theorem y_newC (h : OkY g x own cc nL dp K N) {M : Nat} (z : Int) (hz : z = M) (hM : M < 2000) (hk : k + 1 ≤ K) (hn : n + M ≤ N) (d : decode cc pc = .ok (.newarray .char, 2)) (k0 : ∀ q : Nat, Y g x nL (pc + 2) L (.ref q :: S) (w ++ [(q, .inl (g.2.2.2 1, M, .inl (fun _ => Int32.ofInt 0)))]) (k + 1) (n + M)) : Y g x nL pc L (vI z :: S) w k n := by
  intro H locs ls hP hD hS hl
  have e : (Int32.ofInt z).toInt = z := iI_toInt (by omega)
  refine va_newa (atype := .char) (ty := .char) (a0 := (M, .inl (fun _ => Int32.ofInt 0))) (N' := M) h.1 h.2.1 (h.2.2.2.2.1 _ (lw_gin 165 (by decide +kernel) (by decide +kernel))) rfl h.2.2.2.2.2.1 hP hD hS h.2.2.2.2.2.2.2.1 (fun cA => rfl) (fun q => ?_) (by rw [← Int32.toNat_toInt, e]; omega) (by show M * 2 ≤ _; omega) (Nat.le_trans hk h.2.2.2.2.2.2.2.2.2.2.1) (Nat.le_trans hn h.2.2.2.2.2.2.2.2.2.2.2) d (fun q cA H1 hK1 hP1 hD1 hS1 => ?_)
  · rw [Int32.lt_iff_toInt_lt, e] at q; have : (0 : Int32).toInt = 0 := by decide
    omega
  · have ec : g.2.2.2 1 = cA := arr_one (i := 1) (j := 5) hK1 rfl rfl
    subst ec
    exact k0 q H1 locs ls hP1 hD1 hS1 hl
theorem y_newJ (h : OkY g x own cc nL dp K N) {M : Nat} (z : Int) (hz : z = M) (hM : M < 2000) (hk : k + 1 ≤ K) (hn : n + M ≤ N) (d : decode cc pc = .ok (.newarray .long, 2)) (k0 : ∀ q : Nat, Y g x nL (pc + 2) L (.ref q :: S) (w ++ [(q, .inl (g.2.2.2 2, M, .inr (.inl (fun _ => Int64.ofInt 0))))]) (k + 1) (n + M)) : Y g x nL pc L (vI z :: S) w k n := by
  intro H locs ls hP hD hS hl
  have e : (Int32.ofInt z).toInt = z := iI_toInt (by omega)
  refine va_newa (atype := .long) (ty := .long) (a0 := (M, .inr (.inl (fun _ => Int64.ofInt 0)))) (N' := M) h.1 h.2.1 (h.2.2.2.2.1 _ (lw_gin 207 (by decide +kernel) (by decide +kernel))) rfl h.2.2.2.2.2.1 hP hD hS h.2.2.2.2.2.2.2.1 (fun cA => rfl) (fun q => ?_) (by rw [← Int32.toNat_toInt, e]; omega) (by show M * 8 ≤ _; omega) (Nat.le_trans hk h.2.2.2.2.2.2.2.2.2.2.1) (Nat.le_trans hn h.2.2.2.2.2.2.2.2.2.2.2) d (fun q cA H1 hK1 hP1 hD1 hS1 => ?_)
  · rw [Int32.lt_iff_toInt_lt, e] at q; have : (0 : Int32).toInt = 0 := by decide
    omega
  · have ec : g.2.2.2 2 = cA := arr_one (i := 2) (j := 5) hK1 rfl rfl
    subst ec
    exact k0 q H1 locs ls hP1 hD1 hS1 hl
/-- a new array of references: t = 0 Heards, t = 1 Sheets -/
theorem y_newq (h : OkY g x own cc nL dp K N) {M ix : Nat} {C : String} (t : Nat) (ht : (gty g)[3 + t]? = some (g.2.2.2 (3 + t), .object C)) (hao : va_AO C (xs x)) (hcl : Cond.classLink own ix C ∈ lw_g) (z : Int) (hz : z = M) (hM : M < 2000) (hk : k + 1 ≤ K) (hn : n + M ≤ N) (d : decode cc pc = .ok (.anewarray ix, 3)) (k0 : ∀ q : Nat, Y g x nL (pc + 3) L (.ref q :: S) (w ++ [(q, .inl (g.2.2.2 (3 + t), M, .inr (.inr (.inr (.inr (fun _ => none))))))]) (k + 1) (n + M)) : Y g x nL pc L (vI z :: S) w k n := by
  intro H locs ls hP hD hS hl
  have e : (Int32.ofInt z).toInt = z := iI_toInt (by omega)
  refine va_newq (N' := M) h.1 h.2.1 h.2.2.2.1 (h.2.2.2.2.1 _ hcl) hao h.2.2.2.2.2.1 hP hD hS h.2.2.2.2.2.2.2.1 (fun q => ?_) (by rw [← Int32.toNat_toInt, e]; omega) (by omega) (Nat.le_trans hk h.2.2.2.2.2.2.2.2.2.2.1) (Nat.le_trans hn h.2.2.2.2.2.2.2.2.2.2.2) d (fun q cA H1 hK1 hP1 hD1 hS1 => ?_)
  · rw [Int32.lt_iff_toInt_lt, e] at q; have : (0 : Int32).toInt = 0 := by decide
    omega
  · have ec : g.2.2.2 (3 + t) = cA := arr_one (i := 3 + t) (j := 5) hK1 (by rw [List.getElem?_append_left (List.getElem?_eq_some_iff.mp ht).1]; exact ht) rfl
    subst ec
    exact k0 q H1 locs ls hP1 hD1 hS1 hl
/-- putfield in class own writes field k of class ci, of type ty, a final one if b -/
def FW (b : Bool) (own : String) (ix ci k : Nat) (ty : FieldType) : Prop := ∃ (C : String) (T : u_T) (N : Nat) (ty0 : Nat → FieldType), vwCl[ci]? = some (C, T, N) ∧ k < N ∧ (∀ w ∈ u_ws C T N, w ∈ lw_g) ∧ Cond.fieldLink own ix (T k).1 (T k).2.1 (T k).2.2.1 ∈ lw_g ∧ (∀ k, k < N → parseFieldDescriptor (T k).2.2.1 = some (ty0 k)) ∧ (∀ a, a < N → ∀ b, b < N → a ≠ b → (T a).2.1 ≠ (T b).2.1) ∧ (T k).2.2.2 = b ∧ ty0 k = ty ∧ (T k).1 = own
theorem y_putF (h : OkY g x own cc nL dp K N) (hi : (xt x).name = "<init>") {ix ci f a : Nat} {fs : List Value} {v : Value} {ty : FieldType} (F : FW true own ix ci f ty) (hl0 : f < fs.length) (hn : narrow ty v = v) (hfit : fits ty v = true) {fs' : List Value} (hf : fs.set f v = fs') (d : decode cc pc = .ok (.putfield ix, 3)) (k0 : Y g x nL (pc + 3) L S ((a, .inr (ci, fs')) :: w) k n) : Y g x nL pc L (v :: .ref a :: S) ((a, .inr (ci, fs)) :: w) k n := by
  intro H locs ls hP hD hS hl
  subst hf
  obtain ⟨C, T, N, ty0, h1, h2, h3, h4, h5, h6, h7, h8, h9⟩ := F
  exact va_putF h.1 h.2.1 h.2.2.2.2.1 h3 ty0 h5 h6 h.2.2.2.1 h.2.2.2.2.2.1 hP hD hS 0 rfl h1 f h2 (h.2.2.2.2.1 _ h4) (fun _ q => q) h7 hi h9 (ty := ty) (by rw [h5 f h2, h8]) hn hfit hl0 d (fun H1 locs1 hP1 hD1 hS1 => k0 H1 locs1 ls hP1 hD1 hS1 hl)
theorem y_put (h : OkY g x own cc nL dp K N) {ix ci f a : Nat} {fs : List Value} {v : Value} {ty : FieldType} (F : FW false own ix ci f ty) (hl0 : f < fs.length) (hn : narrow ty v = v) (hfit : fits ty v = true) {fs' : List Value} (hf : fs.set f v = fs') (d : decode cc pc = .ok (.putfield ix, 3)) (k0 : Y g x nL (pc + 3) L S ((a, .inr (ci, fs')) :: w) k n) : Y g x nL pc L (v :: .ref a :: S) ((a, .inr (ci, fs)) :: w) k n := by
  intro H locs ls hP hD hS hl
  subst hf
  obtain ⟨C, T, N, ty0, h1, h2, h3, h4, h5, h6, h7, h8, h9⟩ := F
  exact va_put h.1 h.2.1 h.2.2.2.2.1 h3 ty0 h5 h6 h.2.2.2.1 h.2.2.2.2.2.1 hP hD hS 0 rfl h1 f h2 (h.2.2.2.2.1 _ h4) (fun _ q => q) h7 (ty := ty) (by rw [h5 f h2, h8]) hn hfit hl0 d (fun H1 locs1 hP1 hD1 hS1 => k0 H1 locs1 ls hP1 hD1 hS1 hl)
theorem y_get (h : OkY g x own cc nL dp K N) {ix ci f a : Nat} {fs : List Value} {v : Value} (F : FL own ix ci f) (hv : fs[f]? = some v) (d : decode cc pc = .ok (.getfield ix, 3)) (k0 : Y g x nL (pc + 3) L (v :: S) ((a, .inr (ci, fs)) :: w) k n) : Y g x nL pc L (.ref a :: S) ((a, .inr (ci, fs)) :: w) k n := by
  intro H locs ls hP hD hS hl
  obtain ⟨C, T, N, h1, h2, h3, h4⟩ := F
  exact va_get h.1 h.2.1 h.2.2.2.2.1 h3 h.2.2.2.1 h.2.2.2.2.2.1 hP 0 rfl h1 f h2 (h.2.2.2.2.1 _ h4) (fun _ q => q) hv d (k0 H locs ls hP hD hS hl)
theorem y_iast (h : OkY g x own cc nL dp K N) (q0 : Nat) {a M : Nat} {f : Nat → Int32} {i z : Int} (ha : w[q0]? = some (a, .inl (g.2.2.2 0, M, .inl f))) (hi : 0 ≤ i ∧ i < M) (hM : M < 2000) {w' : va_W} (hw : w.set q0 (a, .inl (g.2.2.2 0, M, .inl (upd f i.toNat (Int32.ofInt z)))) = w') (d : decode cc pc = .ok (.iastore, 1)) (k0 : Y g x nL (pc + 1) L S w' k n) : Y g x nL pc L (vI z :: vI i :: .ref a :: S) w k n := by
  intro H locs ls hP hD hS hl
  subst hw
  obtain ⟨e1, e2⟩ := in_ok hi (by omega)
  refine va_iast h.1 h.2.1 h.2.2.2.2.2.1 hP hD hS q0 0 ha rfl e1 d (fun H1 locs1 hP1 hD1 hS1 => ?_)
  rw [e2] at hP1 hD1
  exact k0 H1 locs1 ls hP1 hD1 hS1 hl
theorem y_aast (h : OkY g x own cc nL dp K N) (t q0 ci : Nat) {a M v : Nat} {r : vw_C} {vs : List Value} {f : Nat → Option Nat} {i : Int} (ha : w[q0]? = some (a, .inl (g.2.2.2 (3 + t), M, .inr (.inr (.inr (.inr f)))))) (ht : (gty g)[3 + t]? = some (g.2.2.2 (3 + t), .object r.1)) (hv : (v, .inr (ci, vs)) ∈ w) (hc : vwCl[ci]? = some r) (hi : 0 ≤ i ∧ i < M) (hM : M < 2000) {w' : va_W} (hw : w.set q0 (a, .inl (g.2.2.2 (3 + t), M, .inr (.inr (.inr (.inr (va_up f i.toNat (some v))))))) = w') (d : decode cc pc = .ok (.aastore, 1)) (k0 : Y g x nL (pc + 1) L S w' k n) : Y g x nL pc L (.ref v :: vI i :: .ref a :: S) w k n := by
  intro H locs ls hP hD hS hl
  subst hw
  obtain ⟨e1, e2⟩ := in_ok hi (by omega)
  obtain ⟨qk, hqk⟩ := List.getElem?_of_mem hv
  refine va_astq h.1 h.2.1 h.2.2.2.2.2.1 hP hD hS q0 (3 + t) qk ci ha ht hqk hc e1 d (fun H1 locs1 hP1 hD1 hS1 => ?_)
  rw [e2] at hP1 hD1
  exact k0 H1 locs1 ls hP1 hD1 hS1 hl
end YR
/-! ===== constructors by contract ===== -/
def rmN (d mc ms : Nat) : Room := { frames := d, cells := mc, slots := ms, locals := 40 * d }
def BY (g : G) (A : Nat → Prop) (w : va_W) (U : State) : Prop := va_P g.2.1 vwCl w U.heap ∧ va_K g.2.1 vwCl (gty g) U ∧ AO U ∧ va_D A w
def MN (g : G) (I : MI) (av : List Value) (w0 : va_W) (mc ms : Nat) (post : va_W → Prop) : Prop := ∀ sz : Nat, Met g.1 I.1 (wOf I) (rmN I.2.2.2.2 mc ms) (va_Pc av (fun U => U.heap.size = sz ∧ BY g (fun _ => True) w0 U)) (va_Qv post (BY g (va_A w0 sz)) (va_A w0 sz)) mc ms (va_A w0 sz)
def RtY (g : G) (x : Cx) (w0 : va_W) (mc ms : Nat) (post : va_W → Prop) : Prop :=
  xQ x = MQ (xb x) (va_Qv post (BY g (va_A w0 (xs x).heap.size)) (va_A w0 (xs x).heap.size)) (xa x) (xs x) mc ms (va_A w0 (xs x).heap.size) ∧ xA x = va_A w0 (xs x).heap.size ∧ (xt x).sig.returnType = none ∧ (xt x).locks = false
theorem mn_of {g : G} {I : MI} {av : List Value} {w0 : va_W} {mc ms : Nat} {post : va_W → Prop} {own : String} {cc : ByteArray} {nL dp : Nat} {y : MethodName} {L : List (Nat × Value)} (hI : I = (y, cc, nL, none, dp)) (hp : plainName y.cls = true) (ho : y.cls = own) (hy : y.name = "<init>") (hL : lv_args 0 av = L) (hlen : (lg_sl av).length ≤ nL)
    (k : ∀ x : Cx, OkY g x own cc nL dp mc ms → (xt x).name = "<init>" → RtY g x w0 mc ms post → Y g x nL 0 L [] w0 0 0) : MN g I av w0 mc ms post := by
  subst hI; subst ho
  intro sz
  refine Met.ofW (cc := cc) (maxL := nL) (ret := none) hp rfl ?_
  intro p e s m args below meth c s₁ B hml hv
  obtain ⟨rfl, hsz, hP, hK, hao, hD0⟩ := hv
  subst hsz
  have hts := atoms_spec (ws := Cond.code y cc nL none :: lw_g) B.pre
  have hown : s.vm.findClass y.cls = some m.cls := findClass_of_methodNamed B.named
  have hnm : meth.name = "<init>" := ((name_of_methodNamed B.named B.method).1).trans hy
  have hl := lv_entry av (n := nL) hlen
  rw [hL] at hl
  rw [lg_entry_eq]
  let x : Cx := (p, e, rmN dp mc ms, s, m, av.toArray, below, meth, c, 0, 0, MQ below (va_Qv post (BY g (va_A w0 s.heap.size)) (va_A w0 s.heap.size)) av.toArray s mc ms (va_A w0 s.heap.size), va_A w0 s.heap.size)
  have ok : OkY g x y.cls cc nL dp mc ms := ⟨B.exec, B.bytes, hml, hown, fun w hw => hts w (List.mem_cons_of_mem _ hw), hK, hao, fun q hq => Or.inr hq, Nat.le_refl _, Nat.le_refl _, Nat.le_refl _, Nat.le_refl _⟩
  have rt : RtY g x w0 mc ms post := ⟨rfl, rfl, B.returns, B.notSynchronized⟩
  exact k x ok hnm rt s.heap [] _ hP (hD0.self (sz := s.heap.size)) va_S.rf hl
section YM
variable {g : G} {x : Cx} {own : String} {cc : ByteArray} {nL dp pc K N k n : Nat} {L L' : List (Nat × Value)} {S : List Value} {w : va_W}
theorem y_ret (h : OkY g x own cc nL dp K N) {w0 : va_W} {mc ms : Nat} {post : va_W → Prop} (r : RtY g x w0 mc ms post) (d : decode cc pc = .ok (.return_, 1)) (hp : post w) : Y g x nL pc L [] w mc ms := by
  intro H locs ls hP hD hS hl
  obtain ⟨r1, r2, r3, r4⟩ := r
  rw [r1]
  rw [r2] at hS hD
  exact W.vret h.1 h.2.1 r3 (fun t ht hW => ⟨⟨w, rfl, hp, by rw [ht]; exact hP, va_K.moved hW.alike h.2.2.2.2.2.1, h.2.2.2.2.2.2.1.moved hW.alike, hD⟩, hS.F ht⟩) hS.2.2 d r4
/-- invokespecial index in class own calls the constructor I, of m parameters -/
def CIn (own : String) (ix : Nat) (I : MI) (m : Nat) : Prop := (Cond.methodLink own ix I.1 ∈ lw_g ∧ Cond.instanceMethod I.1 ∈ lw_g ∧ Cond.initialized I.1.cls ∈ lw_g) ∧ Cond.code I.1 I.2.1 I.2.2.1 I.2.2.2.1 ∈ lw_g ∧ I.1.name = "<init>" ∧ I.2.2.2.1 = none ∧ I.1.cls ≠ "java/lang/invoke/MethodHandle" ∧ I.1.cls ≠ "java/lang/invoke/VarHandle" ∧ (parseMethodDescriptor I.1.desc).map (fun d => d.parameters.length) = some m ∧ I.2.2.1 ≤ 21
theorem suf_c {wr wc : va_W} : (List.range' wr.length wc.length).map (fun i => (wr ++ wc)[i]?) = wc.map some := by
  apply List.ext_getElem?
  intro i
  rw [List.getElem?_map, List.getElem?_map]
  by_cases hi : i < wc.length
  · rw [List.getElem?_range' hi, List.getElem?_eq_getElem hi]
    simp only [Option.map_some, Nat.one_mul]
    rw [List.getElem?_append_right (by omega), show wr.length + i - wr.length = i by omega, List.getElem?_eq_getElem hi]
  · rw [List.getElem?_eq_none (by rw [List.length_range']; omega), List.getElem?_eq_none (by omega)]; rfl
theorem suf_r {wr wc : va_W} : (List.range wr.length).map (fun i => (wr ++ wc)[i]?) = wr.map some := by
  apply List.ext_getElem?
  intro i
  rw [List.getElem?_map, List.getElem?_map]
  by_cases hi : i < wr.length
  · rw [List.getElem?_range hi, List.getElem?_eq_getElem hi]
    simp only [Option.map_some]
    rw [List.getElem?_append_left hi, List.getElem?_eq_getElem hi]
  · rw [List.getElem?_eq_none (by rw [List.length_range]; omega), List.getElem?_eq_none (by omega)]; rfl
theorem va_nd_of {l : List Nat} (h : l.Nodup) : va_nd l = true := by
  induction l with
  | nil => rfl
  | cons a l ih =>
    rw [List.nodup_cons] at h
    unfold va_nd
    rw [ih h.2]; simp [h.1]
theorem y_ctor (h : OkY g x own cc nL dp K N) {I : MI} {ix m q mc ms : Nat} {e : va_E} {As : List Value} {st : List Value} {post : va_W → Prop} (M : MN g I (.ref q :: As) [(q, e)] mc ms post) (ci : CIn own ix I m) (hm : As.length = m) (hst : As.reverse ++ .ref q :: S = st) (hd : I.2.2.2.2 < dp) (hk : k + mc ≤ K) (hn : n + ms ≤ N) (hsum : (S.map fun v => v.category).sum ≤ 8) (d : decode cc pc = .ok (.invokespecial ix, 3)) (kk : ∀ w1 : va_W, post w1 → Y g x nL (pc + 3) L S (w ++ w1) (k + mc) (n + ms)) : Y g x nL pc L st (w ++ [(q, e)]) k n := by
  subst hst
  intro H locs ls hP hD hS hl
  obtain ⟨⟨c1, c2, c4⟩, c5, c0, cN, c6, c7, c8, c9⟩ := ci
  have hfr : dp ≤ (xR x).frames := h.2.2.2.2.2.2.2.2.1
  have hlo : 40 * dp ≤ (xR x).locals := h.2.2.2.2.2.2.2.2.2.1
  have hA := h.2.2.2.2.2.2.2.1
  have hc : (List.range' w.length [(q, e)].length).map (fun i => (w ++ [(q, e)])[i]?) = [(q, e)].map some := suf_c
  have hPc : va_P g.2.1 vwCl [(q, e)] H := va_P_mem.mpr fun z hz => va_P_mem.mp hP z (List.mem_append.mpr (Or.inr hz))
  have hDc : va_D (fun _ => True) [(q, e)] := (hD.sub (List.range' w.length 1) (va_nd_of List.nodup_range') hc).weaken (fun _ _ _ _ => trivial)
  have hFc := va_free (wc := [(q, e)]) hD hS hA (List.range' w.length 1) hc
  refine va_callv (va_runI (Ts := lw_g) (ws := wOf I) (rm := rmN I.2.2.2.2 mc ms) (nL := nL) (bytes := I.2.1) (maxL := I.2.2.1) (n := m) (As := As) (rest := S) ⟨h.1, h.2.1, h.2.2.1, h.2.2.2.1, h.2.2.2.2.1⟩ (M H.size) (cwI m h.2.2.2.2.1 (lw_gIn (fun v hv => ?_)) (by unfold wOf; rw [cN]) rfl rfl (h.2.2.2.2.1 _ c4) (h.2.2.2.2.1 _ c1) (h.2.2.2.2.1 _ c2) c0 ⟨c6, c7, c8⟩ ⟨?_, ?_⟩) ⟨fun a U g' mk z => ?_, fun U hU hW => ⟨rfl, by rw [hU], by rw [hU]; exact hPc, va_K.moved hW.alike h.2.2.2.2.2.1, h.2.2.2.2.2.2.1.moved hW.alike, hDc⟩⟩ rfl hm hl.1 rfl (lv_room hsum) d ⟨Nat.le_trans hk h.2.2.2.2.2.2.2.2.2.2.1, Nat.le_trans hn h.2.2.2.2.2.2.2.2.2.2.2⟩) hS (fun z _ hz => hFc z hz) hFc (fun w1 t H1 locs1 ht hvm hw hB hz1 hk1 hS1 => ?_)
  · rcases List.mem_cons.mp hv with rfl | z
    · exact c5
    · exact z
  · show I.2.2.2.2 + 1 ≤ _; omega
  · show 8 + (I.2.2.1 + 11) + 40 * I.2.2.2.2 ≤ _; omega
  · obtain ⟨z0, z1, zP, zK, zO, zD⟩ := z
    exact ⟨z0, z1, zP, va_K.moved (u := U) (U := U.calling g' mk a) (Vm.Alike.refl U.vm) zK, AO.moved (u := U) (U := U.calling g' mk a) (Vm.Alike.refl U.vm) zO, zD⟩
  · obtain ⟨zP, zK, zO, zD⟩ := hB
    rw [ht] at zP
    obtain ⟨hP2, hD2⟩ := va_join (wr := w) (wc := [(q, e)]) (w1 := w1) hP hD (List.range' w.length 1) (List.range w.length) hc suf_r (va_nd_of List.nodup_range) (fun i hi hj => by rw [List.mem_range] at hi; rw [List.mem_range'_1] at hj; omega) hk1 hFc zP zD
    exact kk w1 hw H1 locs1 ls hP2 hD2 hS1 hl
end YM
