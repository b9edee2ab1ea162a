/-! ===== the world: 134 cells of a fixed shape; what they hold is a function of cell and place ===== -/
def lw_g : List Cond := lw_tbl.filter goodWord
theorem lw_gin {w : Cond} (k : Nat) (h : lw_tbl[k]? = some w) (hg : goodWord w = true) : w ∈ lw_g := List.mem_filter.mpr ⟨List.mem_of_getElem? h, hg⟩
theorem in_X1 : ∀ w ∈ u_ws RX1 TX1 8, w ∈ lw_g := fun w h => List.mem_filter.mpr ⟨(by decide +kernel : ∀ w ∈ u_ws RX1 TX1 8, w ∈ lw_tbl) w h, (by decide +kernel : ∀ w ∈ u_ws RX1 TX1 8, goodWord w = true) w h⟩
theorem in_X2 : ∀ w ∈ u_ws RX2 TX2 7, w ∈ lw_g := fun w h => List.mem_filter.mpr ⟨(by decide +kernel : ∀ w ∈ u_ws RX2 TX2 7, w ∈ lw_tbl) w h, (by decide +kernel : ∀ w ∈ u_ws RX2 TX2 7, goodWord w = true) w h⟩
theorem in_X3 : ∀ w ∈ u_ws RX3 TX3 3, w ∈ lw_g := fun w h => List.mem_filter.mpr ⟨(by decide +kernel : ∀ w ∈ u_ws RX3 TX3 3, w ∈ lw_tbl) w h, (by decide +kernel : ∀ w ∈ u_ws RX3 TX3 3, goodWord w = true) w h⟩
theorem in_X4 : ∀ w ∈ u_ws RX4 TX4 3, w ∈ lw_g := fun w h => List.mem_filter.mpr ⟨(by decide +kernel : ∀ w ∈ u_ws RX4 TX4 3, w ∈ lw_tbl) w h, (by decide +kernel : ∀ w ∈ u_ws RX4 TX4 3, goodWord w = true) w h⟩
theorem in_X5 : ∀ w ∈ u_ws RX5 TX5 3, w ∈ lw_g := fun w h => List.mem_filter.mpr ⟨(by decide +kernel : ∀ w ∈ u_ws RX5 TX5 3, w ∈ lw_tbl) w h, (by decide +kernel : ∀ w ∈ u_ws RX5 TX5 3, goodWord w = true) w h⟩
theorem in_X6 : ∀ w ∈ u_ws RX6 TX6 17, w ∈ lw_g := fun w h => List.mem_filter.mpr ⟨(by decide +kernel : ∀ w ∈ u_ws RX6 TX6 17, w ∈ lw_tbl) w h, (by decide +kernel : ∀ w ∈ u_ws RX6 TX6 17, goodWord w = true) w h⟩
theorem in_X7 : ∀ w ∈ u_ws RX7 TX7 13, w ∈ lw_g := fun w h => List.mem_filter.mpr ⟨(by decide +kernel : ∀ w ∈ u_ws RX7 TX7 13, w ∈ lw_tbl) w h, (by decide +kernel : ∀ w ∈ u_ws RX7 TX7 13, goodWord w = true) w h⟩
theorem in_X8 : ∀ w ∈ u_ws RX8 TX8 9, w ∈ lw_g := fun w h => List.mem_filter.mpr ⟨(by decide +kernel : ∀ w ∈ u_ws RX8 TX8 9, w ∈ lw_tbl) w h, (by decide +kernel : ∀ w ∈ u_ws RX8 TX8 9, goodWord w = true) w h⟩
theorem in_X9 : ∀ w ∈ u_ws RX9 TX9 37, w ∈ lw_g := fun w h => List.mem_filter.mpr ⟨(by decide +kernel : ∀ w ∈ u_ws RX9 TX9 37, w ∈ lw_tbl) w h, (by decide +kernel : ∀ w ∈ u_ws RX9 TX9 37, goodWord w = true) w h⟩
abbrev Sg : Type := Nat → Int → Int
abbrev G : Type := Launch × va_G × (Nat → Nat) × (Nat → ClassId)
abbrev vI (z : Int) : Value := .int (Int32.ofInt z)
abbrev vL (z : Int) : Value := .long (Int64.ofInt z)
def up (σ : Sg) (c : Nat) (k v : Int) : Sg := fun c' k' => if c' = c then (if k' = k then v else σ c' k') else σ c' k'
theorem up_ne {σ : Sg} {c c' : Nat} {k v k' : Int} (h : c' ≠ c) : up σ c k v c' k' = σ c' k' := by simp [up, h]
theorem up_nk {σ : Sg} {c c' : Nat} {k v k' : Int} (h : k' ≠ k) : up σ c k v c' k' = σ c' k' := by simp [up, h]
theorem up_eq {σ : Sg} {c : Nat} {k v : Int} : up σ c k v c k = v := by simp [up]
abbrev Sh : Type := Nat × Nat × List Nat
def shL : List Sh := [(0, 7, [3, 7, 15, 11, 49, 83, 85, 106, 0]), (0, 1, [4, 5, 6, 0, 0, 0, 0]), (1, 8, []), (1, 32, []), (1, 32, []), (0, 1, [8, 9, 10, 0, 0, 0, 0]), (1, 8, []), (1, 32, []), (1, 32, []), (0, 1, [12, 13, 14, 0, 0, 0, 0]), (1, 8, []), (1, 32, []), (1, 32, []), (0, 2, [16, 0, 0]), (4, 0, [15, 19, 23, 27, 31, 35, 39, 43]), (0, 1, [18, 19, 20, 0, 0, 0, 0]), (1, 8, []), (1, 32, []), (1, 32, []), (0, 1, [22, 23, 24, 0, 0, 0, 0]), (1, 8, []), (1, 32, []), (1, 32, []), (0, 1, [26, 27, 28, 0, 0, 0, 0]), (1, 8, []), (1, 32, []), (1, 32, []), (0, 1, [30, 31, 32, 0, 0, 0, 0]), (1, 8, []), (1, 32, []), (1, 32, []), (0, 1, [34, 35, 36, 0, 0, 0, 0]), (1, 8, []), (1, 32, []), (1, 32, []), (0, 1, [38, 39, 40, 0, 0, 0, 0]), (1, 8, []), (1, 32, []), (1, 32, []), (0, 1, [42, 43, 44, 0, 0, 0, 0]), (1, 8, []), (1, 32, []), (1, 32, []), (0, 1, [46, 47, 48, 0, 0, 0, 0]), (1, 8, []), (1, 32, []), (1, 32, []), (0, 2, [50, 0, 0]), (4, 0, [49, 53, 57, 61, 65, 69, 73, 77]), (0, 1, [52, 53, 54, 0, 0, 0, 0]), (1, 8, []), (1, 32, []), (1, 32, []), (0, 1, [56, 57, 58, 0, 0, 0, 0]), (1, 8, []), (1, 32, []), (1, 32, []), (0, 1, [60, 61, 62, 0, 0, 0, 0]), (1, 8, []), (1, 32, []), (1, 32, []), (0, 1, [64, 65, 66, 0, 0, 0, 0]), (1, 8, []), (1, 32, []), (1, 32, []), (0, 1, [68, 69, 70, 0, 0, 0, 0]), (1, 8, []), (1, 32, []), (1, 32, []), (0, 1, [72, 73, 74, 0, 0, 0, 0]), (1, 8, []), (1, 32, []), (1, 32, []), (0, 1, [76, 77, 78, 0, 0, 0, 0]), (1, 8, []), (1, 32, []), (1, 32, []), (0, 1, [80, 81, 82, 0, 0, 0, 0]), (1, 8, []), (1, 32, []), (1, 32, []), (0, 3, [84, 0, 0]), (2, 120, []), (0, 5, [3, 90, 99, 0, 0, 0, 0, 0, 0, 86, 87, 88, 89, 0, 0, 1, 1]), (1, 4, []), (1, 8, []), (1, 8, []), (1, 5, []), (0, 6, [3, 91, 92, 93, 94, 95, 96, 97, 0, 98, 0, 0, 1]), (1, 9, []), (1, 9, []), (1, 9, []), (1, 9, []), (1, 9, []), (1, 9, []), (3, 9, []), (1, 4, []), (0, 0, [0, 0, 100, 101, 102, 103, 104, 105]), (1, 32, []), (1, 60, []), (1, 60, []), (1, 240, []), (3, 32, []), (1, 32, []), (4, 1, [105, 107, 109, 111]), (0, 4, [108, 0, 0]), (3, 24, []), (0, 4, [110, 0, 0]), (3, 24, []), (0, 4, [112, 0, 0]), (3, 24, []), (0, 4, [114, 0, 0]), (3, 24, []), (0, 8, [116, 117, 118, 0, 0, 119, 0, 0, 0, 0, 0, 0, 120, 0, 0, 0, 121, 122, 123, 124, 125, 0, 126, 0, 0, 127, 128, 0, 129, 0, 130, 131, 0, 132, 133, 134, 135]), (1, 76, []), (1, 8, []), (1, 9, []), (1, 8, []), (1, 8, []), (1, 256, []), (1, 60, []), (3, 128, []), (1, 128, []), (1, 8, []), (1, 120, []), (1, 72, []), (1, 10, []), (1, 608, []), (1, 76, []), (1, 608, []), (1, 4, []), (1, 4, []), (3, 96, []), (3, 24, [])]
def sh (c : Nat) : Sh := shL.getD c (9, 0, [])
/-- a place that holds a long -/
def lk (c : Nat) (k : Int) : Bool := match sh c with
  | (3, _, _) => true
  | (0, _, fl) => (fl[k.toNat]? == some 1) && decide (0 ≤ k)
  | _ => false
def Rn (σ : Sg) : Prop := ∀ (c : Nat) (k : Int), (lk c k = false → -2147483648 ≤ σ c k ∧ σ c k ≤ 2147483647) ∧ (-9223372036854775808 ≤ σ c k ∧ σ c k ≤ 9223372036854775807)
theorem Rn_up {σ : Sg} (h : Rn σ) {c : Nat} {k v : Int} (hv : (lk c k = false → -2147483648 ≤ v ∧ v ≤ 2147483647) ∧ (-9223372036854775808 ≤ v ∧ v ≤ 9223372036854775807)) : Rn (up σ c k v) := by
  intro c' k'
  unfold up
  by_cases h1 : c' = c
  · by_cases h2 : k' = k
    · subst h1; subst h2; simp only [if_pos]; exact hv
    · simp only [h1, h2, if_pos, if_false]; exact h c k'
  · simp only [h1, if_false]; exact h c' k'
def wv (ad : Nat → Nat) (r : Int → Int) (k : Nat) (code : Nat) : Value := match code with
  | 0 => vI (r k)
  | 1 => vL (r k)
  | j + 2 => .ref (ad j)
def weR (g : G) (c : Nat) (r : Int → Int) : va_E := match sh c with
  | (0, ci, fl) => .inr (ci, fl.mapIdx (fun k x => wv g.2.2.1 r k x))
  | (1, n, _) => .inl (g.2.2.2 0, n, .inl (fun k => Int32.ofInt (r k)))
  | (2, n, _) => .inl (g.2.2.2 1, n, .inl (fun k => Int32.ofInt (r k)))
  | (3, n, _) => .inl (g.2.2.2 2, n, .inr (.inl (fun k => Int64.ofInt (r k))))
  | (4, t, fl) => .inl (g.2.2.2 (3 + t), fl.length, .inr (.inr (.inr (.inr (fun k => fl[k]?.map g.2.2.1)))))
  | _ => .inr (0, [])
def ws (g : G) (σ : Sg) : va_W := (List.range 134).map (fun c => (g.2.2.1 c, weR g c (σ c)))
theorem ws_at (g : G) (σ : Sg) {c : Nat} (h : c < 134) : (ws g σ)[c]? = some (g.2.2.1 c, weR g c (σ c)) := by
  simp [ws, h]
theorem ws_set (g : G) (σ σ' : Sg) {c : Nat} (h : c < 134) (ho : ∀ c', c' ≠ c → σ' c' = σ c') : (ws g σ).set c (g.2.2.1 c, weR g c (σ' c)) = ws g σ' := by
  apply List.ext_getElem?
  intro i
  by_cases hi : i = c
  · subst hi
    rw [ws_at g σ' h, List.getElem?_set_self (by simp [ws]; exact h)]
  · rw [List.getElem?_set_ne (fun q => hi q.symm)]
    simp only [ws, List.getElem?_map]
    by_cases hr : i < 134
    · simp [hr, ho i hi]
    · simp [hr]
def Dj (g : G) : Prop := ∀ i j : Nat, i < 134 → j < 134 → g.2.2.1 i = g.2.2.1 j → i = j
theorem Dj.D {g : G} (h : Dj g) {A : Nat → Prop} (hA : ∀ c, c < 134 → A (g.2.2.1 c)) (σ : Sg) : va_D A (ws g σ) := by
  have key : ∀ (i : Nat) (p : Nat × va_E), (ws g σ)[i]? = some p → i < 134 ∧ p.1 = g.2.2.1 i := by
    intro i p hp
    have hl : i < (ws g σ).length := (List.getElem?_eq_some_iff.mp hp).1
    have hi : i < 134 := by simpa [ws] using hl
    rw [ws_at g σ hi] at hp
    exact ⟨hi, by rw [← Option.some.inj hp]⟩
  refine ⟨fun i j p q hp hq hpq => ?_, fun k q hq => ?_⟩
  · obtain ⟨h1, h2⟩ := key i p hp
    obtain ⟨h3, h4⟩ := key j q hq
    exact h i j h1 h3 (by rw [← h2, ← h4, hpq])
  · obtain ⟨h1, h2⟩ := key k q hq
    rw [h2]; exact hA k h1
def gty (g : G) : List (ClassId × FieldType) := [(g.2.2.2 0, .int), (g.2.2.2 1, .char), (g.2.2.2 2, .long), (g.2.2.2 3, .object RX2), (g.2.2.2 4, .object RX5)]
def Aa (g : G) (sz : Nat) : Nat → Prop := fun q => (∃ c, c < 134 ∧ q = g.2.2.1 c) ∨ sz ≤ q
/-! ===== the context of a walk ===== -/
abbrev Cx : Type := Program × Env × Room × State × MethodId × Array Value × List Frame × Method × Code × Nat × Nat × (State → Prop) × (Nat → Prop)
abbrev xp (x : Cx) : Program := x.1
abbrev xe (x : Cx) : Env := x.2.1
abbrev xR (x : Cx) : Room := x.2.2.1
abbrev xs (x : Cx) : State := x.2.2.2.1
abbrev xm (x : Cx) : MethodId := x.2.2.2.2.1
abbrev xa (x : Cx) : Array Value := x.2.2.2.2.2.1
abbrev xb (x : Cx) : List Frame := x.2.2.2.2.2.2.1
abbrev xt (x : Cx) : Method := x.2.2.2.2.2.2.2.1
abbrev xc (x : Cx) : Code := x.2.2.2.2.2.2.2.2.1
abbrev xk (x : Cx) : Nat := x.2.2.2.2.2.2.2.2.2.1
abbrev xn (x : Cx) : Nat := x.2.2.2.2.2.2.2.2.2.2.1
abbrev xQ (x : Cx) : State → Prop := x.2.2.2.2.2.2.2.2.2.2.2.1
abbrev xA (x : Cx) : Nat → Prop := x.2.2.2.2.2.2.2.2.2.2.2.2
def Ok (g : G) (x : Cx) (own : String) (cc : ByteArray) (nL d : Nat) : Prop :=
  (xp x).tables.exec = Jvm.exec ∧ (xc x).code = cc ∧ (xc x).maxLocals = nL ∧ (xs x).vm.findClass own = some (xm x).cls ∧ (∀ w ∈ lw_g, w.before (xa x) (xs x) = true) ∧ va_K g.2.1 vwCl (gty g) (xs x) ∧ Dj g ∧ (∀ c, c < 134 → xA x (g.2.2.1 c)) ∧ (∀ q, (xs x).heap.size ≤ q → xA x q) ∧ d ≤ (xR x).frames ∧ 40 * d ≤ (xR x).locals ∧ xk x ≤ (xR x).cells ∧ xn x ≤ (xR x).slots
def Wx (g : G) (x : Cx) (H : Heap) (locs : List Loc) (f : JFrame) : Prop := W (xp x) g.1 (xe x) (xR x) (xs x) (xm x) (xa x) (xb x) (xt x) (xc x) H locs (xk x) (xn x) (xQ x) f
def Z (g : G) (x : Cx) (nL pc : Nat) (L : List (Nat × Value)) (S : List Value) (σ : Sg) : Prop :=
  ∀ (H : Heap) (locs : List Loc) (ls : Array Slot), Rn σ → va_P g.2.1 vwCl (ws g σ) H → va_S (xA x) (xs x).heap H locs → lv_has ls nL L → Wx g x H locs (F0 (xm x) pc ls S)
section ZR
variable {g : G} {x : Cx} {own : String} {cc : ByteArray} {nL dp pc : Nat} {L L' : List (Nat × Value)} {S : List Value} {σ : Sg}
theorem z_iconst (h : Ok g x own cc nL dp) {n : Int} (d : decode cc pc = .ok (.iconst n, 1)) (k : Z g x nL (pc + 1) L (vI n :: S) σ) : Z g x nL pc L S σ :=
  fun H locs ls hr hP hS hl => lv_iconst h.1 h.2.1 d rfl (k H locs ls hr hP hS hl)
theorem z_bipush (h : Ok g x own cc nL dp) {n : Int} (d : decode cc pc = .ok (.bipush n, 2)) (hv : (Int8.ofInt n).toInt32 = Int32.ofInt n) (k : Z g x nL (pc + 2) L (vI n :: S) σ) : Z g x nL pc L S σ :=
  fun H locs ls hr hP hS hl => lv_bipush h.1 h.2.1 d hv (k H locs ls hr hP hS hl)
theorem z_sipush (h : Ok g x own cc nL dp) {n : Int} (d : decode cc pc = .ok (.sipush n, 3)) (hv : (Int16.ofInt n).toInt32 = Int32.ofInt n) (k : Z g x nL (pc + 3) L (vI n :: S) σ) : Z g x nL pc L S σ :=
  fun H locs ls hr hP hS hl => lv_sipush h.1 h.2.1 d hv (k H locs ls hr hP hS hl)
theorem z_lconst (h : Ok g x own cc nL dp) {n : Fin 2} (z : Int) (d : decode cc pc = .ok (.lconst n, 1)) (hz : Int64.ofNat (n : Nat) = Int64.ofInt z) (k : Z g x nL (pc + 1) L (vL z :: S) σ) : Z g x nL pc L S σ :=
  fun H locs ls hr hP hS hl => lv_lconst h.1 h.2.1 d hz (k H locs ls hr hP hS hl)
theorem z_ldc (h : Ok g x own cc nL dp) {z : Int} {ix : Nat} (hc : Cond.constant own ix (Int32.ofInt z) ∈ lw_g) (d : decode cc pc = .ok (.ldc ix, 2)) (k : Z g x nL (pc + 2) L (vI z :: S) σ) : Z g x nL pc L S σ :=
  fun H locs ls hr hP hS hl => lv_ldc h.1 h.2.1 h.2.2.2.1 (h.2.2.2.2.1 _ hc) d (k H locs ls hr hP hS hl)
theorem z_ldcw (h : Ok g x own cc nL dp) {z : Int} {ix : Nat} (hc : Cond.constant own ix (Int32.ofInt z) ∈ lw_g) (d : decode cc pc = .ok (.ldc_w ix, 3)) (k : Z g x nL (pc + 3) L (vI z :: S) σ) : Z g x nL pc L S σ :=
  fun H locs ls hr hP hS hl => lv_ldcw h.1 h.2.1 h.2.2.2.1 (h.2.2.2.2.1 _ hc) d (k H locs ls hr hP hS hl)
theorem z_ldc2 (h : Ok g x own cc nL dp) {z : Int} {ix : Nat} (hc : Cond.constantLong own ix (Int64.ofInt z) ∈ lw_g) (d : decode cc pc = .ok (.ldc2_w ix, 3)) (k : Z g x nL (pc + 3) L (vL z :: S) σ) : Z g x nL pc L S σ :=
  fun H locs ls hr hP hS hl => lv_ldc2 h.1 h.2.1 h.2.2.2.1 (h.2.2.2.2.1 _ hc) d (k H locs ls hr hP hS hl)
theorem z_iload_n (h : Ok g x own cc nL dp) {j : Fin 4} {z : Int} (q : Nat) (d : decode cc pc = .ok (.iload_n j, 1)) (hq : L[q]? = some ((j : Nat), vI z)) (k : Z g x nL (pc + 1) L (vI z :: S) σ) : Z g x nL pc L S σ :=
  fun H locs ls hr hP hS hl => lv_iload_n h.1 h.2.1 d rfl (lv_at hl q hq) (k H locs ls hr hP hS hl)
theorem z_iload (h : Ok g x own cc nL dp) {j : Nat} {z : Int} (q : Nat) (d : decode cc pc = .ok (.iload j, 2)) (hq : L[q]? = some (j, vI z)) (k : Z g x nL (pc + 2) L (vI z :: S) σ) : Z g x nL pc L S σ :=
  fun H locs ls hr hP hS hl => lv_iload h.1 h.2.1 d (lv_at hl q hq) (k H locs ls hr hP hS hl)
theorem z_lload_n (h : Ok g x own cc nL dp) {j : Fin 4} {z : Int} (q : Nat) (d : decode cc pc = .ok (.lload_n j, 1)) (hq : L[q]? = some ((j : Nat), vL z)) (k : Z g x nL (pc + 1) L (vL z :: S) σ) : Z g x nL pc L S σ :=
  fun H locs ls hr hP hS hl => lv_lload_n h.1 h.2.1 d rfl (lv_at hl q hq) (k H locs ls hr hP hS hl)
theorem z_lload (h : Ok g x own cc nL dp) {j : Nat} {z : Int} (q : Nat) (d : decode cc pc = .ok (.lload j, 2)) (hq : L[q]? = some (j, vL z)) (k : Z g x nL (pc + 2) L (vL z :: S) σ) : Z g x nL pc L S σ :=
  fun H locs ls hr hP hS hl => lv_lload h.1 h.2.1 d (lv_at hl q hq) (k H locs ls hr hP hS hl)
theorem z_aload_n (h : Ok g x own cc nL dp) {j : Fin 4} {z : Nat} (q : Nat) (d : decode cc pc = .ok (.aload_n j, 1)) (hq : L[q]? = some ((j : Nat), .ref z)) (k : Z g x nL (pc + 1) L (.ref z :: S) σ) : Z g x nL pc L S σ :=
  fun H locs ls hr hP hS hl => lv_aload_n h.1 h.2.1 d rfl (lv_at hl q hq) (k H locs ls hr hP hS hl)
theorem z_aload (h : Ok g x own cc nL dp) {j : Nat} {z : Nat} (q : Nat) (d : decode cc pc = .ok (.aload j, 2)) (hq : L[q]? = some (j, .ref z)) (k : Z g x nL (pc + 2) L (.ref z :: S) σ) : Z g x nL pc L S σ :=
  fun H locs ls hr hP hS hl => lv_aload h.1 h.2.1 d (lv_at hl q hq) (k H locs ls hr hP hS hl)
theorem z_istore_n (h : Ok g x own cc nL dp) {j : Fin 4} {z : Int} (d : decode cc pc = .ok (.istore_n j, 1)) (hn : (j : Nat) < nL) (hl' : ((j : Nat), vI z) :: L.filter (fun q => !(q.1 == (j : Nat)) && !(q.1 + 1 == (j : Nat) && q.2.category == 2)) = L') (k : Z g x nL (pc + 1) L' S σ) : Z g x nL pc L (vI z :: S) σ :=
  fun H locs ls hr hP hS hl => lv_istore_n h.1 h.2.1 d rfl hl hn hl' (fun ls2 hl2 => k H locs ls2 hr hP hS hl2)
theorem z_istore (h : Ok g x own cc nL dp) {j : Nat} {z : Int} (d : decode cc pc = .ok (.istore j, 2)) (hn : j < nL) (hl' : (j, vI z) :: L.filter (fun q => !(q.1 == j) && !(q.1 + 1 == j && q.2.category == 2)) = L') (k : Z g x nL (pc + 2) L' S σ) : Z g x nL pc L (vI z :: S) σ :=
  fun H locs ls hr hP hS hl => lv_istore h.1 h.2.1 d hl hn hl' (fun ls2 hl2 => k H locs ls2 hr hP hS hl2)
theorem z_astore_n (h : Ok g x own cc nL dp) {j : Fin 4} {z : Nat} (d : decode cc pc = .ok (.astore_n j, 1)) (hn : (j : Nat) < nL) (hl' : ((j : Nat), Value.ref z) :: L.filter (fun q => !(q.1 == (j : Nat)) && !(q.1 + 1 == (j : Nat) && q.2.category == 2)) = L') (k : Z g x nL (pc + 1) L' S σ) : Z g x nL pc L (.ref z :: S) σ :=
  fun H locs ls hr hP hS hl => lv_astore_n h.1 h.2.1 d rfl hl hn hl' (fun ls2 hl2 => k H locs ls2 hr hP hS hl2)
theorem z_astore (h : Ok g x own cc nL dp) {j : Nat} {z : Nat} (d : decode cc pc = .ok (.astore j, 2)) (hn : j < nL) (hl' : (j, Value.ref z) :: L.filter (fun q => !(q.1 == j) && !(q.1 + 1 == j && q.2.category == 2)) = L') (k : Z g x nL (pc + 2) L' S σ) : Z g x nL pc L (.ref z :: S) σ :=
  fun H locs ls hr hP hS hl => lv_astore h.1 h.2.1 d hl hn hl' (fun ls2 hl2 => k H locs ls2 hr hP hS hl2)
theorem z_lstore_n (h : Ok g x own cc nL dp) {j : Fin 4} {z : Int} (d : decode cc pc = .ok (.lstore_n j, 1)) (hn : (j : Nat) + 1 < nL) (hl' : ((j : Nat), vL z) :: L.filter (fun q => !(q.1 == (j : Nat)) && (!(q.1 == (j : Nat) + 1) && !(q.1 + 1 == (j : Nat) && q.2.category == 2))) = L') (k : Z g x nL (pc + 1) L' S σ) : Z g x nL pc L (vL z :: S) σ :=
  fun H locs ls hr hP hS hl => lv_lstore_n h.1 h.2.1 d rfl hl hn hl' (fun ls2 hl2 => k H locs ls2 hr hP hS hl2)
theorem z_lstore (h : Ok g x own cc nL dp) {j : Nat} {z : Int} (d : decode cc pc = .ok (.lstore j, 2)) (hn : j + 1 < nL) (hl' : (j, vL z) :: L.filter (fun q => !(q.1 == j) && (!(q.1 == j + 1) && !(q.1 + 1 == j && q.2.category == 2))) = L') (k : Z g x nL (pc + 2) L' S σ) : Z g x nL pc L (vL z :: S) σ :=
  fun H locs ls hr hP hS hl => lv_lstore h.1 h.2.1 d hl hn hl' (fun ls2 hl2 => k H locs ls2 hr hP hS hl2)
theorem z_iinc (h : Ok g x own cc nL dp) {j : Nat} {n z : Int} (q : Nat) (d : decode cc pc = .ok (.iinc j n, 3)) (hq : L[q]? = some (j, vI z)) (hn : j < nL) (hl' : (j, vI (z + n)) :: L.filter (fun q => !(q.1 == j) && !(q.1 + 1 == j && q.2.category == 2)) = L') (k : Z g x nL (pc + 3) L' S σ) : Z g x nL pc L S σ :=
  fun H locs ls hr hP hS hl => lv_iinc h.1 h.2.1 d hl hq (v := Int32.ofInt (z + n)) (by rw [Int32.ofInt_add]) hn hl' (fun ls2 hl2 => k H locs ls2 hr hP hS hl2)
theorem z_pick (ks : List Nat) (hk : lv_pick L ks = L') (k : Z g x nL pc L' S σ) : Z g x nL pc L S σ :=
  fun H locs ls hr hP hS hl => k H locs ls hr hP hS (lv_sub hl ks hk)
theorem z_iadd (h : Ok g x own cc nL dp) {a b : Int} (d : decode cc pc = .ok (.iadd, 1)) (k : Z g x nL (pc + 1) L (vI (a + b) :: S) σ) : Z g x nL pc L (vI b :: vI a :: S) σ :=
  fun H locs ls hr hP hS hl => lv_iadd h.1 h.2.1 d (by rw [← Int32.ofInt_add]; exact k H locs ls hr hP hS hl)
theorem z_isub (h : Ok g x own cc nL dp) {a b : Int} (d : decode cc pc = .ok (.isub, 1)) (k : Z g x nL (pc + 1) L (vI (a - b) :: S) σ) : Z g x nL pc L (vI b :: vI a :: S) σ :=
  fun H locs ls hr hP hS hl => lv_isub h.1 h.2.1 d (by rw [← Int32.ofInt_sub]; exact k H locs ls hr hP hS hl)
theorem z_imul (h : Ok g x own cc nL dp) {a b : Int} (d : decode cc pc = .ok (.imul, 1)) (k : Z g x nL (pc + 1) L (vI (a * b) :: S) σ) : Z g x nL pc L (vI b :: vI a :: S) σ :=
  fun H locs ls hr hP hS hl => lv_imul h.1 h.2.1 d (by rw [← Int32.ofInt_mul]; exact k H locs ls hr hP hS hl)
theorem z_ladd (h : Ok g x own cc nL dp) {a b : Int} (d : decode cc pc = .ok (.ladd, 1)) (k : Z g x nL (pc + 1) L (vL (a + b) :: S) σ) : Z g x nL pc L (vL b :: vL a :: S) σ :=
  fun H locs ls hr hP hS hl => lv_ladd h.1 h.2.1 d (by rw [← Int64.ofInt_add]; exact k H locs ls hr hP hS hl)
theorem z_lsub (h : Ok g x own cc nL dp) {a b : Int} (d : decode cc pc = .ok (.lsub, 1)) (k : Z g x nL (pc + 1) L (vL (a - b) :: S) σ) : Z g x nL pc L (vL b :: vL a :: S) σ :=
  fun H locs ls hr hP hS hl => lv_lsub h.1 h.2.1 d (by rw [← Int64.ofInt_sub]; exact k H locs ls hr hP hS hl)
theorem z_lmul (h : Ok g x own cc nL dp) {a b : Int} (d : decode cc pc = .ok (.lmul, 1)) (k : Z g x nL (pc + 1) L (vL (a * b) :: S) σ) : Z g x nL pc L (vL b :: vL a :: S) σ :=
  fun H locs ls hr hP hS hl => lv_lmul h.1 h.2.1 d (by rw [← Int64.ofInt_mul]; exact k H locs ls hr hP hS hl)
theorem iI_toInt {a : Int} (h : -2147483648 ≤ a ∧ a ≤ 2147483647) : (Int32.ofInt a).toInt = a := Int32.toInt_ofInt_of_le (by have := h.1; omega) (by have := h.2; omega)
theorem iL_toInt {a : Int} (h : -9223372036854775808 ≤ a ∧ a ≤ 9223372036854775807) : (Int64.ofInt a).toInt = a := Int64.toInt_ofInt_of_le (by have := h.1; omega) (by have := h.2; omega)
theorem iI_lt {a b : Int} (ha : -2147483648 ≤ a ∧ a ≤ 2147483647) (hb : -2147483648 ≤ b ∧ b ≤ 2147483647) : Int32.ofInt a < Int32.ofInt b ↔ a < b := by
  rw [Int32.lt_iff_toInt_lt, iI_toInt ha, iI_toInt hb]
theorem iI_le {a b : Int} (ha : -2147483648 ≤ a ∧ a ≤ 2147483647) (hb : -2147483648 ≤ b ∧ b ≤ 2147483647) : Int32.ofInt a ≤ Int32.ofInt b ↔ a ≤ b := by
  rw [Int32.le_iff_toInt_le, iI_toInt ha, iI_toInt hb]
theorem iI_eq {a b : Int} (ha : -2147483648 ≤ a ∧ a ≤ 2147483647) (hb : -2147483648 ≤ b ∧ b ≤ 2147483647) : Int32.ofInt a = Int32.ofInt b ↔ a = b := by
  rw [← Int32.toInt_inj, iI_toInt ha, iI_toInt hb]
theorem iL_lt {a b : Int} (ha : -9223372036854775808 ≤ a ∧ a ≤ 9223372036854775807) (hb : -9223372036854775808 ≤ b ∧ b ≤ 9223372036854775807) : Int64.ofInt a < Int64.ofInt b ↔ a < b := by
  rw [Int64.lt_iff_toInt_lt, iL_toInt ha, iL_toInt hb]
theorem iL_eq {a b : Int} (ha : -9223372036854775808 ≤ a ∧ a ≤ 9223372036854775807) (hb : -9223372036854775808 ≤ b ∧ b ≤ 9223372036854775807) : Int64.ofInt a = Int64.ofInt b ↔ a = b := by
  rw [← Int64.toInt_inj, iL_toInt ha, iL_toInt hb]
end ZR
