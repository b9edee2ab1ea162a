/-! ===== the walk's steps from word to word, and the reference's readers ===== -/
/-- where the walk has come to: place, thousands, small, numbers that ended -/
abbrev AS : Type := Int × Int × Int × List Int
def lst (p th sm : Int) (ns : List Int) (w : Int) : AS := if w ≤ 19 then (if (p = 0 ∨ p = 6) ∧ w ≤ 9 then (1, th, sm + w, ns) else (2, th, sm + w, ns)) else (3, th, sm + (w - 18) * 10, ns)
def aN (s : AS) (w : Int) : Option AS :=
  if w = 0 then some s
  else if w = 31 then (if (s.1 ≠ 0 ∧ s.1 ≠ 5) ∧ (s.2.2.2.length : Int) < 4 then some (0, 0, 0, s.2.2.2 ++ [s.2.1 + s.2.2.1]) else none)
  else if w = 30 then (if s.1 = 4 ∨ s.1 = 6 then some (5, s.2.1, s.2.2.1, s.2.2.2) else none)
  else if w = 28 then (if s.1 = 1 then some (4, s.2.1, s.2.2.1 * 100, s.2.2.2) else none)
  else if w = 29 then (if (s.1 ≠ 0 ∧ s.1 ≠ 5) ∧ s.2.1 = 0 then some (6, s.2.2.1 * 1000, 0, s.2.2.2) else none)
  else if s.1 = 0 ∨ s.1 = 6 ∨ s.1 = 4 ∨ s.1 = 5 ∨ (s.1 = 3 ∧ w ≤ 9) then some (lst s.1 s.2.1 s.2.2.1 s.2.2.2 w) else none
def aR : AS → List Int → Option AS
  | s, [] => some s
  | s, w :: l => (aN s w).bind (fun t => aR t l)
def aF (s : AS) : Option (List Int) := if (s.1 ≠ 0 ∧ s.1 ≠ 5) ∧ (s.2.2.2.length : Int) < 4 then some (s.2.2.2 ++ [s.2.1 + s.2.2.1]) else none
def aG (l : List Int) (s : AS) (i : Int) : Option (List Int) := (aR s (l.drop i.toNat)).bind aF
def LW (l : List Int) : Prop := l.length ≤ 8 ∧ ∀ v ∈ l, 1 ≤ v ∧ v ≤ 31
theorem whl_in {l : List Int} (hl : LW l) {i : Int} (h0 : 0 ≤ i) (h1 : i < l.length) : 1 ≤ whl l i ∧ whl l i ≤ 31 := by
  unfold whl
  rw [if_pos ⟨h0, h1⟩, List.getD_eq_getElem?_getD, List.getElem?_eq_getElem (by omega)]
  exact hl.2 _ (List.getElem_mem _)
theorem whl_out {l : List Int} {i : Int} (h : (l.length : Int) ≤ i) : whl l i = -4 := by unfold whl; rw [if_neg (by omega)]
theorem whl_lt {l : List Int} {i : Int} (h : whl l i ≠ -4) : i < l.length := by
  apply Classical.byContradiction; intro z; exact h (whl_out (by omega))
theorem LW.PF {l : List Int} (hl : LW l) : PF (whl l) l.length := whl_PF hl.1 (fun v hv => by have := hl.2 v hv; omega)
theorem aG_end {l : List Int} {s : AS} {i : Int} (h : (l.length : Int) ≤ i) : aG l s i = aF s := by
  unfold aG; rw [List.drop_eq_nil_of_le (by omega)]; rfl
theorem aG_step {l : List Int} {s : AS} {i : Int} (h0 : 0 ≤ i) (h1 : i < l.length) : aG l s i = (aN s (whl l i)).bind (fun t => aG l t (i + 1)) := by
  unfold aG
  rw [List.drop_eq_getElem_cons (show i.toNat < l.length by omega)]
  have e : whl l i = l[i.toNat]'(by omega) := by
    unfold whl; rw [if_pos ⟨h0, h1⟩, List.getD_eq_getElem?_getD, List.getElem?_eq_getElem (by omega)]; rfl
  rw [show (i + 1).toNat = i.toNat + 1 by omega, e]
  show ((aN s _).bind _).bind aF = _
  rw [Option.bind_assoc]
theorem aN_31 {p th sm : Int} {ns : List Int} (hp : p ≠ 0 ∧ p ≠ 5) (hn : (ns.length : Int) < 4) : aN (p, th, sm, ns) 31 = some (0, 0, 0, ns ++ [th + sm]) := by
  unfold aN; rw [if_neg (by decide), if_pos rfl, if_pos ⟨hp, hn⟩]
theorem aN_31f {p th sm : Int} {ns : List Int} (h : ¬ ((p ≠ 0 ∧ p ≠ 5) ∧ (ns.length : Int) < 4)) : aN (p, th, sm, ns) 31 = none := by
  unfold aN; rw [if_neg (by decide), if_pos rfl, if_neg h]
theorem aN_30 {p th sm : Int} {ns : List Int} (h : p = 4 ∨ p = 6) : aN (p, th, sm, ns) 30 = some (5, th, sm, ns) := by
  unfold aN; rw [if_neg (by decide), if_neg (by decide), if_pos rfl, if_pos h]
theorem aN_30f {p th sm : Int} {ns : List Int} (h : ¬ (p = 4 ∨ p = 6)) : aN (p, th, sm, ns) 30 = none := by
  unfold aN; rw [if_neg (by decide), if_neg (by decide), if_pos rfl, if_neg h]
theorem aN_28 {th sm : Int} {ns : List Int} : aN (1, th, sm, ns) 28 = some (4, th, sm * 100, ns) := by
  unfold aN; rw [if_neg (by decide), if_neg (by decide), if_neg (by decide), if_pos rfl, if_pos rfl]
theorem aN_28f {p th sm : Int} {ns : List Int} (h : p ≠ 1) : aN (p, th, sm, ns) 28 = none := by
  unfold aN; rw [if_neg (by decide), if_neg (by decide), if_neg (by decide), if_pos rfl, if_neg h]
theorem aN_29 {p sm : Int} {ns : List Int} (hp : p ≠ 0 ∧ p ≠ 5) : aN (p, 0, sm, ns) 29 = some (6, sm * 1000, 0, ns) := by
  unfold aN; rw [if_neg (by decide), if_neg (by decide), if_neg (by decide), if_neg (by decide), if_pos rfl, if_pos ⟨hp, rfl⟩]
theorem aN_29f {p th sm : Int} {ns : List Int} (h : ¬ ((p ≠ 0 ∧ p ≠ 5) ∧ th = 0)) : aN (p, th, sm, ns) 29 = none := by
  unfold aN; rw [if_neg (by decide), if_neg (by decide), if_neg (by decide), if_neg (by decide), if_pos rfl, if_neg h]
theorem aN_low {p th sm w : Int} {ns : List Int} (hw : 1 ≤ w ∧ w ≤ 27) (h : p = 0 ∨ p = 6 ∨ p = 4 ∨ p = 5 ∨ (p = 3 ∧ w ≤ 9)) : aN (p, th, sm, ns) w = some (lst p th sm ns w) := by
  unfold aN; rw [if_neg (by omega), if_neg (by omega), if_neg (by omega), if_neg (by omega), if_neg (by omega), if_pos h]
theorem aN_lowf {p th sm w : Int} {ns : List Int} (hw : 1 ≤ w ∧ w ≤ 27) (h : ¬ (p = 0 ∨ p = 6 ∨ p = 4 ∨ p = 5 ∨ (p = 3 ∧ w ≤ 9))) : aN (p, th, sm, ns) w = none := by
  unfold aN; rw [if_neg (by omega), if_neg (by omega), if_neg (by omega), if_neg (by omega), if_neg (by omega), if_neg h]
/-- what follows where a number may end -/
def tl (l : List Int) (th sm : Int) (ns : List Int) (j : Int) : Option (List Int) := if whl l j = 31 then (if (ns.length : Int) < 4 then aG l (0, 0, 0, ns ++ [th + sm]) (j + 1) else none) else if whl l j = 29 then (if th = 0 then aG l (6, sm * 1000, 0, ns) (j + 1) else none) else if whl l j = -4 then (if (ns.length : Int) < 4 then some (ns ++ [th + sm]) else none) else none
theorem aG_tl {l : List Int} (hl : LW l) {p th sm i : Int} {ns : List Int} (h0 : 0 ≤ i) (hp : p ≠ 0 ∧ p ≠ 5) (h30 : ¬ (whl l i = 30 ∧ (p = 4 ∨ p = 6))) (h28 : ¬ (whl l i = 28 ∧ p = 1)) (hlo : ¬ ((1 ≤ whl l i ∧ whl l i ≤ 27) ∧ (p = 0 ∨ p = 6 ∨ p = 4 ∨ p = 5 ∨ (p = 3 ∧ whl l i ≤ 9)))) : aG l (p, th, sm, ns) i = tl l th sm ns i := by
  unfold tl
  by_cases q : i < l.length
  · have r := whl_in hl h0 q
    rw [aG_step h0 q]
    rcases (show whl l i = 31 ∨ whl l i = 30 ∨ whl l i = 28 ∨ whl l i = 29 ∨ (1 ≤ whl l i ∧ whl l i ≤ 27) by omega) with e | e | e | e | e
    · rw [e, if_pos rfl]
      by_cases hn : (ns.length : Int) < 4
      · rw [aN_31 hp hn, if_pos hn]; rfl
      · rw [aN_31f (fun z => hn z.2), if_neg hn]; rfl
    · rw [if_neg (by omega), if_neg (by omega), if_neg (by omega), e, aN_30f (fun z => h30 ⟨e, z⟩)]; rfl
    · rw [if_neg (by omega), if_neg (by omega), if_neg (by omega), e, aN_28f (fun z => h28 ⟨e, z⟩)]; rfl
    · rw [if_neg (by omega), if_pos e, e]
      by_cases ht : th = 0
      · subst ht; rw [aN_29 hp, if_pos rfl]; rfl
      · rw [aN_29f (fun z => ht z.2), if_neg ht]; rfl
    · rw [if_neg (by omega), if_neg (by omega), if_neg (by omega), aN_lowf e (fun z => hlo ⟨e, z⟩)]; rfl
  · have e := whl_out (l := l) (i := i) (by omega)
    rw [aG_end (by omega), if_neg (by omega), if_neg (by omega), if_pos e]
    unfold aF
    by_cases hn : (ns.length : Int) < 4
    · rw [if_pos ⟨hp, hn⟩, if_pos hn]
    · rw [if_neg (fun z => hn z.2), if_neg hn]
theorem wth_in {v : Int} (h : wth v ≠ 0) : 1 ≤ v ∧ v ≤ 27 := by
  unfold wth at h; split at h
  · omega
  · split at h <;> omega
theorem wth_19 {v : Int} (h : 1 ≤ v ∧ v ≤ 19) : wth v = v := by unfold wth; rw [if_pos h]
theorem wth_27 {v : Int} (h : 19 < v ∧ v ≤ 27) : wth v = (v - 18) * 10 := by unfold wth; rw [if_neg (by omega), if_pos (by omega)]; omega
theorem wth_0 {v : Int} (h : wth v = 0) : ¬ (1 ≤ v ∧ v ≤ 27) := by
  intro z
  by_cases q : v ≤ 19
  · rw [wth_19 ⟨z.1, q⟩] at h; omega
  · rw [wth_27 ⟨by omega, z.2⟩] at h; omega
theorem aG_low {l : List Int} (hl : LW l) {p th sm i : Int} {ns : List Int} (h0 : 0 ≤ i) (hw : wth (whl l i) ≠ 0) (hp : p = 0 ∨ p = 6 ∨ p = 4 ∨ p = 5) (h28 : (p = 0 ∨ p = 6) → ¬ (1 ≤ whl l i ∧ whl l i ≤ 9 ∧ whl l (i + 1) = 28)) : aG l (p, th, sm, ns) i = tl l th (sm + (lowF (whl l) i).1) ns (lowF (whl l) i).2 := by
  have hr := wth_in hw
  have hi : i < l.length := whl_lt (by omega)
  rw [aG_step h0 hi, aN_low hr (by omega)]
  show aG l (lst p th sm ns (whl l i)) (i + 1) = _
  unfold lowF lst
  rw [if_neg hw]
  by_cases h19 : whl l i ≤ 19
  · have n19 : ¬ (19 < whl l i ∧ 1 ≤ whl l (i + 1) ∧ whl l (i + 1) ≤ 9) := by omega
    rw [if_pos h19, if_neg n19, wth_19 ⟨hr.1, h19⟩]
    by_cases hc : (p = 0 ∨ p = 6) ∧ whl l i ≤ 9
    · rw [if_pos hc]
      exact aG_tl hl (by omega) (by decide) (by omega) (fun z => h28 hc.1 ⟨hr.1, hc.2, z.1⟩) (by omega)
    · rw [if_neg hc]
      exact aG_tl hl (by omega) (by decide) (by omega) (by omega) (by omega)
  · rw [if_neg h19, wth_27 ⟨by omega, hr.2⟩]
    by_cases hd : 1 ≤ whl l (i + 1) ∧ whl l (i + 1) ≤ 9
    · have n19 : 19 < whl l i ∧ 1 ≤ whl l (i + 1) ∧ whl l (i + 1) ≤ 9 := ⟨by omega, hd⟩
      rw [if_pos n19]
      have hi2 : i + 1 < l.length := whl_lt (by omega)
      rw [aG_step (by omega) hi2, aN_low (by omega) (by omega)]
      show aG l (lst _ _ _ _ _) (i + 1 + 1) = _
      unfold lst
      have g1 : ¬ (((3 : Int) = 0 ∨ (3 : Int) = 6) ∧ whl l (i + 1) ≤ 9) := by omega
      have g2 : whl l (i + 1) ≤ 19 := by omega
      rw [if_pos g2, if_neg g1, Int.add_assoc]
      exact aG_tl hl (by omega) (by decide) (by omega) (by omega) (by omega)
    · have n19 : ¬ (19 < whl l i ∧ 1 ≤ whl l (i + 1) ∧ whl l (i + 1) ≤ 9) := fun z => hd z.2
      rw [if_neg n19]
      exact aG_tl hl (by omega) (by decide) (by omega) (by omega) (by omega)
theorem lowF_pos {f : Int → Int} {i : Int} (h : wth (f i) ≠ 0) : 0 < (lowF f i).1 := by
  have := wth_r (f i)
  unfold lowF; rw [if_neg h]; split <;> (simp only; omega)
theorem lowF_0 {f : Int → Int} {i : Int} (h : wth (f i) = 0) : lowF f i = (0, i) := by unfold lowF; rw [if_pos h]
/-- nothing can go on here -/
theorem aG_no {l : List Int} (hl : LW l) {p th sm i : Int} {ns : List Int} (h0 : 0 ≤ i) (hp : p = 0 ∨ p = 5) (hw : wth (whl l i) = 0) : aG l (p, th, sm, ns) i = none := by
  have hz := wth_0 hw
  by_cases q : i < l.length
  · have r := whl_in hl h0 q
    rw [aG_step h0 q]
    rcases (show whl l i = 31 ∨ whl l i = 30 ∨ whl l i = 28 ∨ whl l i = 29 by omega) with e | e | e | e
    · rw [e, aN_31f (by omega)]; rfl
    · rw [e, aN_30f (by omega)]; rfl
    · rw [e, aN_28f (by omega)]; rfl
    · rw [e, aN_29f (by omega)]; rfl
  · rw [aG_end (by omega)]; unfold aF; rw [if_neg (fun z => by have := z.1; simp only at this; omega)]
theorem aG_join {l : List Int} (hl : LW l) {p th sm i : Int} {ns : List Int} (h0 : 0 ≤ i) (hp : p = 4 ∨ p = 6) (e : whl l i = 30) : aG l (p, th, sm, ns) i = if (moreF (whl l) i).1 < 0 then none else tl l th (sm + (moreF (whl l) i).1) ns (moreF (whl l) i).2 := by
  have hi : i < l.length := whl_lt (by omega)
  rw [aG_step h0 hi, e, aN_30 hp]
  show aG l (5, th, sm, ns) (i + 1) = _
  unfold moreF
  rw [if_pos e]
  by_cases hz : wth (whl l (i + 1)) = 0
  · rw [aG_no hl (by omega) (by omega) hz, lowF_0 hz, if_pos rfl, if_pos (show (-4 : Int) < 0 by decide)]
  · have := lowF_pos hz
    have g1 : ¬ (lowF (whl l) (i + 1)).1 = 0 := by omega
    have g2 : ¬ (lowF (whl l) (i + 1)).1 < 0 := by omega
    rw [if_neg g1, if_neg g2]
    exact aG_low hl (by omega) hz (by omega) (by omega)
theorem aG_more {l : List Int} (hl : LW l) {th sm i : Int} {ns : List Int} (h0 : 0 ≤ i) : aG l (4, th, sm, ns) i = if (moreF (whl l) i).1 < 0 then none else tl l th (sm + (moreF (whl l) i).1) ns (moreF (whl l) i).2 := by
  by_cases e : whl l i = 30
  · exact aG_join hl h0 (Or.inl rfl) e
  · unfold moreF
    rw [if_neg e]
    by_cases hz : wth (whl l i) = 0
    · have := wth_0 hz
      rw [lowF_0 hz, if_neg (show ¬ (0 : Int) < 0 by decide), Int.add_zero]
      exact aG_tl hl h0 (by decide) (by omega) (by omega) (by omega)
    · have := lowF_pos hz
      rw [if_neg (by omega)]
      exact aG_low hl h0 hz (by omega) (by omega)
theorem aG_small {l : List Int} (hl : LW l) {p th i : Int} {ns : List Int} (h0 : 0 ≤ i) (hp : p = 0 ∨ p = 6) (hz : ¬ (1 ≤ whl l i ∧ whl l i ≤ 9 ∧ whl l (i + 1) = 28) → wth (whl l i) ≠ 0) : aG l (p, th, 0, ns) i = if (smallF (whl l) i).1 < 0 then none else tl l th (smallF (whl l) i).1 ns (smallF (whl l) i).2 := by
  unfold smallF
  by_cases e : 1 ≤ whl l i ∧ whl l i ≤ 9 ∧ whl l (i + 1) = 28
  · have hi2 : i + 1 < l.length := whl_lt (by omega)
    rw [if_pos e, aG_step h0 (by omega), aN_low (by omega) (by omega)]
    show aG l (lst _ _ _ _ _) (i + 1) = _
    unfold lst
    have g1 : whl l i ≤ 19 := by omega
    have g2 : (p = 0 ∨ p = 6) ∧ whl l i ≤ 9 := ⟨hp, by omega⟩
    rw [if_pos g1, if_pos g2, aG_step (by omega) hi2, e.2.2, aN_28]
    show aG l _ (i + 1 + 1) = _
    rw [aG_more hl (by omega), show i + 1 + 1 = i + 2 by omega]
    by_cases q : (moreF (whl l) (i + 2)).1 < 0
    · rw [if_pos q, if_pos q, if_pos (show (-4 : Int) < 0 by decide)]
    · have g3 : ¬ (100 * whl l i + (moreF (whl l) (i + 2)).1 < 0) := by omega
      rw [if_neg q, if_neg q, if_neg g3, show (0 + whl l i) * 100 = 100 * whl l i by omega]
  · have hw := hz e
    have := lowF_pos hw
    have g3 : ¬ (lowF (whl l) i).1 < 0 := by omega
    rw [if_neg e, if_neg g3, aG_low hl h0 hw (by omega) (fun _ => e), Int.zero_add]
theorem smallF_0 {f : Int → Int} {i : Int} (e : ¬ (1 ≤ f i ∧ f i ≤ 9 ∧ f (i + 1) = 28)) (hw : wth (f i) = 0) : smallF f i = (0, i) := by unfold smallF; rw [if_neg e, lowF_0 hw]
theorem smallF_n0 {f : Int → Int} {i : Int} (e : (smallF f i).1 ≤ 0) : (smallF f i).1 < 0 ∨ (¬ (1 ≤ f i ∧ f i ≤ 9 ∧ f (i + 1) = 28) ∧ wth (f i) = 0) := by
  by_cases q : 1 ≤ f i ∧ f i ≤ 9 ∧ f (i + 1) = 28
  · left
    unfold smallF at e ⊢
    rw [if_pos q] at e ⊢
    split at e
    · rename_i h; rw [if_pos h]; exact (show (-4 : Int) < 0 by decide)
    · rename_i h; simp only at e; omega
  · right
    refine ⟨q, ?_⟩
    apply Classical.byContradiction; intro z
    have := lowF_pos z
    unfold smallF at e
    rw [if_neg q] at e
    omega
theorem aG_start {l : List Int} (hl : LW l) {i : Int} {ns : List Int} (h0 : 0 ≤ i) : aG l (0, 0, 0, ns) i = if (smallF (whl l) i).1 ≤ 0 then none else tl l 0 (smallF (whl l) i).1 ns (smallF (whl l) i).2 := by
  by_cases h : (smallF (whl l) i).1 ≤ 0
  · rw [if_pos h]
    rcases smallF_n0 h with q | q
    · by_cases e : 1 ≤ whl l i ∧ whl l i ≤ 9 ∧ whl l (i + 1) = 28
      · rw [aG_small hl h0 (Or.inl rfl) (fun z => absurd e z), if_pos q]
      · by_cases hw : wth (whl l i) = 0
        · exact aG_no hl h0 (Or.inl rfl) hw
        · rw [aG_small hl h0 (Or.inl rfl) (fun _ => hw), if_pos q]
    · exact aG_no hl h0 (Or.inl rfl) q.2
  · rw [if_neg h, aG_small hl h0 (Or.inl rfl) (fun z hw => h (by rw [smallF_0 z hw]; exact Int.le_refl 0)), if_neg (by omega)]
theorem aG_thou {l : List Int} (hl : LW l) {th i : Int} {ns : List Int} (h0 : 0 ≤ i) : aG l (6, th, 0, ns) i = if (restF (whl l) i).1 < 0 then none else tl l th (restF (whl l) i).1 ns (restF (whl l) i).2 := by
  unfold restF
  by_cases e : whl l i = 30
  · rw [if_pos e, aG_join hl h0 (Or.inr rfl) e, Int.zero_add]
  · rw [if_neg e]
    by_cases q : ¬ (1 ≤ whl l i ∧ whl l i ≤ 9 ∧ whl l (i + 1) = 28) ∧ wth (whl l i) = 0
    · have := wth_0 q.2
      rw [smallF_0 q.1 q.2, if_neg (show ¬ (0 : Int) < 0 by decide)]
      exact aG_tl hl h0 (by decide) (by omega) (by omega) (by omega)
    · exact aG_small hl h0 (Or.inr rfl) (fun z hw => q ⟨z, hw⟩)
def tl2 (l : List Int) (v : Int) (ns : List Int) (j : Int) : Option (List Int) := if whl l j = 31 then (if (ns.length : Int) < 4 then aG l (0, 0, 0, ns ++ [v]) (j + 1) else none) else if whl l j = -4 then (if (ns.length : Int) < 4 then some (ns ++ [v]) else none) else none
theorem aG_num {l : List Int} (hl : LW l) {i : Int} {ns : List Int} (h0 : 0 ≤ i) (h1 : i ≤ l.length) : aG l (0, 0, 0, ns) i = if (numF (whl l) i).1 ≤ 0 then none else tl2 l (numF (whl l) i).1 ns (numF (whl l) i).2 := by
  have hs := smallF_r hl.PF h0 h1
  rw [aG_start hl h0]
  unfold numF
  by_cases h : (smallF (whl l) i).1 ≤ 0
  · rw [if_pos h, if_pos (Or.inl h), if_pos h]
  · rw [if_neg h]
    by_cases e : whl l (smallF (whl l) i).2 = 29
    · have g0 : ¬ ((smallF (whl l) i).1 ≤ 0 ∨ whl l (smallF (whl l) i).2 ≠ 29) := by omega
      have g31 : ¬ whl l (smallF (whl l) i).2 = 31 := by omega
      rw [if_neg g0]
      unfold tl
      rw [if_neg g31, if_pos e, if_pos rfl, aG_thou hl (by omega)]
      have hj := whl_lt (l := l) (i := (smallF (whl l) i).2) (by omega)
      have hr := restF_r hl.PF (i := (smallF (whl l) i).2 + 1) (by omega) (by omega)
      by_cases q : (restF (whl l) ((smallF (whl l) i).2 + 1)).1 < 0
      · rw [if_pos q, if_pos q, if_pos (show (-4 : Int) ≤ 0 by decide)]
      · have g3 : ¬ (1000 * (smallF (whl l) i).1 + (restF (whl l) ((smallF (whl l) i).2 + 1)).1 ≤ 0) := by omega
        rw [if_neg q, if_neg q, if_neg g3]
        unfold tl tl2
        rw [show 1000 * (smallF (whl l) i).1 = (smallF (whl l) i).1 * 1000 by omega]
        by_cases a : whl l (restF (whl l) ((smallF (whl l) i).2 + 1)).2 = 31
        · rw [if_pos a, if_pos a]
        · rw [if_neg a, if_neg a]
          by_cases b : whl l (restF (whl l) ((smallF (whl l) i).2 + 1)).2 = 29
          · have g5 : ¬ (smallF (whl l) i).1 * 1000 = 0 := by omega
            have g6 : ¬ whl l (restF (whl l) ((smallF (whl l) i).2 + 1)).2 = -4 := by omega
            rw [if_pos b, if_neg g5, if_neg g6]
          · rw [if_neg b]
    · rw [if_pos (Or.inr e), if_neg h]
      unfold tl tl2
      rw [if_neg e, Int.zero_add]
theorem aG_sd {l : List Int} (hl : LW l) : ∀ (k : Nat) (i : Int) (ns : List Int), 0 ≤ i → i ≤ l.length → (l.length : Int) - i < k → 2 * (ns.length : Int) ≤ i → aG l (0, 0, 0, ns) i = if (sdF (whl l) l.length k i).2 = true then some (ns ++ (sdF (whl l) l.length k i).1) else none := by
  intro k
  induction k with
  | zero => intro i ns h0 h1 hk; exact absurd hk (by omega)
  | succ k ih =>
    intro i ns h0 h1 hk hn
    have a := numF_r hl.PF h0 h1
    have h8 := hl.1
    rw [aG_num hl h0 h1]
    unfold sdF
    by_cases h : (numF (whl l) i).1 ≤ 0
    · rw [if_pos h, if_pos h]; simp
    · have b := numF_p hl.PF h0 h1 (by omega)
      rw [if_neg h, if_neg h]
      unfold tl2
      by_cases e : whl l (numF (whl l) i).2 = 31
      · have c := whl_lt (l := l) (i := (numF (whl l) i).2) (by omega)
        rw [if_pos e, if_pos e, if_pos (by omega), ih ((numF (whl l) i).2 + 1) _ (by omega) (by omega) (by omega) (by rw [List.length_append, List.length_singleton]; omega)]
        simp
      · rw [if_neg e, if_neg e]
        by_cases q : whl l (numF (whl l) i).2 = -4
        · have hz : (numF (whl l) i).2 = l.length := by
            apply Classical.byContradiction; intro z
            have := whl_in hl (i := (numF (whl l) i).2) (by omega) (by omega)
            omega
          rw [if_pos q, if_pos (by omega), if_pos (by simp [hz])]
        · have hz : (numF (whl l) i).2 ≠ l.length := fun z => q (whl_out (by omega))
          rw [if_neg q, if_neg (by simp [hz])]
theorem aR_app (s : AS) (l m : List Int) : aR s (l ++ m) = (aR s l).bind (fun t => aR t m) := by
  induction l generalizing s with
  | nil => rfl
  | cons w l ih =>
    show (aN s w).bind _ = ((aN s w).bind _).bind _
    rw [Option.bind_assoc]
    congr 1; funext t; exact ih t
/-- where the walk has come to behind the first d slots -/
def aD (V : Hv) (p : Int → Int) : Nat → Option AS
  | 0 => some (0, 0, 0, [])
  | d + 1 => (aD V p d).bind (fun s => aN s (V.2.2.1 d (p d)))
theorem aD_s (V : Hv) (p : Int → Int) (d : Nat) : aD V p (d + 1) = (aD V p d).bind (fun s => aN s (V.2.2.1 d (p d))) := rfl
theorem aN_0 (s : AS) : aN s 0 = some s := by unfold aN; rw [if_pos rfl]
theorem aD_R (V : Hv) (p : Int → Int) (d : Nat) : aD V p d = aR (0, 0, 0, []) (lstW V p d) := by
  induction d with
  | zero => rfl
  | succ d ih =>
    rw [aD_s, lstW_s, aR_app, ih]
    congr 1; funext s
    split
    · rename_i e; rw [e, aN_0]; rfl
    · show _ = (aN s _).bind (fun t => some t)
      cases aN s _ <;> rfl
theorem lstW_LW {V : Hv} {p : Int → Int} (hV : WV V) (hp : WP V p) (m : Nat) (hm : (m : Int) ≤ V.1) : ∀ v ∈ lstW V p m, 1 ≤ v ∧ v ≤ 31 := by
  induction m with
  | zero => intro v h; cases h
  | succ m ih =>
    intro v h
    rw [lstW_s] at h
    rcases List.mem_append.mp h with h | h
    · exact ih (by omega) v h
    · split at h
      · cases h
      · have := List.mem_singleton.mp h
        have a := hp m (by omega) (by omega)
        have b := (hV.2.2 m (by omega) (by omega)).2.2 (p m) a.1 a.2
        omega
theorem aD_sd {V : Hv} {p : Int → Int} (hV : WV V) (hp : WP V p) : (aD V p V.1.toNat).bind aF = if (sdP V p).2 = true then some (sdP V p).1 else none := by
  have h0 := hV.1
  have h8 := hV.2.1
  have hlen := lstW_len V p V.1.toNat
  have hl : LW (lstW V p V.1.toNat) := ⟨by omega, lstW_LW hV hp _ (by omega)⟩
  have h := aG_sd hl 9 0 [] (by omega) (by omega) (by omega) (by decide)
  rw [aD_R]
  unfold aG at h
  rw [show ((0 : Int).toNat) = 0 from rfl, List.drop_zero] at h
  rw [h]
  simp only [List.nil_append]
  rfl
/-- what a place's numbers keep to -/
def AI (s : AS) : Prop := (0 ≤ s.2.1 ∧ s.2.1 ≤ 999000) ∧ (s.2.2.2.length : Int) ≤ 4 ∧ ((s.1 = 0 ∧ s.2.2.1 = 0 ∧ s.2.1 = 0) ∨ (s.1 = 1 ∧ 1 ≤ s.2.2.1 ∧ s.2.2.1 ≤ 9) ∨ (s.1 = 2 ∧ 1 ≤ s.2.2.1 ∧ s.2.2.1 ≤ 999) ∨ (s.1 = 3 ∧ 1 ≤ s.2.2.1 ∧ s.2.2.1 ≤ 990 ∧ s.2.2.1 % 10 = 0) ∨ (s.1 = 4 ∧ 1 ≤ s.2.2.1 ∧ s.2.2.1 ≤ 900 ∧ s.2.2.1 % 100 = 0) ∨ (s.1 = 5 ∧ 0 ≤ s.2.2.1 ∧ s.2.2.1 ≤ 900 ∧ s.2.2.1 % 100 = 0) ∨ (s.1 = 6 ∧ s.2.2.1 = 0 ∧ s.2.1 ≠ 0))
theorem AI.r {s : AS} (h : AI s) : 0 ≤ s.2.2.1 ∧ s.2.2.1 ≤ 999 := by obtain ⟨_, _, h⟩ := h; omega
theorem AI_0 {th sm : Int} {ns : List Int} (h1 : 0 ≤ th ∧ th ≤ 999000) (h2 : (ns.length : Int) ≤ 4) (h : sm = 0 ∧ th = 0) : AI (0, th, sm, ns) := ⟨h1, h2, Or.inl ⟨rfl, h⟩⟩
theorem AI_1 {th sm : Int} {ns : List Int} (h1 : 0 ≤ th ∧ th ≤ 999000) (h2 : (ns.length : Int) ≤ 4) (h : 1 ≤ sm ∧ sm ≤ 9) : AI (1, th, sm, ns) := ⟨h1, h2, Or.inr (Or.inl ⟨rfl, h⟩)⟩
theorem AI_2 {th sm : Int} {ns : List Int} (h1 : 0 ≤ th ∧ th ≤ 999000) (h2 : (ns.length : Int) ≤ 4) (h : 1 ≤ sm ∧ sm ≤ 999) : AI (2, th, sm, ns) := ⟨h1, h2, Or.inr (Or.inr (Or.inl ⟨rfl, h⟩))⟩
theorem AI_3 {th sm : Int} {ns : List Int} (h1 : 0 ≤ th ∧ th ≤ 999000) (h2 : (ns.length : Int) ≤ 4) (h : 1 ≤ sm ∧ sm ≤ 990 ∧ sm % 10 = 0) : AI (3, th, sm, ns) := ⟨h1, h2, Or.inr (Or.inr (Or.inr (Or.inl ⟨rfl, h⟩)))⟩
theorem AI_4 {th sm : Int} {ns : List Int} (h1 : 0 ≤ th ∧ th ≤ 999000) (h2 : (ns.length : Int) ≤ 4) (h : 1 ≤ sm ∧ sm ≤ 900 ∧ sm % 100 = 0) : AI (4, th, sm, ns) := ⟨h1, h2, Or.inr (Or.inr (Or.inr (Or.inr (Or.inl ⟨rfl, h⟩))))⟩
theorem AI_5 {th sm : Int} {ns : List Int} (h1 : 0 ≤ th ∧ th ≤ 999000) (h2 : (ns.length : Int) ≤ 4) (h : 0 ≤ sm ∧ sm ≤ 900 ∧ sm % 100 = 0) : AI (5, th, sm, ns) := ⟨h1, h2, Or.inr (Or.inr (Or.inr (Or.inr (Or.inr (Or.inl ⟨rfl, h⟩)))))⟩
theorem AI_6 {th sm : Int} {ns : List Int} (h1 : 0 ≤ th ∧ th ≤ 999000) (h2 : (ns.length : Int) ≤ 4) (h : sm = 0 ∧ th ≠ 0) : AI (6, th, sm, ns) := ⟨h1, h2, Or.inr (Or.inr (Or.inr (Or.inr (Or.inr (Or.inr (⟨rfl, h⟩))))))⟩
theorem aN_AI {s t : AS} {w : Int} (hs : AI s) (hw : 0 ≤ w ∧ w ≤ 31) (h : aN s w = some t) : AI t := by
  obtain ⟨p, th, sm, ns⟩ := s
  obtain ⟨h1, h2, h3⟩ := hs
  simp only at h1 h2 h3
  rcases (show w = 0 ∨ w = 31 ∨ w = 30 ∨ w = 28 ∨ w = 29 ∨ (1 ≤ w ∧ w ≤ 27) by omega) with rfl | rfl | rfl | rfl | rfl | e
  · rw [aN_0] at h; cases h; exact ⟨h1, h2, h3⟩
  · by_cases q : (p ≠ 0 ∧ p ≠ 5) ∧ (ns.length : Int) < 4
    · rw [aN_31 q.1 q.2] at h; cases h
      exact AI_0 (by omega) (by rw [List.length_append, List.length_singleton]; omega) ⟨rfl, rfl⟩
    · rw [aN_31f q] at h; cases h
  · by_cases q : p = 4 ∨ p = 6
    · rw [aN_30 q] at h; cases h
      exact AI_5 h1 h2 (by omega)
    · rw [aN_30f q] at h; cases h
  · by_cases q : p = 1
    · subst q; rw [aN_28] at h; cases h
      exact AI_4 h1 h2 (by omega)
    · rw [aN_28f q] at h; cases h
  · by_cases q : (p ≠ 0 ∧ p ≠ 5) ∧ th = 0
    · obtain ⟨q1, rfl⟩ := q
      rw [aN_29 q1] at h; cases h
      exact AI_6 (by omega) h2 (by omega)
    · rw [aN_29f q] at h; cases h
  · by_cases q : p = 0 ∨ p = 6 ∨ p = 4 ∨ p = 5 ∨ (p = 3 ∧ w ≤ 9)
    · rw [aN_low e q] at h; cases h
      unfold lst
      by_cases c1 : w ≤ 19
      · rw [if_pos c1]
        by_cases c2 : (p = 0 ∨ p = 6) ∧ w ≤ 9
        · rw [if_pos c2]; exact AI_1 h1 h2 (by omega)
        · rw [if_neg c2]; exact AI_2 h1 h2 (by omega)
      · rw [if_neg c1]; exact AI_3 h1 h2 (by omega)
    · rw [aN_lowf e q] at h; cases h
theorem aD_AI {V : Hv} {p : Int → Int} (hV : WV V) (hp : WP V p) : ∀ (d : Nat) (s : AS), (d : Int) ≤ V.1 → aD V p d = some s → AI s := by
  intro d
  induction d with
  | zero => intro s _ h; cases h; exact ⟨by simp, by simp, Or.inl ⟨rfl, rfl, rfl⟩⟩
  | succ d ih =>
    intro s hd h
    rw [aD_s] at h
    cases e : aD V p d with
    | none => rw [e] at h; cases h
    | some s0 =>
      rw [e] at h
      have a := hp d (by omega) (by omega)
      have b := (hV.2.2 d (by omega) (by omega)).2.2 (p d) a.1 a.2
      exact aN_AI (ih s0 (by omega) e) (by omega) h
