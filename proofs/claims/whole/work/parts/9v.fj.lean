/-- words one by one: what stands in the class's Heard o -/
def gQ (τ : Sg) (o : Nat) (l : List Int) : Prop := τ o 3 = l.length ∧ ∀ (i : Nat) (h : i < l.length), τ (o + 1) i = 1 ∧ τ (o + 2) (i * 4) = l[i] ∧ τ (o + 3) (i * 4) = 0
theorem gQ_gro {τ : Sg} {o : Nat} {l : List Int} {w : Int} (h : gQ τ o l) : gQ (groS τ o w 0) o (l ++ [w]) := by
  obtain ⟨a, b⟩ := h
  have gE : groS τ o w 0 = up (up (up (up (up τ (o + 1) (l.length : Int) 0) o 3 ((l.length : Int) + 1)) (o + 2) ((l.length : Int) * 4) w) (o + 3) ((l.length : Int) * 4) 0) (o + 1) (l.length : Int) 1 := by
    unfold groS widS
    rw [a]
    have z : up (up τ (o + 1) (l.length : Int) 0) o 3 ((l.length : Int) + 1) (o + 1) (l.length : Int) = 0 := by rw [up_ne (by omega)]; exact up_eq
    rw [z, Int.add_zero]; rfl
  rw [gE]
  refine ⟨?_, fun i hi => ?_⟩
  · rw [up_ne (by omega), up_ne (by omega), up_ne (by omega), up_eq, List.length_append, List.length_singleton]; rfl
  · rw [List.length_append, List.length_singleton] at hi
    by_cases e : i < l.length
    · have x := b i e
      rw [List.getElem_append_left e]
      refine ⟨?_, ?_, ?_⟩
      · rw [up_nk (by omega), up_ne (by omega), up_ne (by omega), up_ne (by omega), up_nk (by omega)]; exact x.1
      · rw [up_ne (by omega), up_ne (by omega), up_nk (by omega), up_ne (by omega), up_ne (by omega)]; exact x.2.1
      · rw [up_ne (by omega), up_nk (by omega), up_ne (by omega), up_ne (by omega), up_ne (by omega)]; exact x.2.2
    · have e2 : i = l.length := by omega
      have e3 : (l ++ [w])[i]'(by rw [List.length_append, List.length_singleton]; omega) = w := by
        rw [List.getElem_append_right (by omega)]; simp [e2]
      rw [e3, e2]
      refine ⟨up_eq, ?_, ?_⟩
      · rw [up_ne (by omega), up_ne (by omega), up_eq]
      · rw [up_ne (by omega), up_eq]
theorem gQ_growL {τ : Sg} {o : Nat} {m : List Int} (l : List Int) (h : gQ τ o m) : gQ (growL τ o l) o (m ++ l) := by
  induction l generalizing τ m with
  | nil => rw [List.append_nil]; exact h
  | cons w l ih =>
    unfold growL
    have x := ih (gQ_gro (w := w) h)
    rwa [List.append_assoc, List.singleton_append] at x
/-- words one by one: what stands in the reference's row -/
def hQ (τ : Sg) (l : List Int) : Prop := τ 114 0 = l.length ∧ ∀ (i : Nat) (h : i < l.length), τ 114 (4 + 9 * i) = 1 ∧ τ 114 (4 + 9 * i + 1) = l[i] ∧ τ 114 (4 + 9 * i + 5) = 0
theorem hQ_hears {τ : Sg} {l : List Int} {w : Int} (h : hQ τ l) : hQ (hearsS τ w 0) (l ++ [w]) := by
  obtain ⟨a, b⟩ := h
  unfold hearsS; rw [a]
  refine ⟨?_, fun i hi => ?_⟩
  · rw [up_nk (by omega), up_nk (by omega), up_nk (by omega), up_eq, List.length_append, List.length_singleton]; rfl
  · rw [List.length_append, List.length_singleton] at hi
    by_cases e : i < l.length
    · have x := b i e
      rw [List.getElem_append_left e]
      refine ⟨?_, ?_, ?_⟩
      · rw [up_nk (by omega), up_nk (by omega), up_nk (by omega), up_nk (by omega)]; exact x.1
      · rw [up_nk (by omega), up_nk (by omega), up_nk (by omega), up_nk (by omega)]; exact x.2.1
      · rw [up_nk (by omega), up_nk (by omega), up_nk (by omega), up_nk (by omega)]; exact x.2.2
    · have e2 : i = l.length := by omega
      have e3 : (l ++ [w])[i]'(by rw [List.length_append, List.length_singleton]; omega) = w := by
        rw [List.getElem_append_right (by omega)]; simp [e2]
      rw [e3, e2]
      refine ⟨?_, ?_, up_eq⟩
      · rw [up_nk (by omega), up_nk (by omega), up_eq]
      · rw [up_nk (by omega), up_eq]
theorem hQ_hearL {τ : Sg} {m : List Int} (l : List Int) (h : hQ τ m) : hQ (hearL τ l) (m ++ l) := by
  induction l generalizing τ m with
  | nil => rw [List.append_nil]; exact h
  | cons w l ih =>
    unfold hearL
    have x := ih (hQ_hears (w := w) h)
    rwa [List.append_assoc, List.singleton_append] at x
