theorem sOK_txt {τ : Sg} {l : List (List (Int × Int))} (hl : lenQ l) (hs : slQ l) {m : Nat} (hm : m < l.length) (a : τ 114 (4 + 9 * (m : Int)) = (slV l).2.1 m ∧ ∀ k : Int, 0 ≤ k → k < (slV l).2.1 m → τ 114 (4 + 9 * (m : Int) + 1 + k) = (slV l).2.2.1 m k ∧ τ 114 (4 + 9 * (m : Int) + 5 + k) = (slV l).2.2.2 m k) (b : τ 2 m = (slV l).2.1 m ∧ ∀ k : Int, 0 ≤ k → k < (slV l).2.1 m → τ 3 ((m : Int) * 4 + k) = (slV l).2.2.1 m k ∧ τ 4 ((m : Int) * 4 + k) = (slV l).2.2.2 m k) : sOK τ m := by
  have len := hl _ (List.getElem_mem hm)
  have sl := hs _ (List.getElem_mem hm)
  rw [slV_c l m hm] at a b
  refine ⟨by rw [a.1, b.1], by rw [b.1]; omega, fun k k0 k1 => ?_, fun k j k0 k1 j0 j1 e => ?_⟩
  · rw [b.1] at k1
    obtain ⟨i, hi⟩ : ∃ i : Nat, k = i := ⟨k.toNat, by omega⟩
    rw [hi] at k1 k0 ⊢
    have ib : i < (l[m]).length := by omega
    have w := slV_w l m i hm ib
    have x := a.2 i k0 k1
    have y := b.2 i k0 k1
    have r := sl.1 _ (List.getElem_mem ib)
    rw [x.1, x.2, y.1, y.2, w.1, w.2]
    exact ⟨rfl, rfl, ⟨r.1, r.2.1⟩, r.2.2⟩
  · rw [b.1] at k1 j1
    obtain ⟨i, hi⟩ : ∃ i : Nat, k = i := ⟨k.toNat, by omega⟩
    obtain ⟨i2, hi2⟩ : ∃ i : Nat, j = i := ⟨j.toNat, by omega⟩
    rw [hi] at k1 k0 e ⊢
    rw [hi2] at j1 j0 e ⊢
    have ib : i < (l[m]).length := by omega
    have ib2 : i2 < (l[m]).length := by omega
    rw [(b.2 i k0 k1).1, (b.2 i2 j0 j1).1, (slV_w l m i hm ib).1, (slV_w l m i2 hm ib2).1] at e
    have nd := List.getElem_inj (i := i) (j := i2) (h₀ := by rw [List.length_map]; exact ib) (h₁ := by rw [List.length_map]; exact ib2) sl.2
    rw [List.getElem_map, List.getElem_map] at nd
    rw [nd.mp e]
