/-! ===== by which kinds a row is what the best reading tells ===== -/
def lkP (V : Hv) (row : Int → Int) (n r : Int) : Prop := ((nm V r).length : Int) = n ∧ ∀ j : Int, 0 ≤ j → j < n → row j = lrow (nm V r) j
noncomputable def mB (V : Hv) (row : Int → Int) (n : Int) (kd : Int) (m : Nat) : Bool := dec ((bst V kd m).1 ≠ -4 ∧ lkP V row n (bst V kd m).1)
noncomputable def kC (V : Hv) (kd : Int) (m : Nat) : Int := if (bst V kd m).1 = -4 then 80 else (bst V kd m).2
theorem kC_lt {V : Hv} (hV : WV V) (kd : Int) (m : Nat) : cst V m < kC V kd m ↔ cst V m < (bst V kd m).2 := by
  have c := cst_r hV m
  unfold kC
  rcases bst_r hV kd m with q | q
  · rw [if_pos q.1, q.2]; omega
  · rw [if_neg (by omega)]
theorem kC_r {V : Hv} (hV : WV V) (kd : Int) (m : Nat) : 0 ≤ kC V kd m ∧ kC V kd m ≤ 80 := by
  unfold kC
  rcases bst_r hV kd m with q | q
  · rw [if_pos q.1]; omega
  · rw [if_neg (by omega), q.2.2.1]; have := cst_r hV (bst V kd m).1; omega
theorem mB_t {V : Hv} {row : Int → Int} {n kd : Int} {m : Nat} (h : snd V kd m = true) (hc : cst V m < (bst V kd m).2) : (mB V row n kd (m + 1) = true ↔ lkP V row n m) ∧ kC V kd (m + 1) = cst V m := by
  unfold mB kC
  rw [bst_t h hc]
  refine ⟨?_, by rw [if_neg (by simp only; omega)]⟩
  rw [dec_iff]
  exact ⟨fun z => z.2, fun z => ⟨by simp only; omega, z⟩⟩
theorem mB_f {V : Hv} {row : Int → Int} {n kd : Int} {m : Nat} (h : bst V kd (m + 1) = bst V kd m) : mB V row n kd (m + 1) = mB V row n kd m ∧ kC V kd (m + 1) = kC V kd m := by
  unfold mB kC; rw [h]; exact ⟨rfl, rfl⟩
theorem mB_skip {V : Hv} {row : Int → Int} {n kd : Int} {a b : Nat} (hab : a ≤ b) (hn : ∀ y : Int, a ≤ y → y < b → said V y = false) : mB V row n kd b = mB V row n kd a ∧ kC V kd b = kC V kd a := by
  have e3 : bst V kd b = bst V kd a := fold_skip (P := fun m => said V m = false) (fun m h => bst_n (snd_nsaid h)) hab (fun m m0 m1 => hn m (by omega) (by omega))
  unfold mB kC; rw [e3]; exact ⟨rfl, rfl⟩
theorem bi_shl : ∀ k : Nat, k < 5 → Int32.ofInt 1 <<< (Int32.ofInt (k : Int) &&& 31) = Int32.ofInt ((2 ^ k : Nat) : Int) := by decide +kernel
theorem bi_not : ∀ k : Nat, k < 5 → Int32.ofInt ((2 ^ k : Nat) : Int) ^^^ Int32.ofInt (-1) = Int32.ofInt (-((2 ^ k : Nat) : Int) - 1) := by decide +kernel
theorem setF_5 (p : Nat → Bool) : setF p 5 = (if p 0 = true then 1 else 0) + (if p 1 = true then 2 else 0) + (if p 2 = true then 4 else 0) + (if p 3 = true then 8 else 0) + (if p 4 = true then 16 else 0) := by
  simp only [setF]; simp
theorem bi_or {p q : Nat → Bool} {k : Nat} (hk : k < 5) (hq : q k = true) (ho : ∀ j, j < 5 → j ≠ k → q j = p j) : Int32.ofInt ((setF p 5 : Nat) : Int) ||| Int32.ofInt ((2 ^ k : Nat) : Int) = Int32.ofInt ((setF q 5 : Nat) : Int) := by
  rw [setF_5, setF_5]
  rcases (show k = 0 ∨ k = 1 ∨ k = 2 ∨ k = 3 ∨ k = 4 by omega) with rfl | rfl | rfl | rfl | rfl
  · rw [hq, ho 1 (by decide) (by decide), ho 2 (by decide) (by decide), ho 3 (by decide) (by decide), ho 4 (by decide) (by decide)]
    cases p 0 <;> cases p 1 <;> cases p 2 <;> cases p 3 <;> cases p 4 <;> decide
  · rw [hq, ho 0 (by decide) (by decide), ho 2 (by decide) (by decide), ho 3 (by decide) (by decide), ho 4 (by decide) (by decide)]
    cases p 0 <;> cases p 1 <;> cases p 2 <;> cases p 3 <;> cases p 4 <;> decide
  · rw [hq, ho 0 (by decide) (by decide), ho 1 (by decide) (by decide), ho 3 (by decide) (by decide), ho 4 (by decide) (by decide)]
    cases p 0 <;> cases p 1 <;> cases p 2 <;> cases p 3 <;> cases p 4 <;> decide
  · rw [hq, ho 0 (by decide) (by decide), ho 1 (by decide) (by decide), ho 2 (by decide) (by decide), ho 4 (by decide) (by decide)]
    cases p 0 <;> cases p 1 <;> cases p 2 <;> cases p 3 <;> cases p 4 <;> decide
  · rw [hq, ho 0 (by decide) (by decide), ho 1 (by decide) (by decide), ho 2 (by decide) (by decide), ho 3 (by decide) (by decide)]
    cases p 0 <;> cases p 1 <;> cases p 2 <;> cases p 3 <;> cases p 4 <;> decide
theorem bi_and {p q : Nat → Bool} {k : Nat} (hk : k < 5) (hq : q k = false) (ho : ∀ j, j < 5 → j ≠ k → q j = p j) : Int32.ofInt ((setF p 5 : Nat) : Int) &&& Int32.ofInt (-((2 ^ k : Nat) : Int) - 1) = Int32.ofInt ((setF q 5 : Nat) : Int) := by
  rw [setF_5, setF_5]
  rcases (show k = 0 ∨ k = 1 ∨ k = 2 ∨ k = 3 ∨ k = 4 by omega) with rfl | rfl | rfl | rfl | rfl
  · rw [hq, ho 1 (by decide) (by decide), ho 2 (by decide) (by decide), ho 3 (by decide) (by decide), ho 4 (by decide) (by decide)]
    cases p 0 <;> cases p 1 <;> cases p 2 <;> cases p 3 <;> cases p 4 <;> decide
  · rw [hq, ho 0 (by decide) (by decide), ho 2 (by decide) (by decide), ho 3 (by decide) (by decide), ho 4 (by decide) (by decide)]
    cases p 0 <;> cases p 1 <;> cases p 2 <;> cases p 3 <;> cases p 4 <;> decide
  · rw [hq, ho 0 (by decide) (by decide), ho 1 (by decide) (by decide), ho 3 (by decide) (by decide), ho 4 (by decide) (by decide)]
    cases p 0 <;> cases p 1 <;> cases p 2 <;> cases p 3 <;> cases p 4 <;> decide
  · rw [hq, ho 0 (by decide) (by decide), ho 1 (by decide) (by decide), ho 2 (by decide) (by decide), ho 4 (by decide) (by decide)]
    cases p 0 <;> cases p 1 <;> cases p 2 <;> cases p 3 <;> cases p 4 <;> decide
  · rw [hq, ho 0 (by decide) (by decide), ho 1 (by decide) (by decide), ho 2 (by decide) (by decide), ho 3 (by decide) (by decide)]
    cases p 0 <;> cases p 1 <;> cases p 2 <;> cases p 3 <;> cases p 4 <;> decide
/-- where the loop over kinds stands: kinds below k have seen reading m -/
noncomputable def mP (V : Hv) (row : Int → Int) (n : Int) (m k : Nat) : Nat → Bool := fun j => mB V row n (j : Int) (if j < k then m + 1 else m)
theorem mP_k {V : Hv} {row : Int → Int} {n : Int} {m k : Nat} : mP V row n m (k + 1) k = mB V row n k (m + 1) := by unfold mP; rw [if_pos (by omega)]
theorem mP_o {V : Hv} {row : Int → Int} {n : Int} {m k : Nat} : ∀ j, j < 5 → j ≠ k → mP V row n m (k + 1) j = mP V row n m k j := by
  intro j _ hj; unfold mP
  by_cases q : j < k
  · rw [if_pos q, if_pos (by omega)]
  · rw [if_neg q, if_neg (by omega)]
theorem mP_5 {V : Hv} {row : Int → Int} {n : Int} {m : Nat} : setF (mP V row n m 5) 5 = setF (mP V row n (m + 1) 0) 5 := by
  rw [setF_5, setF_5]; unfold mP; rfl
theorem mP_sk {V : Hv} {row : Int → Int} {n : Int} {a b : Nat} (hab : a ≤ b) (hn : ∀ y : Int, a ≤ y → y < b → said V y = false) : mP V row n b 0 = mP V row n a 0 := by
  funext j; unfold mP; rw [if_neg (by omega), if_neg (by omega)]; exact (mB_skip hab hn).1
theorem setF_r5 (p : Nat → Bool) : setF p 5 < 32 := setF_lt p 5

set_option maxHeartbeats 4000000 in
set_option maxRecDepth 100000 in
theorem lp_kinds1 {g : G} {x : Cx} {σ υ : Sg} {o : Nat} {i0 n left : Int} {m : Nat} {lk : Bool} (hO : Ok g x RX6 cX6_kindsMeant 8 4) (ho : Sd o) (hV : WV (cv σ 1)) (hs : said (cv σ 1) m = true) (hlk : lk = true ↔ lkP (cv σ 1) (fun j => σ (o + 1) (i0 + j)) n m) (hE : ∀ τ : Sg, Fnd (cv σ 1) m τ → (∀ j : Nat, j < 5 → τ 87 j = kC (cv σ 1) j (m + 1)) → Fm fWx σ τ → (∀ c : Nat, 88 ≤ c → c ≤ 96 → τ c = υ c) → Z g x 8 169 [(0, .ref (g.2.2.1 83)), (1, .ref (g.2.2.1 o)), (2, vI i0), (3, vI n), (4, vI ((setF (mP (cv σ 1) (fun j => σ (o + 1) (i0 + j)) n m 5) 5 : Nat) : Int)), (5, vI left)] [] τ) : ∀ (f k : Nat) (τ : Sg), k ≤ 5 → 5 - k < f → Fnd (cv σ 1) m τ → (∀ j : Nat, j < 5 → τ 87 j = kC (cv σ 1) j (if j < k then m + 1 else m)) → Fm fWx σ τ → (∀ c : Nat, 88 ≤ c → c ≤ 96 → τ c = υ c) → Z g x 8 78 [(0, .ref (g.2.2.1 83)), (1, .ref (g.2.2.1 o)), (2, vI i0), (3, vI n), (4, vI ((setF (mP (cv σ 1) (fun j => σ (o + 1) (i0 + j)) n m k) 5 : Nat) : Int)), (5, vI left), (6, vI (b2i lk)), (7, vI k)] [] τ := by
  have hcm := cst_r hV m
  have hsr := said_r hV hs
  intro f
  induction f with
  | zero => intro k τ h0 hk; exact absurd hk (by omega)
  | succ f ih =>
    intro k τ hk5 hf hF hkc hFm hυ
    have hc11 := hF.2.2.1
    have hl10 := hF.2.1
    have hkr := kC_r hV (k : Int) m
    refine z_iload hO 7 dX6_kindsMeant_78 rfl ?_
    refine z_iconst hO dX6_kindsMeant_80 ?_
    refine z_icmp_ge hO 169 dX6_kindsMeant_81 (by decide) (by omega) (by decide) (fun c81 => ?_) (fun c81 => ?_)
    ·
      have hk5 : k = 5 := by omega
      subst hk5
      exact z_pick [0, 1, 2, 3, 4, 5] rfl (hE _ hF (fun j hj => by rw [hkc j hj, if_pos (by omega)]) hFm hυ)
    ·
      refine z_aload_n hO 0 dX6_kindsMeant_84 rfl ?_
      refine z_getR hO (88) fl_X6_40 rfl rfl dX6_kindsMeant_85 ?_
      refine z_getI hO 11 fl_X6_120 rfl rfl rfl dX6_kindsMeant_88 (fun r88 => ?_)
      refine z_aload_n hO 0 dX6_kindsMeant_91 rfl ?_
      refine z_getR hO (87) fl_X6_28 rfl rfl dX6_kindsMeant_92 ?_
      refine z_iload hO 7 dX6_kindsMeant_95 rfl ?_
      refine z_iald hO rfl (by omega) (by decide) dX6_kindsMeant_97 (fun r97 => ?_)
      refine z_icmp_ge hO 163 dX6_kindsMeant_98 (by decide) (by rw [hc11]; omega) (by rw [hkc k (by omega), if_neg (by omega)]; omega) (fun c98 => ?_) (fun c98 => ?_)
      ·
        have hb5 : bst (cv σ 1) k (m + 1) = bst (cv σ 1) k m := by
          have z := kC_lt hV (k : Int) m
          rw [hkc k (by omega), if_neg (by omega), hc11] at c98
          exact bst_f (by omega)
        have hm5 := mB_f (row := (fun j => σ (o + 1) (i0 + j))) (n := n) hb5
        refine z_iinc hO (L' := [(7, _), (0, _), (1, _), (2, _), (3, _), (4, _), (5, _), (6, _)]) 7 dX6_kindsMeant_163 rfl (by decide) rfl ?_
        refine z_goto hO 78 dX6_kindsMeant_166 (by decide) ?_
        have hse : setF (mP (cv σ 1) (fun j => σ (o + 1) (i0 + j)) n m (k + 1)) 5 = setF (mP (cv σ 1) (fun j => σ (o + 1) (i0 + j)) n m k) 5 := by
          have hx : ∀ j, j < 5 → (mP (cv σ 1) (fun j => σ (o + 1) (i0 + j)) n m (k + 1)) j = (mP (cv σ 1) (fun j => σ (o + 1) (i0 + j)) n m k) j := fun j hj => by by_cases q : j = k; (rw [q, mP_k, hm5.1]; unfold mP; rw [if_neg (by omega)]); (exact mP_o j hj q)
          rw [setF_5, setF_5, hx 0 (by decide), hx 1 (by decide), hx 2 (by decide), hx 3 (by decide), hx 4 (by decide)]
        have hk2 : ∀ j : Nat, j < 5 → τ 87 j = kC (cv σ 1) j (if j < k + 1 then m + 1 else m) := fun j hj => by
          by_cases q : j = k
          · rw [q, hkc k (by omega), if_neg (by omega), if_pos (by omega), hm5.2]
          · rw [hkc j hj]
            by_cases q2 : j < k
            · rw [if_pos q2, if_pos (by omega)]
            · rw [if_neg q2, if_neg (by omega)]
        rw [← hse]
        exact z_pick [1, 2, 3, 4, 5, 6, 7, 0] rfl (ih (k + 1) τ (by omega) (by omega) hF hk2 hFm hυ)
      ·
        have hlt : cst (cv σ 1) m < (bst (cv σ 1) k m).2 := by
          have z := kC_lt hV (k : Int) m
          rw [hkc k (by omega), if_neg (by omega), hc11] at c98
          exact z.mp c98
        refine z_iload hO 7 dX6_kindsMeant_101 rfl ?_
        refine z_aload_n hO 0 dX6_kindsMeant_103 rfl ?_
        refine z_getR hO (88) fl_X6_40 rfl rfl dX6_kindsMeant_104 ?_
        refine z_getR hO (96) fl_X6_116 rfl rfl dX6_kindsMeant_107 ?_
        refine z_aload_n hO 0 dX6_kindsMeant_110 rfl ?_
        refine z_getR hO (88) fl_X6_40 rfl rfl dX6_kindsMeant_111 ?_
        refine z_getI hO 10 fl_X6_119 rfl rfl rfl dX6_kindsMeant_114 (fun r114 => ?_)
        refine z_csQ hO (t_X0_isKept (by omega) (by rw [hl10]; omega) (Fnd_NR hV hs hF)) cs_X6_161 rfl rfl (by decide) (Nat.le_of_ble_eq_true rfl) dX6_kindsMeant_117 (fun c117 => ?_) (fun c117 => ?_)
        ·
          have hsn : snd (cv σ 1) k m = true := (Fnd_snd hV hs hF).mp c117
          have hm5 := mB_t (row := (fun j => σ (o + 1) (i0 + j))) (n := n) hsn hlt
          refine z_if_eq hO 163 dX6_kindsMeant_120 (by decide) (by decide) (fun c120 => absurd c120 (by omega)) (fun c120 => ?_)
          refine z_aload_n hO 0 dX6_kindsMeant_123 rfl ?_
          refine z_getR hO (87) fl_X6_28 rfl rfl dX6_kindsMeant_124 ?_
          refine z_iload hO 7 dX6_kindsMeant_127 rfl ?_
          refine z_aload_n hO 0 dX6_kindsMeant_129 rfl ?_
          refine z_getR hO (88) fl_X6_40 rfl rfl dX6_kindsMeant_130 ?_
          refine z_getI hO 11 fl_X6_120 rfl rfl rfl dX6_kindsMeant_133 (fun r133 => ?_)
          refine z_iast hO rfl (by omega) (by decide) (by rw [hc11]; omega) dX6_kindsMeant_136 ?_
          refine z_iload hO 6 dX6_kindsMeant_137 rfl ?_
          refine z_if_eq hO 152 dX6_kindsMeant_139 (by decide) (by have := b2i_r lk; omega) (fun c139 => ?_) (fun c139 => ?_)
          ·
            have hlk0 : (mP (cv σ 1) (fun j => σ (o + 1) (i0 + j)) n m (k + 1)) k = false := by rw [mP_k]; exact Bool.not_eq_true _ ▸ (fun z => by have y := hlk.mpr (hm5.1.mp z); rw [b2i_0.mp c139] at y; cases y)
            refine z_iload hO 4 dX6_kindsMeant_152 rfl ?_
            refine z_iconst hO dX6_kindsMeant_154 ?_
            refine z_iload hO 7 dX6_kindsMeant_155 rfl ?_
            refine z_ishl hO (((2 ^ k : Nat) : Int)) dX6_kindsMeant_157 (bi_shl k (by omega)) ?_
            refine z_iconst hO dX6_kindsMeant_158 ?_
            refine z_ixor hO (-((2 ^ k : Nat) : Int) - 1) dX6_kindsMeant_159 (bi_not k (by omega)) ?_
            refine z_iand hO (((setF (mP (cv σ 1) (fun j => σ (o + 1) (i0 + j)) n m (k + 1)) 5 : Nat) : Int)) dX6_kindsMeant_160 (bi_and (by omega) hlk0 mP_o) ?_
            refine z_istore hO (L' := [(4, _), (0, _), (1, _), (2, _), (3, _), (5, _), (6, _), (7, _)]) dX6_kindsMeant_161 (by decide) rfl ?_
            refine z_iinc hO (L' := [(7, _), (4, _), (0, _), (1, _), (2, _), (3, _), (5, _), (6, _)]) 7 dX6_kindsMeant_163 rfl (by decide) rfl ?_
            refine z_goto hO 78 dX6_kindsMeant_166 (by decide) ?_
            refine z_pick [2, 3, 4, 5, 1, 6, 7, 0] rfl (ih (k + 1) _ (by omega) (by omega) (Fnd_congr hF (fun c c0 c1 => by funext z; rw [up_ne (by omega)])) (fun j hj => ?_) (hFm.up rfl) (fun c c0 c1 => by funext z; rw [up_ne (by omega), hυ c c0 c1]))
            by_cases q : j = k
            · rw [q, up_eq, if_pos (by omega), hm5.2]; exact hc11
            · rw [up_nk (by omega), hkc j hj]
              by_cases q2 : j < k
              · rw [if_pos q2, if_pos (by omega)]
              · rw [if_neg q2, if_neg (by omega)]
          ·
            have hlk1 : (mP (cv σ 1) (fun j => σ (o + 1) (i0 + j)) n m (k + 1)) k = true := by rw [mP_k]; exact hm5.1.mpr (hlk.mp (b2i_1.mp c139))
            refine z_iload hO 4 dX6_kindsMeant_142 rfl ?_
            refine z_iconst hO dX6_kindsMeant_144 ?_
            refine z_iload hO 7 dX6_kindsMeant_145 rfl ?_
            refine z_ishl hO (((2 ^ k : Nat) : Int)) dX6_kindsMeant_147 (bi_shl k (by omega)) ?_
            refine z_ior hO (((setF (mP (cv σ 1) (fun j => σ (o + 1) (i0 + j)) n m (k + 1)) 5 : Nat) : Int)) dX6_kindsMeant_148 (bi_or (by omega) hlk1 mP_o) ?_
            refine z_goto hO 161 dX6_kindsMeant_149 (by decide) ?_
            refine z_istore hO (L' := [(4, _), (0, _), (1, _), (2, _), (3, _), (5, _), (6, _), (7, _)]) dX6_kindsMeant_161 (by decide) rfl ?_
            refine z_iinc hO (L' := [(7, _), (4, _), (0, _), (1, _), (2, _), (3, _), (5, _), (6, _)]) 7 dX6_kindsMeant_163 rfl (by decide) rfl ?_
            refine z_goto hO 78 dX6_kindsMeant_166 (by decide) ?_
            refine z_pick [2, 3, 4, 5, 1, 6, 7, 0] rfl (ih (k + 1) _ (by omega) (by omega) (Fnd_congr hF (fun c c0 c1 => by funext z; rw [up_ne (by omega)])) (fun j hj => ?_) (hFm.up rfl) (fun c c0 c1 => by funext z; rw [up_ne (by omega), hυ c c0 c1]))
            by_cases q : j = k
            · rw [q, up_eq, if_pos (by omega), hm5.2]; exact hc11
            · rw [up_nk (by omega), hkc j hj]
              by_cases q2 : j < k
              · rw [if_pos q2, if_pos (by omega)]
              · rw [if_neg q2, if_neg (by omega)]
        ·
          have hsn : snd (cv σ 1) k m = false := Bool.not_eq_true _ ▸ (fun z => c117 ((Fnd_snd hV hs hF).mpr z))
          have hb5 : bst (cv σ 1) k (m + 1) = bst (cv σ 1) k m := bst_n hsn
          have hm5 := mB_f (row := (fun j => σ (o + 1) (i0 + j))) (n := n) hb5
          refine z_if_eq hO 163 dX6_kindsMeant_120 (by decide) (by decide) (fun c120 => ?_) (fun c120 => absurd c120 (by omega))
          refine z_iinc hO (L' := [(7, _), (0, _), (1, _), (2, _), (3, _), (4, _), (5, _), (6, _)]) 7 dX6_kindsMeant_163 rfl (by decide) rfl ?_
          refine z_goto hO 78 dX6_kindsMeant_166 (by decide) ?_
          have hse : setF (mP (cv σ 1) (fun j => σ (o + 1) (i0 + j)) n m (k + 1)) 5 = setF (mP (cv σ 1) (fun j => σ (o + 1) (i0 + j)) n m k) 5 := by
            have hx : ∀ j, j < 5 → (mP (cv σ 1) (fun j => σ (o + 1) (i0 + j)) n m (k + 1)) j = (mP (cv σ 1) (fun j => σ (o + 1) (i0 + j)) n m k) j := fun j hj => by by_cases q : j = k; (rw [q, mP_k, hm5.1]; unfold mP; rw [if_neg (by omega)]); (exact mP_o j hj q)
            rw [setF_5, setF_5, hx 0 (by decide), hx 1 (by decide), hx 2 (by decide), hx 3 (by decide), hx 4 (by decide)]
          have hk2 : ∀ j : Nat, j < 5 → τ 87 j = kC (cv σ 1) j (if j < k + 1 then m + 1 else m) := fun j hj => by
            by_cases q : j = k
            · rw [q, hkc k (by omega), if_neg (by omega), if_pos (by omega), hm5.2]
            · rw [hkc j hj]
              by_cases q2 : j < k
              · rw [if_pos q2, if_pos (by omega)]
              · rw [if_neg q2, if_neg (by omega)]
          rw [← hse]
          exact z_pick [1, 2, 3, 4, 5, 6, 7, 0] rfl (ih (k + 1) τ (by omega) (by omega) hF hk2 hFm hυ)
