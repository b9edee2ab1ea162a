/-! ===== the law, from its entry ===== -/
set_option maxHeartbeats 4000000 in
set_option maxRecDepth 100000 in
theorem law_build {g0 : G} {x : Cx} {b n : Nat} {f : Nat → Int32} (hO : OkY g0 x RL cL_law 4 14 600000 7302250) (hX : SX x b n f) (hn : n ≤ 3072) (hEnd : ∀ (H : Heap) (locs : List Loc) (ls : Array Slot), va_S (xA x) (xs x).heap H locs → W (xp x) g0.1 (xe x) (xR x) (xs x) (xm x) (xa x) (xb x) (xt x) (xc x) H locs 134 4701 (xQ x) (F0 (xm x) 996 ls [vI 1])) : Y g0 x 4 0 [(0, .ref b)] [] [] 0 0 := by
  refine y_new hO nw_L_7 [.null, .null, .null, .null, .null, .null, .null, .null, vI 0] (by decide) (Nat.le_of_ble_eq_true rfl) (Nat.le_of_ble_eq_true rfl) dL_law_0 (fun h => ?_)
  refine y_dup hO dL_law_3 rfl ?_
  refine y_ctor hO (S := [.ref h]) (t_X8_init (h := h)) cn_L_9 rfl rfl (by decide) (Nat.le_of_ble_eq_true rfl) (Nat.le_of_ble_eq_true rfl) (Nat.le_of_ble_eq_true rfl) dL_law_4 (fun w1 hw1 => ?_)
  obtain ⟨u, e1⟩ := hw1
  rw [e1, List.nil_append]
  refine y_astore_n hO (L' := [(1, .ref h), (0, .ref b)]) dL_law_7 (by decide) rfl ?_
  refine y_new hO nw_L_10 [.null, .null, .null, vI 0, vI 0, .null, vI 0, vI 0, vI 0, vI 0, vI 0, vI 0, .null, vI 0, vI 0, vI 0, .null, .null, .null, .null, .null, vI 0, .null, vI 0, vI 0, .null, .null, vI 0, .null, vI 0, .null, .null, vI 0, .null, .null, .null, .null] (by decide) (Nat.le_of_ble_eq_true rfl) (Nat.le_of_ble_eq_true rfl) dL_law_8 (fun k => ?_)
  refine y_dup hO dL_law_11 rfl ?_
  refine y_ctor hO (S := [.ref k]) (t_X9_init (h := k)) cn_L_12 rfl rfl (by decide) (Nat.le_of_ble_eq_true rfl) (Nat.le_of_ble_eq_true rfl) (Nat.le_of_ble_eq_true rfl) dL_law_12 (fun w2 hw2 => ?_)
  obtain ⟨t, e2⟩ := hw2
  rw [e2]
  refine y_astore_n hO (L' := [(2, .ref k), (1, .ref h), (0, .ref b)]) dL_law_15 (by decide) rfl ?_
  refine y_iconst hO dL_law_16 ?_
  refine y_istore_n hO (L' := [(3, vI 0), (2, .ref k), (1, .ref h), (0, .ref b)]) dL_law_17 (by decide) rfl ?_
  refine y_pick (L' := [(0, .ref b), (1, .ref h), (2, .ref k), (3, vI 0)]) [3, 2, 1, 0] rfl ?_
  refine y_perm (w' := ws (gA g0 h u k t) sg0) (fAll (g := g0) (h := h) (u := u) (k := k) (t := t)) ?_
  intro H locs ls hP hD hS hl
  have ok : Ok (gA g0 h u k t) ((xp x, xe x, xR x, xs x, xm x, xa x, xb x, xt x, xc x, 134, 4701, xQ x, xA x) : Cx) RL cL_law 4 14 :=
    ⟨hO.1, hO.2.1, hO.2.2.1, hO.2.2.2.1, hO.2.2.2.2.1, hO.2.2.2.2.2.1, fun i j hi hj e => hD.1 i j _ _ (ws_at _ sg0 hi) (ws_at _ sg0 hj) e, fun c hc => hD.2 c _ (ws_at _ sg0 hc), hO.2.2.2.2.2.2.2.1, hO.2.2.2.2.2.2.2.2.1, hO.2.2.2.2.2.2.2.2.2.1, Nat.le_trans (Nat.le_of_ble_eq_true rfl) hO.2.2.2.2.2.2.2.2.2.2.1, Nat.le_trans (Nat.le_of_ble_eq_true rfl) hO.2.2.2.2.2.2.2.2.2.2.2⟩
  have hE : ∀ (i : Int) (σ : Sg), Z (gA g0 h u k t) ((xp x, xe x, xR x, xs x, xm x, xa x, xb x, xt x, xc x, 134, 4701, xQ x, xA x) : Cx) 4 995 [(0, .ref b), (1, .ref ((gA g0 h u k t).2.2.1 0)), (2, .ref ((gA g0 h u k t).2.2.1 113)), (3, vI i)] [] σ := fun i σ => z_iconst ok dL_law_995 (fun H locs ls hr hP hS hl => hEnd H locs ls hS)
  exact law_loop ok hX hn hE (n + 1) 0 sg0 (Int.le_refl 0) (by omega) (by omega) Rel_sg0 H locs ls Rn_sg0 hP hS hl
