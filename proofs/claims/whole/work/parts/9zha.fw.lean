abbrev AT_WX3 : Type := Nat × Nat × AT_WX2 × Nat × AT_WX2 × Nat × AT_WX2 × Nat × AT_WX2 × Nat × AT_WX2 × Nat × AT_WX2 × Nat × AT_WX2 × Nat × AT_WX2
abbrev WX3 (g : G) (h : Nat) (u : AT_WX3) : va_W := (h, .inr (2, [.ref u.1, vI 0, vI 0])) :: yQ g 0 u.1 8 (va_up (va_up (va_up (va_up (va_up (va_up (va_up (va_up (fun _ => none) 0 (some u.2.1)) 1 (some u.2.2.2.1)) 2 (some u.2.2.2.2.2.1)) 3 (some u.2.2.2.2.2.2.2.1)) 4 (some u.2.2.2.2.2.2.2.2.2.1)) 5 (some u.2.2.2.2.2.2.2.2.2.2.2.1)) 6 (some u.2.2.2.2.2.2.2.2.2.2.2.2.2.1)) 7 (some u.2.2.2.2.2.2.2.2.2.2.2.2.2.2.2.1)) :: (((((((([] ++ WX2 g u.2.1 u.2.2.1) ++ WX2 g u.2.2.2.1 u.2.2.2.2.1) ++ WX2 g u.2.2.2.2.2.1 u.2.2.2.2.2.2.1) ++ WX2 g u.2.2.2.2.2.2.2.1 u.2.2.2.2.2.2.2.2.1) ++ WX2 g u.2.2.2.2.2.2.2.2.2.1 u.2.2.2.2.2.2.2.2.2.2.1) ++ WX2 g u.2.2.2.2.2.2.2.2.2.2.2.1 u.2.2.2.2.2.2.2.2.2.2.2.2.1) ++ WX2 g u.2.2.2.2.2.2.2.2.2.2.2.2.2.1 u.2.2.2.2.2.2.2.2.2.2.2.2.2.2.1) ++ WX2 g u.2.2.2.2.2.2.2.2.2.2.2.2.2.2.2.1 u.2.2.2.2.2.2.2.2.2.2.2.2.2.2.2.2)
set_option maxHeartbeats 4000000 in
set_option maxRecDepth 100000 in
theorem t_X3_init {g : G} {h : Nat} : MN g mX3_init [.ref h] [(h, .inr (2, [.null, vI 0, vI 0]))] 33 640 (fun w => ∃ u : AT_WX3, w = WX3 g h u) := by
  refine mn_of rfl (by decide) rfl rfl rfl (Nat.le_of_ble_eq_true rfl) (fun x hO hI hR => ?_)
  refine y_w (w' := (h, .inr (2, [.null, vI 0, vI 0])) :: []) rfl ?_
  refine y_aload_n hO 0 dX3_init_0 rfl ?_
  refine y_obj hO oi_X3_3 (by decide) dX3_init_1 ?_
  refine y_aload_n hO 0 dX3_init_4 rfl ?_
  refine y_bipush hO dX3_init_5 (by decide) ?_
  refine y_newq hO (M := 8) (C := RX2) 0 rfl hO.2.2.2.2.2.2.1.1 (lw_gin 134 (by decide +kernel) (by decide +kernel)) 8 rfl (by decide) (Nat.le_of_ble_eq_true rfl) (Nat.le_of_ble_eq_true rfl) dX3_init_7 (fun a1 => ?_)
  refine y_w (w' := (h, .inr (2, [.null, vI 0, vI 0])) :: ([] ++ [yQ g 0 a1 8 (fun _ => none)])) rfl ?_
  refine y_perm (w' := (h, .inr (2, [.null, vI 0, vI 0])) :: yQ g 0 a1 8 (fun _ => none) :: []) (List.Perm.cons _ (List.perm_append_singleton _ _)) ?_
  refine y_putF hO hI (fs' := [.ref a1, vI 0, vI 0]) fw_X3_11 (Nat.le_of_ble_eq_true rfl) rfl rfl rfl dX3_init_10 ?_
  refine y_iconst hO dX3_init_13 ?_
  refine y_istore_n hO (L' := [(1, vI 0), (0, .ref h)]) dX3_init_14 (by decide) rfl ?_
  refine y_iload_n hO 0 dX3_init_15 rfl ?_
  refine y_bipush hO dX3_init_16 (by decide) ?_
  refine y_geF hO 40 dX3_init_18 (by decide) (by decide) ?_
  refine y_aload_n hO 1 dX3_init_21 rfl ?_
  refine y_get hO fl_X3_11 rfl dX3_init_22 ?_
  refine y_iload_n hO 0 dX3_init_25 rfl ?_
  refine y_new hO nw_X3_9 [.null, .null, .null, vI 0, vI 0, vI 0, vI 0] (by decide) (Nat.le_of_ble_eq_true rfl) (Nat.le_of_ble_eq_true rfl) dX3_init_26 (fun q2 => ?_)
  refine y_dup hO dX3_init_29 rfl ?_
  refine y_ctor hO (S := [.ref q2, vI 0, .ref a1]) (t_X2_init (h := q2)) cn_X3_17 rfl rfl (by decide) (Nat.le_of_ble_eq_true rfl) (Nat.le_of_ble_eq_true rfl) (Nat.le_of_ble_eq_true rfl) dX3_init_30 (fun wf3 hf3 => ?_)
  obtain ⟨f3, ef3⟩ := hf3
  rw [ef3]
  refine y_w (w' := (h, .inr (2, [.ref a1, vI 0, vI 0])) :: yQ g 0 a1 8 (fun _ => none) :: ([] ++ WX2 g q2 f3)) rfl ?_
  refine y_aast hO 0 1 1 (w' := (h, .inr (2, [.ref a1, vI 0, vI 0])) :: yQ g 0 a1 8 (va_up (fun _ => none) 0 (some q2)) :: ([] ++ WX2 g q2 f3)) rfl rfl (List.mem_cons_of_mem _ (List.mem_cons_of_mem _ (List.mem_append.mpr (Or.inr List.mem_cons_self)))) rfl (by decide) (by decide) rfl dX3_init_33 ?_
  refine y_iinc hO (L' := [(1, vI 1), (0, .ref h)]) 0 dX3_init_34 rfl (by decide) rfl ?_
  refine y_goto hO 15 dX3_init_37 (by decide) ?_
  refine y_iload_n hO 0 dX3_init_15 rfl ?_
  refine y_bipush hO dX3_init_16 (by decide) ?_
  refine y_geF hO 40 dX3_init_18 (by decide) (by decide) ?_
  refine y_aload_n hO 1 dX3_init_21 rfl ?_
  refine y_get hO fl_X3_11 rfl dX3_init_22 ?_
  refine y_iload_n hO 0 dX3_init_25 rfl ?_
  refine y_new hO nw_X3_9 [.null, .null, .null, vI 0, vI 0, vI 0, vI 0] (by decide) (Nat.le_of_ble_eq_true rfl) (Nat.le_of_ble_eq_true rfl) dX3_init_26 (fun q4 => ?_)
  refine y_dup hO dX3_init_29 rfl ?_
  refine y_ctor hO (S := [.ref q4, vI 1, .ref a1]) (t_X2_init (h := q4)) cn_X3_17 rfl rfl (by decide) (Nat.le_of_ble_eq_true rfl) (Nat.le_of_ble_eq_true rfl) (Nat.le_of_ble_eq_true rfl) dX3_init_30 (fun wf5 hf5 => ?_)
  obtain ⟨f5, ef5⟩ := hf5
  rw [ef5]
  refine y_w (w' := (h, .inr (2, [.ref a1, vI 0, vI 0])) :: yQ g 0 a1 8 (va_up (fun _ => none) 0 (some q2)) :: (([] ++ WX2 g q2 f3) ++ WX2 g q4 f5)) rfl ?_
  refine y_aast hO 0 1 1 (w' := (h, .inr (2, [.ref a1, vI 0, vI 0])) :: yQ g 0 a1 8 (va_up (va_up (fun _ => none) 0 (some q2)) 1 (some q4)) :: (([] ++ WX2 g q2 f3) ++ WX2 g q4 f5)) rfl rfl (List.mem_cons_of_mem _ (List.mem_cons_of_mem _ (List.mem_append.mpr (Or.inr List.mem_cons_self)))) rfl (by decide) (by decide) rfl dX3_init_33 ?_
  refine y_iinc hO (L' := [(1, vI 2), (0, .ref h)]) 0 dX3_init_34 rfl (by decide) rfl ?_
  refine y_goto hO 15 dX3_init_37 (by decide) ?_
  refine y_iload_n hO 0 dX3_init_15 rfl ?_
  refine y_bipush hO dX3_init_16 (by decide) ?_
  refine y_geF hO 40 dX3_init_18 (by decide) (by decide) ?_
  refine y_aload_n hO 1 dX3_init_21 rfl ?_
  refine y_get hO fl_X3_11 rfl dX3_init_22 ?_
  refine y_iload_n hO 0 dX3_init_25 rfl ?_
  refine y_new hO nw_X3_9 [.null, .null, .null, vI 0, vI 0, vI 0, vI 0] (by decide) (Nat.le_of_ble_eq_true rfl) (Nat.le_of_ble_eq_true rfl) dX3_init_26 (fun q6 => ?_)
  refine y_dup hO dX3_init_29 rfl ?_
  refine y_ctor hO (S := [.ref q6, vI 2, .ref a1]) (t_X2_init (h := q6)) cn_X3_17 rfl rfl (by decide) (Nat.le_of_ble_eq_true rfl) (Nat.le_of_ble_eq_true rfl) (Nat.le_of_ble_eq_true rfl) dX3_init_30 (fun wf7 hf7 => ?_)
  obtain ⟨f7, ef7⟩ := hf7
  rw [ef7]
  refine y_w (w' := (h, .inr (2, [.ref a1, vI 0, vI 0])) :: yQ g 0 a1 8 (va_up (va_up (fun _ => none) 0 (some q2)) 1 (some q4)) :: ((([] ++ WX2 g q2 f3) ++ WX2 g q4 f5) ++ WX2 g q6 f7)) rfl ?_
  refine y_aast hO 0 1 1 (w' := (h, .inr (2, [.ref a1, vI 0, vI 0])) :: yQ g 0 a1 8 (va_up (va_up (va_up (fun _ => none) 0 (some q2)) 1 (some q4)) 2 (some q6)) :: ((([] ++ WX2 g q2 f3) ++ WX2 g q4 f5) ++ WX2 g q6 f7)) rfl rfl (List.mem_cons_of_mem _ (List.mem_cons_of_mem _ (List.mem_append.mpr (Or.inr List.mem_cons_self)))) rfl (by decide) (by decide) rfl dX3_init_33 ?_
  refine y_iinc hO (L' := [(1, vI 3), (0, .ref h)]) 0 dX3_init_34 rfl (by decide) rfl ?_
  refine y_goto hO 15 dX3_init_37 (by decide) ?_
  refine y_iload_n hO 0 dX3_init_15 rfl ?_
  refine y_bipush hO dX3_init_16 (by decide) ?_
  refine y_geF hO 40 dX3_init_18 (by decide) (by decide) ?_
  refine y_aload_n hO 1 dX3_init_21 rfl ?_
  refine y_get hO fl_X3_11 rfl dX3_init_22 ?_
  refine y_iload_n hO 0 dX3_init_25 rfl ?_
  refine y_new hO nw_X3_9 [.null, .null, .null, vI 0, vI 0, vI 0, vI 0] (by decide) (Nat.le_of_ble_eq_true rfl) (Nat.le_of_ble_eq_true rfl) dX3_init_26 (fun q8 => ?_)
  refine y_dup hO dX3_init_29 rfl ?_
  refine y_ctor hO (S := [.ref q8, vI 3, .ref a1]) (t_X2_init (h := q8)) cn_X3_17 rfl rfl (by decide) (Nat.le_of_ble_eq_true rfl) (Nat.le_of_ble_eq_true rfl) (Nat.le_of_ble_eq_true rfl) dX3_init_30 (fun wf9 hf9 => ?_)
  obtain ⟨f9, ef9⟩ := hf9
  rw [ef9]
  refine y_w (w' := (h, .inr (2, [.ref a1, vI 0, vI 0])) :: yQ g 0 a1 8 (va_up (va_up (va_up (fun _ => none) 0 (some q2)) 1 (some q4)) 2 (some q6)) :: (((([] ++ WX2 g q2 f3) ++ WX2 g q4 f5) ++ WX2 g q6 f7) ++ WX2 g q8 f9)) rfl ?_
  refine y_aast hO 0 1 1 (w' := (h, .inr (2, [.ref a1, vI 0, vI 0])) :: yQ g 0 a1 8 (va_up (va_up (va_up (va_up (fun _ => none) 0 (some q2)) 1 (some q4)) 2 (some q6)) 3 (some q8)) :: (((([] ++ WX2 g q2 f3) ++ WX2 g q4 f5) ++ WX2 g q6 f7) ++ WX2 g q8 f9)) rfl rfl (List.mem_cons_of_mem _ (List.mem_cons_of_mem _ (List.mem_append.mpr (Or.inr List.mem_cons_self)))) rfl (by decide) (by decide) rfl dX3_init_33 ?_
  refine y_iinc hO (L' := [(1, vI 4), (0, .ref h)]) 0 dX3_init_34 rfl (by decide) rfl ?_
  refine y_goto hO 15 dX3_init_37 (by decide) ?_
  refine y_iload_n hO 0 dX3_init_15 rfl ?_
  refine y_bipush hO dX3_init_16 (by decide) ?_
  refine y_geF hO 40 dX3_init_18 (by decide) (by decide) ?_
  refine y_aload_n hO 1 dX3_init_21 rfl ?_
  refine y_get hO fl_X3_11 rfl dX3_init_22 ?_
  refine y_iload_n hO 0 dX3_init_25 rfl ?_
  refine y_new hO nw_X3_9 [.null, .null, .null, vI 0, vI 0, vI 0, vI 0] (by decide) (Nat.le_of_ble_eq_true rfl) (Nat.le_of_ble_eq_true rfl) dX3_init_26 (fun q10 => ?_)
  refine y_dup hO dX3_init_29 rfl ?_
  refine y_ctor hO (S := [.ref q10, vI 4, .ref a1]) (t_X2_init (h := q10)) cn_X3_17 rfl rfl (by decide) (Nat.le_of_ble_eq_true rfl) (Nat.le_of_ble_eq_true rfl) (Nat.le_of_ble_eq_true rfl) dX3_init_30 (fun wf11 hf11 => ?_)
  obtain ⟨f11, ef11⟩ := hf11
  rw [ef11]
  refine y_w (w' := (h, .inr (2, [.ref a1, vI 0, vI 0])) :: yQ g 0 a1 8 (va_up (va_up (va_up (va_up (fun _ => none) 0 (some q2)) 1 (some q4)) 2 (some q6)) 3 (some q8)) :: ((((([] ++ WX2 g q2 f3) ++ WX2 g q4 f5) ++ WX2 g q6 f7) ++ WX2 g q8 f9) ++ WX2 g q10 f11)) rfl ?_
  refine y_aast hO 0 1 1 (w' := (h, .inr (2, [.ref a1, vI 0, vI 0])) :: yQ g 0 a1 8 (va_up (va_up (va_up (va_up (va_up (fun _ => none) 0 (some q2)) 1 (some q4)) 2 (some q6)) 3 (some q8)) 4 (some q10)) :: ((((([] ++ WX2 g q2 f3) ++ WX2 g q4 f5) ++ WX2 g q6 f7) ++ WX2 g q8 f9) ++ WX2 g q10 f11)) rfl rfl (List.mem_cons_of_mem _ (List.mem_cons_of_mem _ (List.mem_append.mpr (Or.inr List.mem_cons_self)))) rfl (by decide) (by decide) rfl dX3_init_33 ?_
  refine y_iinc hO (L' := [(1, vI 5), (0, .ref h)]) 0 dX3_init_34 rfl (by decide) rfl ?_
  refine y_goto hO 15 dX3_init_37 (by decide) ?_
  refine y_iload_n hO 0 dX3_init_15 rfl ?_
  refine y_bipush hO dX3_init_16 (by decide) ?_
  refine y_geF hO 40 dX3_init_18 (by decide) (by decide) ?_
  refine y_aload_n hO 1 dX3_init_21 rfl ?_
  refine y_get hO fl_X3_11 rfl dX3_init_22 ?_
  refine y_iload_n hO 0 dX3_init_25 rfl ?_
  refine y_new hO nw_X3_9 [.null, .null, .null, vI 0, vI 0, vI 0, vI 0] (by decide) (Nat.le_of_ble_eq_true rfl) (Nat.le_of_ble_eq_true rfl) dX3_init_26 (fun q12 => ?_)
  refine y_dup hO dX3_init_29 rfl ?_
  refine y_ctor hO (S := [.ref q12, vI 5, .ref a1]) (t_X2_init (h := q12)) cn_X3_17 rfl rfl (by decide) (Nat.le_of_ble_eq_true rfl) (Nat.le_of_ble_eq_true rfl) (Nat.le_of_ble_eq_true rfl) dX3_init_30 (fun wf13 hf13 => ?_)
  obtain ⟨f13, ef13⟩ := hf13
  rw [ef13]
  refine y_w (w' := (h, .inr (2, [.ref a1, vI 0, vI 0])) :: yQ g 0 a1 8 (va_up (va_up (va_up (va_up (va_up (fun _ => none) 0 (some q2)) 1 (some q4)) 2 (some q6)) 3 (some q8)) 4 (some q10)) :: (((((([] ++ WX2 g q2 f3) ++ WX2 g q4 f5) ++ WX2 g q6 f7) ++ WX2 g q8 f9) ++ WX2 g q10 f11) ++ WX2 g q12 f13)) rfl ?_
  refine y_aast hO 0 1 1 (w' := (h, .inr (2, [.ref a1, vI 0, vI 0])) :: yQ g 0 a1 8 (va_up (va_up (va_up (va_up (va_up (va_up (fun _ => none) 0 (some q2)) 1 (some q4)) 2 (some q6)) 3 (some q8)) 4 (some q10)) 5 (some q12)) :: (((((([] ++ WX2 g q2 f3) ++ WX2 g q4 f5) ++ WX2 g q6 f7) ++ WX2 g q8 f9) ++ WX2 g q10 f11) ++ WX2 g q12 f13)) rfl rfl (List.mem_cons_of_mem _ (List.mem_cons_of_mem _ (List.mem_append.mpr (Or.inr List.mem_cons_self)))) rfl (by decide) (by decide) rfl dX3_init_33 ?_
  refine y_iinc hO (L' := [(1, vI 6), (0, .ref h)]) 0 dX3_init_34 rfl (by decide) rfl ?_
  refine y_goto hO 15 dX3_init_37 (by decide) ?_
  refine y_iload_n hO 0 dX3_init_15 rfl ?_
  refine y_bipush hO dX3_init_16 (by decide) ?_
  refine y_geF hO 40 dX3_init_18 (by decide) (by decide) ?_
  refine y_aload_n hO 1 dX3_init_21 rfl ?_
  refine y_get hO fl_X3_11 rfl dX3_init_22 ?_
  refine y_iload_n hO 0 dX3_init_25 rfl ?_
  refine y_new hO nw_X3_9 [.null, .null, .null, vI 0, vI 0, vI 0, vI 0] (by decide) (Nat.le_of_ble_eq_true rfl) (Nat.le_of_ble_eq_true rfl) dX3_init_26 (fun q14 => ?_)
  refine y_dup hO dX3_init_29 rfl ?_
  refine y_ctor hO (S := [.ref q14, vI 6, .ref a1]) (t_X2_init (h := q14)) cn_X3_17 rfl rfl (by decide) (Nat.le_of_ble_eq_true rfl) (Nat.le_of_ble_eq_true rfl) (Nat.le_of_ble_eq_true rfl) dX3_init_30 (fun wf15 hf15 => ?_)
  obtain ⟨f15, ef15⟩ := hf15
  rw [ef15]
  refine y_w (w' := (h, .inr (2, [.ref a1, vI 0, vI 0])) :: yQ g 0 a1 8 (va_up (va_up (va_up (va_up (va_up (va_up (fun _ => none) 0 (some q2)) 1 (some q4)) 2 (some q6)) 3 (some q8)) 4 (some q10)) 5 (some q12)) :: ((((((([] ++ WX2 g q2 f3) ++ WX2 g q4 f5) ++ WX2 g q6 f7) ++ WX2 g q8 f9) ++ WX2 g q10 f11) ++ WX2 g q12 f13) ++ WX2 g q14 f15)) rfl ?_
  refine y_aast hO 0 1 1 (w' := (h, .inr (2, [.ref a1, vI 0, vI 0])) :: yQ g 0 a1 8 (va_up (va_up (va_up (va_up (va_up (va_up (va_up (fun _ => none) 0 (some q2)) 1 (some q4)) 2 (some q6)) 3 (some q8)) 4 (some q10)) 5 (some q12)) 6 (some q14)) :: ((((((([] ++ WX2 g q2 f3) ++ WX2 g q4 f5) ++ WX2 g q6 f7) ++ WX2 g q8 f9) ++ WX2 g q10 f11) ++ WX2 g q12 f13) ++ WX2 g q14 f15)) rfl rfl (List.mem_cons_of_mem _ (List.mem_cons_of_mem _ (List.mem_append.mpr (Or.inr List.mem_cons_self)))) rfl (by decide) (by decide) rfl dX3_init_33 ?_
  refine y_iinc hO (L' := [(1, vI 7), (0, .ref h)]) 0 dX3_init_34 rfl (by decide) rfl ?_
  refine y_goto hO 15 dX3_init_37 (by decide) ?_
  refine y_iload_n hO 0 dX3_init_15 rfl ?_
  refine y_bipush hO dX3_init_16 (by decide) ?_
  refine y_geF hO 40 dX3_init_18 (by decide) (by decide) ?_
  refine y_aload_n hO 1 dX3_init_21 rfl ?_
  refine y_get hO fl_X3_11 rfl dX3_init_22 ?_
  refine y_iload_n hO 0 dX3_init_25 rfl ?_
  refine y_new hO nw_X3_9 [.null, .null, .null, vI 0, vI 0, vI 0, vI 0] (by decide) (Nat.le_of_ble_eq_true rfl) (Nat.le_of_ble_eq_true rfl) dX3_init_26 (fun q16 => ?_)
  refine y_dup hO dX3_init_29 rfl ?_
  refine y_ctor hO (S := [.ref q16, vI 7, .ref a1]) (t_X2_init (h := q16)) cn_X3_17 rfl rfl (by decide) (Nat.le_of_ble_eq_true rfl) (Nat.le_of_ble_eq_true rfl) (Nat.le_of_ble_eq_true rfl) dX3_init_30 (fun wf17 hf17 => ?_)
  obtain ⟨f17, ef17⟩ := hf17
  rw [ef17]
  refine y_w (w' := (h, .inr (2, [.ref a1, vI 0, vI 0])) :: yQ g 0 a1 8 (va_up (va_up (va_up (va_up (va_up (va_up (va_up (fun _ => none) 0 (some q2)) 1 (some q4)) 2 (some q6)) 3 (some q8)) 4 (some q10)) 5 (some q12)) 6 (some q14)) :: (((((((([] ++ WX2 g q2 f3) ++ WX2 g q4 f5) ++ WX2 g q6 f7) ++ WX2 g q8 f9) ++ WX2 g q10 f11) ++ WX2 g q12 f13) ++ WX2 g q14 f15) ++ WX2 g q16 f17)) rfl ?_
  refine y_aast hO 0 1 1 (w' := (h, .inr (2, [.ref a1, vI 0, vI 0])) :: yQ g 0 a1 8 (va_up (va_up (va_up (va_up (va_up (va_up (va_up (va_up (fun _ => none) 0 (some q2)) 1 (some q4)) 2 (some q6)) 3 (some q8)) 4 (some q10)) 5 (some q12)) 6 (some q14)) 7 (some q16)) :: (((((((([] ++ WX2 g q2 f3) ++ WX2 g q4 f5) ++ WX2 g q6 f7) ++ WX2 g q8 f9) ++ WX2 g q10 f11) ++ WX2 g q12 f13) ++ WX2 g q14 f15) ++ WX2 g q16 f17)) rfl rfl (List.mem_cons_of_mem _ (List.mem_cons_of_mem _ (List.mem_append.mpr (Or.inr List.mem_cons_self)))) rfl (by decide) (by decide) rfl dX3_init_33 ?_
  refine y_iinc hO (L' := [(1, vI 8), (0, .ref h)]) 0 dX3_init_34 rfl (by decide) rfl ?_
  refine y_goto hO 15 dX3_init_37 (by decide) ?_
  refine y_iload_n hO 0 dX3_init_15 rfl ?_
  refine y_bipush hO dX3_init_16 (by decide) ?_
  refine y_geT hO 40 dX3_init_18 (by decide) (by decide) ?_
  exact y_ret hO hR dX3_init_40 ⟨(a1, q2, f3, q4, f5, q6, f7, q8, f9, q10, f11, q12, f13, q14, f15, q16, f17), rfl⟩
