abbrev AT_WX8 : Type := Nat × AT_WX2 × Nat × AT_WX2 × Nat × AT_WX3 × Nat × AT_WX2 × Nat × AT_WX3 × Nat × AT_WX4 × Nat × AT_WX6 × Nat × Nat × AT_WX5 × Nat × AT_WX5 × Nat × AT_WX5 × Nat × AT_WX5
abbrev WX8 (g : G) (h : Nat) (u : AT_WX8) : va_W := (h, .inr (7, [.ref u.1, .ref u.2.2.1, .ref u.2.2.2.2.1, .ref u.2.2.2.2.2.2.1, .ref u.2.2.2.2.2.2.2.2.1, .ref u.2.2.2.2.2.2.2.2.2.2.1, .ref u.2.2.2.2.2.2.2.2.2.2.2.2.1, .ref u.2.2.2.2.2.2.2.2.2.2.2.2.2.2.1, vI 0])) :: yQ g 1 u.2.2.2.2.2.2.2.2.2.2.2.2.2.2.1 4 (va_up (va_up (va_up (va_up (fun _ => none) 0 (some u.2.2.2.2.2.2.2.2.2.2.2.2.2.2.2.1)) 1 (some u.2.2.2.2.2.2.2.2.2.2.2.2.2.2.2.2.2.1)) 2 (some u.2.2.2.2.2.2.2.2.2.2.2.2.2.2.2.2.2.2.2.1)) 3 (some u.2.2.2.2.2.2.2.2.2.2.2.2.2.2.2.2.2.2.2.2.2.1)) :: ((((((((((([] ++ WX2 g u.1 u.2.1) ++ WX2 g u.2.2.1 u.2.2.2.1) ++ WX3 g u.2.2.2.2.1 u.2.2.2.2.2.1) ++ WX2 g u.2.2.2.2.2.2.1 u.2.2.2.2.2.2.2.1) ++ WX3 g u.2.2.2.2.2.2.2.2.1 u.2.2.2.2.2.2.2.2.2.1) ++ WX4 g u.2.2.2.2.2.2.2.2.2.2.1 u.2.2.2.2.2.2.2.2.2.2.2.1) ++ WX6 g u.2.2.2.2.2.2.2.2.2.2.2.2.1 u.1 u.2.2.2.2.2.2.2.2.2.2.2.2.2.1) ++ WX5 g u.2.2.2.2.2.2.2.2.2.2.2.2.2.2.2.1 u.2.2.2.2.2.2.2.2.2.2.2.2.2.2.2.2.1) ++ WX5 g u.2.2.2.2.2.2.2.2.2.2.2.2.2.2.2.2.2.1 u.2.2.2.2.2.2.2.2.2.2.2.2.2.2.2.2.2.2.1) ++ WX5 g u.2.2.2.2.2.2.2.2.2.2.2.2.2.2.2.2.2.2.2.1 u.2.2.2.2.2.2.2.2.2.2.2.2.2.2.2.2.2.2.2.2.1) ++ WX5 g u.2.2.2.2.2.2.2.2.2.2.2.2.2.2.2.2.2.2.2.2.2.1 u.2.2.2.2.2.2.2.2.2.2.2.2.2.2.2.2.2.2.2.2.2.2)
set_option maxHeartbeats 4000000 in
set_option maxRecDepth 100000 in
theorem t_X8_init {g : G} {h : Nat} : MN g mX8_init [.ref h] [(h, .inr (7, [.null, .null, .null, .null, .null, .null, .null, .null, vI 0]))] 112 2344 (fun w => ∃ u : AT_WX8, w = WX8 g h u) := by
  refine mn_of rfl (by decide) rfl rfl rfl (Nat.le_of_ble_eq_true rfl) (fun x hO hI hR => ?_)
  refine y_w (w' := (h, .inr (7, [.null, .null, .null, .null, .null, .null, .null, .null, vI 0])) :: []) rfl ?_
  refine y_aload_n hO 0 dX8_init_0 rfl ?_
  refine y_obj hO oi_X8_3 (by decide) dX8_init_1 ?_
  refine y_aload_n hO 0 dX8_init_4 rfl ?_
  refine y_new hO nw_X8_9 [.null, .null, .null, vI 0, vI 0, vI 0, vI 0] (by decide) (Nat.le_of_ble_eq_true rfl) (Nat.le_of_ble_eq_true rfl) dX8_init_5 (fun q1 => ?_)
  refine y_dup hO dX8_init_8 rfl ?_
  refine y_ctor hO (S := [.ref q1, .ref h]) (t_X2_init (h := q1)) cn_X8_11 rfl rfl (by decide) (Nat.le_of_ble_eq_true rfl) (Nat.le_of_ble_eq_true rfl) (Nat.le_of_ble_eq_true rfl) dX8_init_9 (fun wf2 hf2 => ?_)
  obtain ⟨f2, ef2⟩ := hf2
  rw [ef2]
  refine y_w (w' := (h, .inr (7, [.null, .null, .null, .null, .null, .null, .null, .null, vI 0])) :: ([] ++ WX2 g q1 f2)) rfl ?_
  refine y_putF hO hI (fs' := [.ref q1, .null, .null, .null, .null, .null, .null, .null, vI 0]) fw_X8_12 (Nat.le_of_ble_eq_true rfl) rfl rfl rfl dX8_init_12 ?_
  refine y_aload_n hO 0 dX8_init_15 rfl ?_
  refine y_new hO nw_X8_9 [.null, .null, .null, vI 0, vI 0, vI 0, vI 0] (by decide) (Nat.le_of_ble_eq_true rfl) (Nat.le_of_ble_eq_true rfl) dX8_init_16 (fun q3 => ?_)
  refine y_dup hO dX8_init_19 rfl ?_
  refine y_ctor hO (S := [.ref q3, .ref h]) (t_X2_init (h := q3)) cn_X8_11 rfl rfl (by decide) (Nat.le_of_ble_eq_true rfl) (Nat.le_of_ble_eq_true rfl) (Nat.le_of_ble_eq_true rfl) dX8_init_20 (fun wf4 hf4 => ?_)
  obtain ⟨f4, ef4⟩ := hf4
  rw [ef4]
  refine y_w (w' := (h, .inr (7, [.ref q1, .null, .null, .null, .null, .null, .null, .null, vI 0])) :: (([] ++ WX2 g q1 f2) ++ WX2 g q3 f4)) rfl ?_
  refine y_putF hO hI (fs' := [.ref q1, .ref q3, .null, .null, .null, .null, .null, .null, vI 0]) fw_X8_16 (Nat.le_of_ble_eq_true rfl) rfl rfl rfl dX8_init_23 ?_
  refine y_aload_n hO 0 dX8_init_26 rfl ?_
  refine y_new hO nw_X8_19 [.null, vI 0, vI 0] (by decide) (Nat.le_of_ble_eq_true rfl) (Nat.le_of_ble_eq_true rfl) dX8_init_27 (fun q5 => ?_)
  refine y_dup hO dX8_init_30 rfl ?_
  refine y_ctor hO (S := [.ref q5, .ref h]) (t_X3_init (h := q5)) cn_X8_21 rfl rfl (by decide) (Nat.le_of_ble_eq_true rfl) (Nat.le_of_ble_eq_true rfl) (Nat.le_of_ble_eq_true rfl) dX8_init_31 (fun wf6 hf6 => ?_)
  obtain ⟨f6, ef6⟩ := hf6
  rw [ef6]
  refine y_w (w' := (h, .inr (7, [.ref q1, .ref q3, .null, .null, .null, .null, .null, .null, vI 0])) :: ((([] ++ WX2 g q1 f2) ++ WX2 g q3 f4) ++ WX3 g q5 f6)) rfl ?_
  refine y_putF hO hI (fs' := [.ref q1, .ref q3, .ref q5, .null, .null, .null, .null, .null, vI 0]) fw_X8_22 (Nat.le_of_ble_eq_true rfl) rfl rfl rfl dX8_init_34 ?_
  refine y_aload_n hO 0 dX8_init_37 rfl ?_
  refine y_new hO nw_X8_9 [.null, .null, .null, vI 0, vI 0, vI 0, vI 0] (by decide) (Nat.le_of_ble_eq_true rfl) (Nat.le_of_ble_eq_true rfl) dX8_init_38 (fun q7 => ?_)
  refine y_dup hO dX8_init_41 rfl ?_
  refine y_ctor hO (S := [.ref q7, .ref h]) (t_X2_init (h := q7)) cn_X8_11 rfl rfl (by decide) (Nat.le_of_ble_eq_true rfl) (Nat.le_of_ble_eq_true rfl) (Nat.le_of_ble_eq_true rfl) dX8_init_42 (fun wf8 hf8 => ?_)
  obtain ⟨f8, ef8⟩ := hf8
  rw [ef8]
  refine y_w (w' := (h, .inr (7, [.ref q1, .ref q3, .ref q5, .null, .null, .null, .null, .null, vI 0])) :: (((([] ++ WX2 g q1 f2) ++ WX2 g q3 f4) ++ WX3 g q5 f6) ++ WX2 g q7 f8)) rfl ?_
  refine y_putF hO hI (fs' := [.ref q1, .ref q3, .ref q5, .ref q7, .null, .null, .null, .null, vI 0]) fw_X8_26 (Nat.le_of_ble_eq_true rfl) rfl rfl rfl dX8_init_45 ?_
  refine y_aload_n hO 0 dX8_init_48 rfl ?_
  refine y_new hO nw_X8_19 [.null, vI 0, vI 0] (by decide) (Nat.le_of_ble_eq_true rfl) (Nat.le_of_ble_eq_true rfl) dX8_init_49 (fun q9 => ?_)
  refine y_dup hO dX8_init_52 rfl ?_
  refine y_ctor hO (S := [.ref q9, .ref h]) (t_X3_init (h := q9)) cn_X8_21 rfl rfl (by decide) (Nat.le_of_ble_eq_true rfl) (Nat.le_of_ble_eq_true rfl) (Nat.le_of_ble_eq_true rfl) dX8_init_53 (fun wf10 hf10 => ?_)
  obtain ⟨f10, ef10⟩ := hf10
  rw [ef10]
  refine y_w (w' := (h, .inr (7, [.ref q1, .ref q3, .ref q5, .ref q7, .null, .null, .null, .null, vI 0])) :: ((((([] ++ WX2 g q1 f2) ++ WX2 g q3 f4) ++ WX3 g q5 f6) ++ WX2 g q7 f8) ++ WX3 g q9 f10)) rfl ?_
  refine y_putF hO hI (fs' := [.ref q1, .ref q3, .ref q5, .ref q7, .ref q9, .null, .null, .null, vI 0]) fw_X8_29 (Nat.le_of_ble_eq_true rfl) rfl rfl rfl dX8_init_56 ?_
  refine y_aload_n hO 0 dX8_init_59 rfl ?_
  refine y_new hO nw_X8_32 [.null, vI 0, vI 0] (by decide) (Nat.le_of_ble_eq_true rfl) (Nat.le_of_ble_eq_true rfl) dX8_init_60 (fun q11 => ?_)
  refine y_dup hO dX8_init_63 rfl ?_
  refine y_ctor hO (S := [.ref q11, .ref h]) (t_X4_init (h := q11)) cn_X8_34 rfl rfl (by decide) (Nat.le_of_ble_eq_true rfl) (Nat.le_of_ble_eq_true rfl) (Nat.le_of_ble_eq_true rfl) dX8_init_64 (fun wf12 hf12 => ?_)
  obtain ⟨f12, ef12⟩ := hf12
  rw [ef12]
  refine y_w (w' := (h, .inr (7, [.ref q1, .ref q3, .ref q5, .ref q7, .ref q9, .null, .null, .null, vI 0])) :: (((((([] ++ WX2 g q1 f2) ++ WX2 g q3 f4) ++ WX3 g q5 f6) ++ WX2 g q7 f8) ++ WX3 g q9 f10) ++ WX4 g q11 f12)) rfl ?_
  refine y_putF hO hI (fs' := [.ref q1, .ref q3, .ref q5, .ref q7, .ref q9, .ref q11, .null, .null, vI 0]) fw_X8_35 (Nat.le_of_ble_eq_true rfl) rfl rfl rfl dX8_init_67 ?_
  refine y_aload_n hO 0 dX8_init_70 rfl ?_
  refine y_new hO nw_X8_39 [.null, .null, .null, vI 0, vI 0, vI 0, vI 0, vI 0, vI 0, .null, .null, .null, .null, vI 0, vI 0, vL 0, vL 0] (by decide) (Nat.le_of_ble_eq_true rfl) (Nat.le_of_ble_eq_true rfl) dX8_init_71 (fun q13 => ?_)
  refine y_dup hO dX8_init_74 rfl ?_
  refine y_aload_n hO 0 dX8_init_75 rfl ?_
  refine y_get hO fl_X8_12 rfl dX8_init_76 ?_
  refine y_w (w' := ((h, .inr (7, [.ref q1, .ref q3, .ref q5, .ref q7, .ref q9, .ref q11, .null, .null, vI 0])) :: (((((([] ++ WX2 g q1 f2) ++ WX2 g q3 f4) ++ WX3 g q5 f6) ++ WX2 g q7 f8) ++ WX3 g q9 f10) ++ WX4 g q11 f12)) ++ [(q13, .inr (5, [.null, .null, .null, vI 0, vI 0, vI 0, vI 0, vI 0, vI 0, .null, .null, .null, .null, vI 0, vI 0, vL 0, vL 0]))]) rfl ?_
  refine y_ctor hO (S := [.ref q13, .ref h]) (t_X6_init (h := q13) (v := q1)) cn_X8_41 rfl rfl (by decide) (Nat.le_of_ble_eq_true rfl) (Nat.le_of_ble_eq_true rfl) (Nat.le_of_ble_eq_true rfl) dX8_init_79 (fun wf14 hf14 => ?_)
  obtain ⟨f14, ef14⟩ := hf14
  rw [ef14]
  refine y_w (w' := (h, .inr (7, [.ref q1, .ref q3, .ref q5, .ref q7, .ref q9, .ref q11, .null, .null, vI 0])) :: ((((((([] ++ WX2 g q1 f2) ++ WX2 g q3 f4) ++ WX3 g q5 f6) ++ WX2 g q7 f8) ++ WX3 g q9 f10) ++ WX4 g q11 f12) ++ WX6 g q13 q1 f14)) rfl ?_
  refine y_putF hO hI (fs' := [.ref q1, .ref q3, .ref q5, .ref q7, .ref q9, .ref q11, .ref q13, .null, vI 0]) fw_X8_44 (Nat.le_of_ble_eq_true rfl) rfl rfl rfl dX8_init_82 ?_
  refine y_aload_n hO 0 dX8_init_85 rfl ?_
  refine y_iconst hO dX8_init_86 ?_
  refine y_newq hO (M := 4) (C := RX5) 1 rfl hO.2.2.2.2.2.2.1.2 (lw_gin 313 (by decide +kernel) (by decide +kernel)) 4 rfl (by decide) (Nat.le_of_ble_eq_true rfl) (Nat.le_of_ble_eq_true rfl) dX8_init_87 (fun a15 => ?_)
  refine y_w (w' := (h, .inr (7, [.ref q1, .ref q3, .ref q5, .ref q7, .ref q9, .ref q11, .ref q13, .null, vI 0])) :: (((((((([] ++ WX2 g q1 f2) ++ WX2 g q3 f4) ++ WX3 g q5 f6) ++ WX2 g q7 f8) ++ WX3 g q9 f10) ++ WX4 g q11 f12) ++ WX6 g q13 q1 f14) ++ [yQ g 1 a15 4 (fun _ => none)])) rfl ?_
  refine y_perm (w' := (h, .inr (7, [.ref q1, .ref q3, .ref q5, .ref q7, .ref q9, .ref q11, .ref q13, .null, vI 0])) :: yQ g 1 a15 4 (fun _ => none) :: ((((((([] ++ WX2 g q1 f2) ++ WX2 g q3 f4) ++ WX3 g q5 f6) ++ WX2 g q7 f8) ++ WX3 g q9 f10) ++ WX4 g q11 f12) ++ WX6 g q13 q1 f14)) (List.Perm.cons _ (List.perm_append_singleton _ _)) ?_
  refine y_putF hO hI (fs' := [.ref q1, .ref q3, .ref q5, .ref q7, .ref q9, .ref q11, .ref q13, .ref a15, vI 0]) fw_X8_50 (Nat.le_of_ble_eq_true rfl) rfl rfl rfl dX8_init_90 ?_
  refine y_iconst hO dX8_init_93 ?_
  refine y_istore_n hO (L' := [(1, vI 0), (0, .ref h)]) dX8_init_94 (by decide) rfl ?_
  refine y_iload_n hO 0 dX8_init_95 rfl ?_
  refine y_iconst hO dX8_init_96 ?_
  refine y_geF hO 119 dX8_init_97 (by decide) (by decide) ?_
  refine y_aload_n hO 1 dX8_init_100 rfl ?_
  refine y_get hO fl_X8_50 rfl dX8_init_101 ?_
  refine y_iload_n hO 0 dX8_init_104 rfl ?_
  refine y_new hO nw_X8_48 [.null, vI 0, vI 0] (by decide) (Nat.le_of_ble_eq_true rfl) (Nat.le_of_ble_eq_true rfl) dX8_init_105 (fun q16 => ?_)
  refine y_dup hO dX8_init_108 rfl ?_
  refine y_ctor hO (S := [.ref q16, vI 0, .ref a15]) (t_X5_init (h := q16)) cn_X8_54 rfl rfl (by decide) (Nat.le_of_ble_eq_true rfl) (Nat.le_of_ble_eq_true rfl) (Nat.le_of_ble_eq_true rfl) dX8_init_109 (fun wf17 hf17 => ?_)
  obtain ⟨f17, ef17⟩ := hf17
  rw [ef17]
  refine y_w (w' := (h, .inr (7, [.ref q1, .ref q3, .ref q5, .ref q7, .ref q9, .ref q11, .ref q13, .ref a15, vI 0])) :: yQ g 1 a15 4 (fun _ => none) :: (((((((([] ++ WX2 g q1 f2) ++ WX2 g q3 f4) ++ WX3 g q5 f6) ++ WX2 g q7 f8) ++ WX3 g q9 f10) ++ WX4 g q11 f12) ++ WX6 g q13 q1 f14) ++ WX5 g q16 f17)) rfl ?_
  refine y_aast hO 1 1 4 (w' := (h, .inr (7, [.ref q1, .ref q3, .ref q5, .ref q7, .ref q9, .ref q11, .ref q13, .ref a15, vI 0])) :: yQ g 1 a15 4 (va_up (fun _ => none) 0 (some q16)) :: (((((((([] ++ WX2 g q1 f2) ++ WX2 g q3 f4) ++ WX3 g q5 f6) ++ WX2 g q7 f8) ++ WX3 g q9 f10) ++ WX4 g q11 f12) ++ WX6 g q13 q1 f14) ++ WX5 g q16 f17)) rfl rfl (List.mem_cons_of_mem _ (List.mem_cons_of_mem _ (List.mem_append.mpr (Or.inr List.mem_cons_self)))) rfl (by decide) (by decide) rfl dX8_init_112 ?_
  refine y_iinc hO (L' := [(1, vI 1), (0, .ref h)]) 0 dX8_init_113 rfl (by decide) rfl ?_
  refine y_goto hO 95 dX8_init_116 (by decide) ?_
  refine y_iload_n hO 0 dX8_init_95 rfl ?_
  refine y_iconst hO dX8_init_96 ?_
  refine y_geF hO 119 dX8_init_97 (by decide) (by decide) ?_
  refine y_aload_n hO 1 dX8_init_100 rfl ?_
  refine y_get hO fl_X8_50 rfl dX8_init_101 ?_
  refine y_iload_n hO 0 dX8_init_104 rfl ?_
  refine y_new hO nw_X8_48 [.null, vI 0, vI 0] (by decide) (Nat.le_of_ble_eq_true rfl) (Nat.le_of_ble_eq_true rfl) dX8_init_105 (fun q18 => ?_)
  refine y_dup hO dX8_init_108 rfl ?_
  refine y_ctor hO (S := [.ref q18, vI 1, .ref a15]) (t_X5_init (h := q18)) cn_X8_54 rfl rfl (by decide) (Nat.le_of_ble_eq_true rfl) (Nat.le_of_ble_eq_true rfl) (Nat.le_of_ble_eq_true rfl) dX8_init_109 (fun wf19 hf19 => ?_)
  obtain ⟨f19, ef19⟩ := hf19
  rw [ef19]
  refine y_w (w' := (h, .inr (7, [.ref q1, .ref q3, .ref q5, .ref q7, .ref q9, .ref q11, .ref q13, .ref a15, vI 0])) :: yQ g 1 a15 4 (va_up (fun _ => none) 0 (some q16)) :: ((((((((([] ++ WX2 g q1 f2) ++ WX2 g q3 f4) ++ WX3 g q5 f6) ++ WX2 g q7 f8) ++ WX3 g q9 f10) ++ WX4 g q11 f12) ++ WX6 g q13 q1 f14) ++ WX5 g q16 f17) ++ WX5 g q18 f19)) rfl ?_
  refine y_aast hO 1 1 4 (w' := (h, .inr (7, [.ref q1, .ref q3, .ref q5, .ref q7, .ref q9, .ref q11, .ref q13, .ref a15, vI 0])) :: yQ g 1 a15 4 (va_up (va_up (fun _ => none) 0 (some q16)) 1 (some q18)) :: ((((((((([] ++ WX2 g q1 f2) ++ WX2 g q3 f4) ++ WX3 g q5 f6) ++ WX2 g q7 f8) ++ WX3 g q9 f10) ++ WX4 g q11 f12) ++ WX6 g q13 q1 f14) ++ WX5 g q16 f17) ++ WX5 g q18 f19)) rfl rfl (List.mem_cons_of_mem _ (List.mem_cons_of_mem _ (List.mem_append.mpr (Or.inr List.mem_cons_self)))) rfl (by decide) (by decide) rfl dX8_init_112 ?_
  refine y_iinc hO (L' := [(1, vI 2), (0, .ref h)]) 0 dX8_init_113 rfl (by decide) rfl ?_
  refine y_goto hO 95 dX8_init_116 (by decide) ?_
  refine y_iload_n hO 0 dX8_init_95 rfl ?_
  refine y_iconst hO dX8_init_96 ?_
  refine y_geF hO 119 dX8_init_97 (by decide) (by decide) ?_
  refine y_aload_n hO 1 dX8_init_100 rfl ?_
  refine y_get hO fl_X8_50 rfl dX8_init_101 ?_
  refine y_iload_n hO 0 dX8_init_104 rfl ?_
  refine y_new hO nw_X8_48 [.null, vI 0, vI 0] (by decide) (Nat.le_of_ble_eq_true rfl) (Nat.le_of_ble_eq_true rfl) dX8_init_105 (fun q20 => ?_)
  refine y_dup hO dX8_init_108 rfl ?_
  refine y_ctor hO (S := [.ref q20, vI 2, .ref a15]) (t_X5_init (h := q20)) cn_X8_54 rfl rfl (by decide) (Nat.le_of_ble_eq_true rfl) (Nat.le_of_ble_eq_true rfl) (Nat.le_of_ble_eq_true rfl) dX8_init_109 (fun wf21 hf21 => ?_)
  obtain ⟨f21, ef21⟩ := hf21
  rw [ef21]
  refine y_w (w' := (h, .inr (7, [.ref q1, .ref q3, .ref q5, .ref q7, .ref q9, .ref q11, .ref q13, .ref a15, vI 0])) :: yQ g 1 a15 4 (va_up (va_up (fun _ => none) 0 (some q16)) 1 (some q18)) :: (((((((((([] ++ WX2 g q1 f2) ++ WX2 g q3 f4) ++ WX3 g q5 f6) ++ WX2 g q7 f8) ++ WX3 g q9 f10) ++ WX4 g q11 f12) ++ WX6 g q13 q1 f14) ++ WX5 g q16 f17) ++ WX5 g q18 f19) ++ WX5 g q20 f21)) rfl ?_
  refine y_aast hO 1 1 4 (w' := (h, .inr (7, [.ref q1, .ref q3, .ref q5, .ref q7, .ref q9, .ref q11, .ref q13, .ref a15, vI 0])) :: yQ g 1 a15 4 (va_up (va_up (va_up (fun _ => none) 0 (some q16)) 1 (some q18)) 2 (some q20)) :: (((((((((([] ++ WX2 g q1 f2) ++ WX2 g q3 f4) ++ WX3 g q5 f6) ++ WX2 g q7 f8) ++ WX3 g q9 f10) ++ WX4 g q11 f12) ++ WX6 g q13 q1 f14) ++ WX5 g q16 f17) ++ WX5 g q18 f19) ++ WX5 g q20 f21)) rfl rfl (List.mem_cons_of_mem _ (List.mem_cons_of_mem _ (List.mem_append.mpr (Or.inr List.mem_cons_self)))) rfl (by decide) (by decide) rfl dX8_init_112 ?_
  refine y_iinc hO (L' := [(1, vI 3), (0, .ref h)]) 0 dX8_init_113 rfl (by decide) rfl ?_
  refine y_goto hO 95 dX8_init_116 (by decide) ?_
  refine y_iload_n hO 0 dX8_init_95 rfl ?_
  refine y_iconst hO dX8_init_96 ?_
  refine y_geF hO 119 dX8_init_97 (by decide) (by decide) ?_
  refine y_aload_n hO 1 dX8_init_100 rfl ?_
  refine y_get hO fl_X8_50 rfl dX8_init_101 ?_
  refine y_iload_n hO 0 dX8_init_104 rfl ?_
  refine y_new hO nw_X8_48 [.null, vI 0, vI 0] (by decide) (Nat.le_of_ble_eq_true rfl) (Nat.le_of_ble_eq_true rfl) dX8_init_105 (fun q22 => ?_)
  refine y_dup hO dX8_init_108 rfl ?_
  refine y_ctor hO (S := [.ref q22, vI 3, .ref a15]) (t_X5_init (h := q22)) cn_X8_54 rfl rfl (by decide) (Nat.le_of_ble_eq_true rfl) (Nat.le_of_ble_eq_true rfl) (Nat.le_of_ble_eq_true rfl) dX8_init_109 (fun wf23 hf23 => ?_)
  obtain ⟨f23, ef23⟩ := hf23
  rw [ef23]
  refine y_w (w' := (h, .inr (7, [.ref q1, .ref q3, .ref q5, .ref q7, .ref q9, .ref q11, .ref q13, .ref a15, vI 0])) :: yQ g 1 a15 4 (va_up (va_up (va_up (fun _ => none) 0 (some q16)) 1 (some q18)) 2 (some q20)) :: ((((((((((([] ++ WX2 g q1 f2) ++ WX2 g q3 f4) ++ WX3 g q5 f6) ++ WX2 g q7 f8) ++ WX3 g q9 f10) ++ WX4 g q11 f12) ++ WX6 g q13 q1 f14) ++ WX5 g q16 f17) ++ WX5 g q18 f19) ++ WX5 g q20 f21) ++ WX5 g q22 f23)) rfl ?_
  refine y_aast hO 1 1 4 (w' := (h, .inr (7, [.ref q1, .ref q3, .ref q5, .ref q7, .ref q9, .ref q11, .ref q13, .ref a15, vI 0])) :: yQ g 1 a15 4 (va_up (va_up (va_up (va_up (fun _ => none) 0 (some q16)) 1 (some q18)) 2 (some q20)) 3 (some q22)) :: ((((((((((([] ++ WX2 g q1 f2) ++ WX2 g q3 f4) ++ WX3 g q5 f6) ++ WX2 g q7 f8) ++ WX3 g q9 f10) ++ WX4 g q11 f12) ++ WX6 g q13 q1 f14) ++ WX5 g q16 f17) ++ WX5 g q18 f19) ++ WX5 g q20 f21) ++ WX5 g q22 f23)) rfl rfl (List.mem_cons_of_mem _ (List.mem_cons_of_mem _ (List.mem_append.mpr (Or.inr List.mem_cons_self)))) rfl (by decide) (by decide) rfl dX8_init_112 ?_
  refine y_iinc hO (L' := [(1, vI 4), (0, .ref h)]) 0 dX8_init_113 rfl (by decide) rfl ?_
  refine y_goto hO 95 dX8_init_116 (by decide) ?_
  refine y_iload_n hO 0 dX8_init_95 rfl ?_
  refine y_iconst hO dX8_init_96 ?_
  refine y_geT hO 119 dX8_init_97 (by decide) (by decide) ?_
  exact y_ret hO hR dX8_init_119 ⟨(q1, f2, q3, f4, q5, f6, q7, f8, q9, f10, q11, f12, q13, f14, a15, q16, f17, q18, f19, q20, f21, q22, f23), rfl⟩
