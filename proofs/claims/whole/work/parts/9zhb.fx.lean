abbrev AT_WX6 : Type := Nat × AT_WX1 × Nat × Nat × Nat × Nat × Nat × AT_WX7
abbrev WX6 (g : G) (h : Nat) (v : Nat) (u : AT_WX6) : va_W := (h, .inr (5, [.ref v, .ref u.2.2.2.2.2.2.1, .ref u.1, vI 0, vI 0, vI 0, vI 0, vI 0, vI 0, .ref u.2.2.1, .ref u.2.2.2.1, .ref u.2.2.2.2.1, .ref u.2.2.2.2.2.1, vI 0, vI 0, vL 0, vL 0])) :: (((((([] ++ WX1 g u.1 u.2.1) ++ [yI g u.2.2.1 4]) ++ [yI g u.2.2.2.1 8]) ++ [yI g u.2.2.2.2.1 8]) ++ [yI g u.2.2.2.2.2.1 5]) ++ WX7 g u.2.2.2.2.2.2.1 v u.2.2.2.2.2.2.2)
set_option maxHeartbeats 4000000 in
set_option maxRecDepth 100000 in
theorem t_X6_init {g : G} {h v : Nat} : MN g mX6_init [.ref h, .ref v] [(h, .inr (5, [.null, .null, .null, vI 0, vI 0, vI 0, vI 0, vI 0, vI 0, .null, .null, .null, .null, vI 0, vI 0, vL 0, vL 0]))] 20 569 (fun w => ∃ u : AT_WX6, w = WX6 g h v u) := by
  refine mn_of rfl (by decide) rfl rfl rfl (Nat.le_of_ble_eq_true rfl) (fun x hO hI hR => ?_)
  refine y_w (w' := (h, .inr (5, [.null, .null, .null, vI 0, vI 0, vI 0, vI 0, vI 0, vI 0, .null, .null, .null, .null, vI 0, vI 0, vL 0, vL 0])) :: []) rfl ?_
  refine y_aload_n hO 0 dX6_init_0 rfl ?_
  refine y_obj hO oi_X6_3 (by decide) dX6_init_1 ?_
  refine y_aload_n hO 0 dX6_init_4 rfl ?_
  refine y_new hO nw_X6_9 [vI 0, vI 0, .null, .null, .null, .null, .null, .null] (by decide) (Nat.le_of_ble_eq_true rfl) (Nat.le_of_ble_eq_true rfl) dX6_init_5 (fun q1 => ?_)
  refine y_dup hO dX6_init_8 rfl ?_
  refine y_ctor hO (S := [.ref q1, .ref h]) (t_X1_init (h := q1)) cn_X6_11 rfl rfl (by decide) (Nat.le_of_ble_eq_true rfl) (Nat.le_of_ble_eq_true rfl) (Nat.le_of_ble_eq_true rfl) dX6_init_9 (fun wf2 hf2 => ?_)
  obtain ⟨f2, ef2⟩ := hf2
  rw [ef2]
  refine y_w (w' := (h, .inr (5, [.null, .null, .null, vI 0, vI 0, vI 0, vI 0, vI 0, vI 0, .null, .null, .null, .null, vI 0, vI 0, vL 0, vL 0])) :: ([] ++ WX1 g q1 f2)) rfl ?_
  refine y_putF hO hI (fs' := [.null, .null, .ref q1, vI 0, vI 0, vI 0, vI 0, vI 0, vI 0, .null, .null, .null, .null, vI 0, vI 0, vL 0, vL 0]) fw_X6_12 (Nat.le_of_ble_eq_true rfl) rfl rfl rfl dX6_init_12 ?_
  refine y_aload_n hO 0 dX6_init_15 rfl ?_
  refine y_iconst hO dX6_init_16 ?_
  refine y_newI hO (M := 4) 4 rfl (by decide) (Nat.le_of_ble_eq_true rfl) (Nat.le_of_ble_eq_true rfl) dX6_init_17 (fun a3 => ?_)
  refine y_app ?_
  refine y_putF hO hI (fs' := [.null, .null, .ref q1, vI 0, vI 0, vI 0, vI 0, vI 0, vI 0, .ref a3, .null, .null, .null, vI 0, vI 0, vL 0, vL 0]) fw_X6_18 (Nat.le_of_ble_eq_true rfl) rfl rfl rfl dX6_init_19 ?_
  refine y_aload_n hO 0 dX6_init_22 rfl ?_
  refine y_bipush hO dX6_init_23 (by decide) ?_
  refine y_newI hO (M := 8) 8 rfl (by decide) (Nat.le_of_ble_eq_true rfl) (Nat.le_of_ble_eq_true rfl) dX6_init_25 (fun a4 => ?_)
  refine y_app ?_
  refine y_putF hO hI (fs' := [.null, .null, .ref q1, vI 0, vI 0, vI 0, vI 0, vI 0, vI 0, .ref a3, .ref a4, .null, .null, vI 0, vI 0, vL 0, vL 0]) fw_X6_22 (Nat.le_of_ble_eq_true rfl) rfl rfl rfl dX6_init_27 ?_
  refine y_aload_n hO 0 dX6_init_30 rfl ?_
  refine y_bipush hO dX6_init_31 (by decide) ?_
  refine y_newI hO (M := 8) 8 rfl (by decide) (Nat.le_of_ble_eq_true rfl) (Nat.le_of_ble_eq_true rfl) dX6_init_33 (fun a5 => ?_)
  refine y_app ?_
  refine y_putF hO hI (fs' := [.null, .null, .ref q1, vI 0, vI 0, vI 0, vI 0, vI 0, vI 0, .ref a3, .ref a4, .ref a5, .null, vI 0, vI 0, vL 0, vL 0]) fw_X6_25 (Nat.le_of_ble_eq_true rfl) rfl rfl rfl dX6_init_35 ?_
  refine y_aload_n hO 0 dX6_init_38 rfl ?_
  refine y_iconst hO dX6_init_39 ?_
  refine y_newI hO (M := 5) 5 rfl (by decide) (Nat.le_of_ble_eq_true rfl) (Nat.le_of_ble_eq_true rfl) dX6_init_40 (fun a6 => ?_)
  refine y_app ?_
  refine y_putF hO hI (fs' := [.null, .null, .ref q1, vI 0, vI 0, vI 0, vI 0, vI 0, vI 0, .ref a3, .ref a4, .ref a5, .ref a6, vI 0, vI 0, vL 0, vL 0]) fw_X6_28 (Nat.le_of_ble_eq_true rfl) rfl rfl rfl dX6_init_42 ?_
  refine y_aload_n hO 0 dX6_init_45 rfl ?_
  refine y_aload_n hO 1 dX6_init_46 rfl ?_
  refine y_putF hO hI (fs' := [.ref v, .null, .ref q1, vI 0, vI 0, vI 0, vI 0, vI 0, vI 0, .ref a3, .ref a4, .ref a5, .ref a6, vI 0, vI 0, vL 0, vL 0]) fw_X6_31 (Nat.le_of_ble_eq_true rfl) rfl rfl rfl dX6_init_47 ?_
  refine y_aload_n hO 0 dX6_init_50 rfl ?_
  refine y_new hO nw_X6_35 [.null, .null, .null, .null, .null, .null, .null, .null, vI 0, .null, vI 0, vI 0, vL 0] (by decide) (Nat.le_of_ble_eq_true rfl) (Nat.le_of_ble_eq_true rfl) dX6_init_51 (fun q7 => ?_)
  refine y_dup hO dX6_init_54 rfl ?_
  refine y_aload_n hO 1 dX6_init_55 rfl ?_
  refine y_ctor hO (S := [.ref q7, .ref h]) (t_X7_init (h := q7) (v := v)) cn_X6_37 rfl rfl (by decide) (Nat.le_of_ble_eq_true rfl) (Nat.le_of_ble_eq_true rfl) (Nat.le_of_ble_eq_true rfl) dX6_init_56 (fun wf8 hf8 => ?_)
  obtain ⟨f8, ef8⟩ := hf8
  rw [ef8]
  refine y_w (w' := (h, .inr (5, [.ref v, .null, .ref q1, vI 0, vI 0, vI 0, vI 0, vI 0, vI 0, .ref a3, .ref a4, .ref a5, .ref a6, vI 0, vI 0, vL 0, vL 0])) :: (((((([] ++ WX1 g q1 f2) ++ [yI g a3 4]) ++ [yI g a4 8]) ++ [yI g a5 8]) ++ [yI g a6 5]) ++ WX7 g q7 v f8)) rfl ?_
  refine y_putF hO hI (fs' := [.ref v, .ref q7, .ref q1, vI 0, vI 0, vI 0, vI 0, vI 0, vI 0, .ref a3, .ref a4, .ref a5, .ref a6, vI 0, vI 0, vL 0, vL 0]) fw_X6_40 (Nat.le_of_ble_eq_true rfl) rfl rfl rfl dX6_init_59 ?_
  exact y_ret hO hR dX6_init_62 ⟨(q1, f2, a3, a4, a5, a6, q7, f8), rfl⟩
