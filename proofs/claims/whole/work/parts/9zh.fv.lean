/-! ===== the constructors ===== -/
abbrev yI (g : G) (a m : Nat) : Nat × va_E := (a, .inl (g.2.2.2 0, m, .inl (fun _ => Int32.ofInt 0)))
abbrev yC (g : G) (a m : Nat) : Nat × va_E := (a, .inl (g.2.2.2 1, m, .inl (fun _ => Int32.ofInt 0)))
abbrev yJ (g : G) (a m : Nat) : Nat × va_E := (a, .inl (g.2.2.2 2, m, .inr (.inl (fun _ => Int64.ofInt 0))))
abbrev yQ (g : G) (t a m : Nat) (f : Nat → Option Nat) : Nat × va_E := (a, .inl (g.2.2.2 (3 + t), m, .inr (.inr (.inr (.inr f)))))
theorem y_w {g : G} {x : Cx} {nL pc k n : Nat} {L : List (Nat × Value)} {S : List Value} {w w' : va_W} (e : w = w') (k0 : Y g x nL pc L S w' k n) : Y g x nL pc L S w k n := e ▸ k0
theorem y_app {g : G} {x : Cx} {nL pc k n : Nat} {L : List (Nat × Value)} {S : List Value} {c : Nat × va_E} {w u : va_W} (k0 : Y g x nL pc L S (c :: (w ++ u)) k n) : Y g x nL pc L S (c :: w ++ u) k n := k0
abbrev AT_WX2 : Type := Nat × Nat × Nat
abbrev WX2 (g : G) (h : Nat) (u : AT_WX2) : va_W := (h, .inr (1, [.ref u.1, .ref u.2.1, .ref u.2.2, vI 0, vI 0, vI 0, vI 1])) :: ((([] ++ [yI g u.1 8]) ++ [yI g u.2.1 32]) ++ [yI g u.2.2 32])
set_option maxHeartbeats 4000000 in
set_option maxRecDepth 100000 in
theorem t_X2_init {g : G} {h : Nat} : MN g mX2_init [.ref h] [(h, .inr (1, [.null, .null, .null, vI 0, vI 0, vI 0, vI 0]))] 3 72 (fun w => ∃ u : AT_WX2, w = WX2 g h u) := by
  refine mn_of rfl (by decide) rfl rfl rfl (Nat.le_of_ble_eq_true rfl) (fun x hO hI hR => ?_)
  refine y_w (w' := (h, .inr (1, [.null, .null, .null, vI 0, vI 0, vI 0, vI 0])) :: []) rfl ?_
  refine y_aload_n hO 0 dX2_init_0 rfl ?_
  refine y_obj hO oi_X2_3 (by decide) dX2_init_1 ?_
  refine y_aload_n hO 0 dX2_init_4 rfl ?_
  refine y_bipush hO dX2_init_5 (by decide) ?_
  refine y_newI hO (M := 8) 8 rfl (by decide) (Nat.le_of_ble_eq_true rfl) (Nat.le_of_ble_eq_true rfl) dX2_init_7 (fun a1 => ?_)
  refine y_app ?_
  refine y_putF hO hI (fs' := [.ref a1, .null, .null, vI 0, vI 0, vI 0, vI 0]) fw_X2_9 (Nat.le_of_ble_eq_true rfl) rfl rfl rfl dX2_init_9 ?_
  refine y_aload_n hO 0 dX2_init_12 rfl ?_
  refine y_bipush hO dX2_init_13 (by decide) ?_
  refine y_newI hO (M := 32) 32 rfl (by decide) (Nat.le_of_ble_eq_true rfl) (Nat.le_of_ble_eq_true rfl) dX2_init_15 (fun a2 => ?_)
  refine y_app ?_
  refine y_putF hO hI (fs' := [.ref a1, .ref a2, .null, vI 0, vI 0, vI 0, vI 0]) fw_X2_15 (Nat.le_of_ble_eq_true rfl) rfl rfl rfl dX2_init_17 ?_
  refine y_aload_n hO 0 dX2_init_20 rfl ?_
  refine y_bipush hO dX2_init_21 (by decide) ?_
  refine y_newI hO (M := 32) 32 rfl (by decide) (Nat.le_of_ble_eq_true rfl) (Nat.le_of_ble_eq_true rfl) dX2_init_23 (fun a3 => ?_)
  refine y_app ?_
  refine y_putF hO hI (fs' := [.ref a1, .ref a2, .ref a3, vI 0, vI 0, vI 0, vI 0]) fw_X2_18 (Nat.le_of_ble_eq_true rfl) rfl rfl rfl dX2_init_25 ?_
  refine y_aload_n hO 0 dX2_init_28 rfl ?_
  refine y_iconst hO dX2_init_29 ?_
  refine y_put hO (fs' := [.ref a1, .ref a2, .ref a3, vI 0, vI 0, vI 0, vI 1]) fw_X2_21 (Nat.le_of_ble_eq_true rfl) rfl rfl rfl dX2_init_30 ?_
  exact y_ret hO hR dX2_init_33 ⟨(a1, a2, a3), rfl⟩
abbrev AT_WX4 : Type := Nat
abbrev WX4 (g : G) (h : Nat) (u : AT_WX4) : va_W := (h, .inr (3, [.ref u, vI 0, vI 0])) :: ([] ++ [yC g u 120])
set_option maxHeartbeats 4000000 in
set_option maxRecDepth 100000 in
theorem t_X4_init {g : G} {h : Nat} : MN g mX4_init [.ref h] [(h, .inr (3, [.null, vI 0, vI 0]))] 1 120 (fun w => ∃ u : AT_WX4, w = WX4 g h u) := by
  refine mn_of rfl (by decide) rfl rfl rfl (Nat.le_of_ble_eq_true rfl) (fun x hO hI hR => ?_)
  refine y_w (w' := (h, .inr (3, [.null, vI 0, vI 0])) :: []) rfl ?_
  refine y_aload_n hO 0 dX4_init_0 rfl ?_
  refine y_obj hO oi_X4_3 (by decide) dX4_init_1 ?_
  refine y_aload_n hO 0 dX4_init_4 rfl ?_
  refine y_bipush hO dX4_init_5 (by decide) ?_
  refine y_newC hO (M := 120) 120 rfl (by decide) (Nat.le_of_ble_eq_true rfl) (Nat.le_of_ble_eq_true rfl) dX4_init_7 (fun a1 => ?_)
  refine y_app ?_
  refine y_putF hO hI (fs' := [.ref a1, vI 0, vI 0]) fw_X4_9 (Nat.le_of_ble_eq_true rfl) rfl rfl rfl dX4_init_9 ?_
  exact y_ret hO hR dX4_init_12 ⟨a1, rfl⟩
abbrev AT_WX5 : Type := Nat
abbrev WX5 (g : G) (h : Nat) (u : AT_WX5) : va_W := (h, .inr (4, [.ref u, vI (-1), vI 0])) :: ([] ++ [yJ g u 24])
set_option maxHeartbeats 4000000 in
set_option maxRecDepth 100000 in
theorem t_X5_init {g : G} {h : Nat} : MN g mX5_init [.ref h] [(h, .inr (4, [.null, vI 0, vI 0]))] 1 24 (fun w => ∃ u : AT_WX5, w = WX5 g h u) := by
  refine mn_of rfl (by decide) rfl rfl rfl (Nat.le_of_ble_eq_true rfl) (fun x hO hI hR => ?_)
  refine y_w (w' := (h, .inr (4, [.null, vI 0, vI 0])) :: []) rfl ?_
  refine y_aload_n hO 0 dX5_init_0 rfl ?_
  refine y_obj hO oi_X5_3 (by decide) dX5_init_1 ?_
  refine y_aload_n hO 0 dX5_init_4 rfl ?_
  refine y_bipush hO dX5_init_5 (by decide) ?_
  refine y_newJ hO (M := 24) 24 rfl (by decide) (Nat.le_of_ble_eq_true rfl) (Nat.le_of_ble_eq_true rfl) dX5_init_7 (fun a1 => ?_)
  refine y_app ?_
  refine y_putF hO hI (fs' := [.ref a1, vI 0, vI 0]) fw_X5_9 (Nat.le_of_ble_eq_true rfl) rfl rfl rfl dX5_init_9 ?_
  refine y_aload_n hO 0 dX5_init_12 rfl ?_
  refine y_iconst hO dX5_init_13 ?_
  refine y_put hO (fs' := [.ref a1, vI (-1), vI 0]) fw_X5_15 (Nat.le_of_ble_eq_true rfl) rfl rfl rfl dX5_init_14 ?_
  exact y_ret hO hR dX5_init_17 ⟨a1, rfl⟩
abbrev AT_WX1 : Type := Nat × Nat × Nat × Nat × Nat × Nat
abbrev WX1 (g : G) (h : Nat) (u : AT_WX1) : va_W := (h, .inr (0, [vI 0, vI 0, .ref u.1, .ref u.2.1, .ref u.2.2.1, .ref u.2.2.2.1, .ref u.2.2.2.2.1, .ref u.2.2.2.2.2])) :: (((((([] ++ [yI g u.1 32]) ++ [yI g u.2.1 60]) ++ [yI g u.2.2.1 60]) ++ [yI g u.2.2.2.1 240]) ++ [yJ g u.2.2.2.2.1 32]) ++ [yI g u.2.2.2.2.2 32])
set_option maxHeartbeats 4000000 in
set_option maxRecDepth 100000 in
theorem t_X1_init {g : G} {h : Nat} : MN g mX1_init [.ref h] [(h, .inr (0, [vI 0, vI 0, .null, .null, .null, .null, .null, .null]))] 6 456 (fun w => ∃ u : AT_WX1, w = WX1 g h u) := by
  refine mn_of rfl (by decide) rfl rfl rfl (Nat.le_of_ble_eq_true rfl) (fun x hO hI hR => ?_)
  refine y_w (w' := (h, .inr (0, [vI 0, vI 0, .null, .null, .null, .null, .null, .null])) :: []) rfl ?_
  refine y_aload_n hO 0 dX1_init_0 rfl ?_
  refine y_obj hO oi_X1_3 (by decide) dX1_init_1 ?_
  refine y_aload_n hO 0 dX1_init_4 rfl ?_
  refine y_bipush hO dX1_init_5 (by decide) ?_
  refine y_newI hO (M := 32) 32 rfl (by decide) (Nat.le_of_ble_eq_true rfl) (Nat.le_of_ble_eq_true rfl) dX1_init_7 (fun a1 => ?_)
  refine y_app ?_
  refine y_putF hO hI (fs' := [vI 0, vI 0, .ref a1, .null, .null, .null, .null, .null]) fw_X1_9 (Nat.le_of_ble_eq_true rfl) rfl rfl rfl dX1_init_9 ?_
  refine y_aload_n hO 0 dX1_init_12 rfl ?_
  refine y_bipush hO dX1_init_13 (by decide) ?_
  refine y_newI hO (M := 60) 60 rfl (by decide) (Nat.le_of_ble_eq_true rfl) (Nat.le_of_ble_eq_true rfl) dX1_init_15 (fun a2 => ?_)
  refine y_app ?_
  refine y_putF hO hI (fs' := [vI 0, vI 0, .ref a1, .ref a2, .null, .null, .null, .null]) fw_X1_15 (Nat.le_of_ble_eq_true rfl) rfl rfl rfl dX1_init_17 ?_
  refine y_aload_n hO 0 dX1_init_20 rfl ?_
  refine y_bipush hO dX1_init_21 (by decide) ?_
  refine y_newI hO (M := 60) 60 rfl (by decide) (Nat.le_of_ble_eq_true rfl) (Nat.le_of_ble_eq_true rfl) dX1_init_23 (fun a3 => ?_)
  refine y_app ?_
  refine y_putF hO hI (fs' := [vI 0, vI 0, .ref a1, .ref a2, .ref a3, .null, .null, .null]) fw_X1_18 (Nat.le_of_ble_eq_true rfl) rfl rfl rfl dX1_init_25 ?_
  refine y_aload_n hO 0 dX1_init_28 rfl ?_
  refine y_sipush hO dX1_init_29 (by decide) ?_
  refine y_newI hO (M := 240) 240 rfl (by decide) (Nat.le_of_ble_eq_true rfl) (Nat.le_of_ble_eq_true rfl) dX1_init_32 (fun a4 => ?_)
  refine y_app ?_
  refine y_putF hO hI (fs' := [vI 0, vI 0, .ref a1, .ref a2, .ref a3, .ref a4, .null, .null]) fw_X1_21 (Nat.le_of_ble_eq_true rfl) rfl rfl rfl dX1_init_34 ?_
  refine y_aload_n hO 0 dX1_init_37 rfl ?_
  refine y_bipush hO dX1_init_38 (by decide) ?_
  refine y_newJ hO (M := 32) 32 rfl (by decide) (Nat.le_of_ble_eq_true rfl) (Nat.le_of_ble_eq_true rfl) dX1_init_40 (fun a5 => ?_)
  refine y_app ?_
  refine y_putF hO hI (fs' := [vI 0, vI 0, .ref a1, .ref a2, .ref a3, .ref a4, .ref a5, .null]) fw_X1_24 (Nat.le_of_ble_eq_true rfl) rfl rfl rfl dX1_init_42 ?_
  refine y_aload_n hO 0 dX1_init_45 rfl ?_
  refine y_bipush hO dX1_init_46 (by decide) ?_
  refine y_newI hO (M := 32) 32 rfl (by decide) (Nat.le_of_ble_eq_true rfl) (Nat.le_of_ble_eq_true rfl) dX1_init_48 (fun a6 => ?_)
  refine y_app ?_
  refine y_putF hO hI (fs' := [vI 0, vI 0, .ref a1, .ref a2, .ref a3, .ref a4, .ref a5, .ref a6]) fw_X1_28 (Nat.le_of_ble_eq_true rfl) rfl rfl rfl dX1_init_50 ?_
  exact y_ret hO hR dX1_init_53 ⟨(a1, a2, a3, a4, a5, a6), rfl⟩
abbrev AT_WX7 : Type := Nat × Nat × Nat × Nat × Nat × Nat × Nat × Nat
abbrev WX7 (g : G) (h : Nat) (v : Nat) (u : AT_WX7) : va_W := (h, .inr (6, [.ref v, .ref u.1, .ref u.2.1, .ref u.2.2.1, .ref u.2.2.2.1, .ref u.2.2.2.2.1, .ref u.2.2.2.2.2.1, .ref u.2.2.2.2.2.2.1, vI 0, .ref u.2.2.2.2.2.2.2, vI 0, vI 0, vL 0])) :: (((((((([] ++ [yI g u.1 9]) ++ [yI g u.2.1 9]) ++ [yI g u.2.2.1 9]) ++ [yI g u.2.2.2.1 9]) ++ [yI g u.2.2.2.2.1 9]) ++ [yI g u.2.2.2.2.2.1 9]) ++ [yJ g u.2.2.2.2.2.2.1 9]) ++ [yI g u.2.2.2.2.2.2.2 4])
set_option maxHeartbeats 4000000 in
set_option maxRecDepth 100000 in
theorem t_X7_init {g : G} {h v : Nat} : MN g mX7_init [.ref h, .ref v] [(h, .inr (6, [.null, .null, .null, .null, .null, .null, .null, .null, vI 0, .null, vI 0, vI 0, vL 0]))] 8 67 (fun w => ∃ u : AT_WX7, w = WX7 g h v u) := by
  refine mn_of rfl (by decide) rfl rfl rfl (Nat.le_of_ble_eq_true rfl) (fun x hO hI hR => ?_)
  refine y_w (w' := (h, .inr (6, [.null, .null, .null, .null, .null, .null, .null, .null, vI 0, .null, vI 0, vI 0, vL 0])) :: []) rfl ?_
  refine y_aload_n hO 0 dX7_init_0 rfl ?_
  refine y_obj hO oi_X7_3 (by decide) dX7_init_1 ?_
  refine y_aload_n hO 0 dX7_init_4 rfl ?_
  refine y_bipush hO dX7_init_5 (by decide) ?_
  refine y_newI hO (M := 9) 9 rfl (by decide) (Nat.le_of_ble_eq_true rfl) (Nat.le_of_ble_eq_true rfl) dX7_init_7 (fun a1 => ?_)
  refine y_app ?_
  refine y_putF hO hI (fs' := [.null, .ref a1, .null, .null, .null, .null, .null, .null, vI 0, .null, vI 0, vI 0, vL 0]) fw_X7_9 (Nat.le_of_ble_eq_true rfl) rfl rfl rfl dX7_init_9 ?_
  refine y_aload_n hO 0 dX7_init_12 rfl ?_
  refine y_bipush hO dX7_init_13 (by decide) ?_
  refine y_newI hO (M := 9) 9 rfl (by decide) (Nat.le_of_ble_eq_true rfl) (Nat.le_of_ble_eq_true rfl) dX7_init_15 (fun a2 => ?_)
  refine y_app ?_
  refine y_putF hO hI (fs' := [.null, .ref a1, .ref a2, .null, .null, .null, .null, .null, vI 0, .null, vI 0, vI 0, vL 0]) fw_X7_15 (Nat.le_of_ble_eq_true rfl) rfl rfl rfl dX7_init_17 ?_
  refine y_aload_n hO 0 dX7_init_20 rfl ?_
  refine y_bipush hO dX7_init_21 (by decide) ?_
  refine y_newI hO (M := 9) 9 rfl (by decide) (Nat.le_of_ble_eq_true rfl) (Nat.le_of_ble_eq_true rfl) dX7_init_23 (fun a3 => ?_)
  refine y_app ?_
  refine y_putF hO hI (fs' := [.null, .ref a1, .ref a2, .ref a3, .null, .null, .null, .null, vI 0, .null, vI 0, vI 0, vL 0]) fw_X7_18 (Nat.le_of_ble_eq_true rfl) rfl rfl rfl dX7_init_25 ?_
  refine y_aload_n hO 0 dX7_init_28 rfl ?_
  refine y_bipush hO dX7_init_29 (by decide) ?_
  refine y_newI hO (M := 9) 9 rfl (by decide) (Nat.le_of_ble_eq_true rfl) (Nat.le_of_ble_eq_true rfl) dX7_init_31 (fun a4 => ?_)
  refine y_app ?_
  refine y_putF hO hI (fs' := [.null, .ref a1, .ref a2, .ref a3, .ref a4, .null, .null, .null, vI 0, .null, vI 0, vI 0, vL 0]) fw_X7_21 (Nat.le_of_ble_eq_true rfl) rfl rfl rfl dX7_init_33 ?_
  refine y_aload_n hO 0 dX7_init_36 rfl ?_
  refine y_bipush hO dX7_init_37 (by decide) ?_
  refine y_newI hO (M := 9) 9 rfl (by decide) (Nat.le_of_ble_eq_true rfl) (Nat.le_of_ble_eq_true rfl) dX7_init_39 (fun a5 => ?_)
  refine y_app ?_
  refine y_putF hO hI (fs' := [.null, .ref a1, .ref a2, .ref a3, .ref a4, .ref a5, .null, .null, vI 0, .null, vI 0, vI 0, vL 0]) fw_X7_24 (Nat.le_of_ble_eq_true rfl) rfl rfl rfl dX7_init_41 ?_
  refine y_aload_n hO 0 dX7_init_44 rfl ?_
  refine y_bipush hO dX7_init_45 (by decide) ?_
  refine y_newI hO (M := 9) 9 rfl (by decide) (Nat.le_of_ble_eq_true rfl) (Nat.le_of_ble_eq_true rfl) dX7_init_47 (fun a6 => ?_)
  refine y_app ?_
  refine y_putF hO hI (fs' := [.null, .ref a1, .ref a2, .ref a3, .ref a4, .ref a5, .ref a6, .null, vI 0, .null, vI 0, vI 0, vL 0]) fw_X7_27 (Nat.le_of_ble_eq_true rfl) rfl rfl rfl dX7_init_49 ?_
  refine y_aload_n hO 0 dX7_init_52 rfl ?_
  refine y_bipush hO dX7_init_53 (by decide) ?_
  refine y_newJ hO (M := 9) 9 rfl (by decide) (Nat.le_of_ble_eq_true rfl) (Nat.le_of_ble_eq_true rfl) dX7_init_55 (fun a7 => ?_)
  refine y_app ?_
  refine y_putF hO hI (fs' := [.null, .ref a1, .ref a2, .ref a3, .ref a4, .ref a5, .ref a6, .ref a7, vI 0, .null, vI 0, vI 0, vL 0]) fw_X7_30 (Nat.le_of_ble_eq_true rfl) rfl rfl rfl dX7_init_57 ?_
  refine y_aload_n hO 0 dX7_init_60 rfl ?_
  refine y_iconst hO dX7_init_61 ?_
  refine y_newI hO (M := 4) 4 rfl (by decide) (Nat.le_of_ble_eq_true rfl) (Nat.le_of_ble_eq_true rfl) dX7_init_62 (fun a8 => ?_)
  refine y_app ?_
  refine y_putF hO hI (fs' := [.null, .ref a1, .ref a2, .ref a3, .ref a4, .ref a5, .ref a6, .ref a7, vI 0, .ref a8, vI 0, vI 0, vL 0]) fw_X7_34 (Nat.le_of_ble_eq_true rfl) rfl rfl rfl dX7_init_64 ?_
  refine y_aload_n hO 0 dX7_init_67 rfl ?_
  refine y_aload_n hO 1 dX7_init_68 rfl ?_
  refine y_putF hO hI (fs' := [.ref v, .ref a1, .ref a2, .ref a3, .ref a4, .ref a5, .ref a6, .ref a7, vI 0, .ref a8, vI 0, vI 0, vL 0]) fw_X7_37 (Nat.le_of_ble_eq_true rfl) rfl rfl rfl dX7_init_69 ?_
  exact y_ret hO hR dX7_init_72 ⟨(a1, a2, a3, a4, a5, a6, a7, a8), rfl⟩
