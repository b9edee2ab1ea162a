abbrev AT_WX9 : Type := Nat × Nat × Nat × Nat × Nat × Nat × Nat × Nat × Nat × Nat × Nat × Nat × Nat × Nat × Nat × Nat × Nat × Nat × Nat × Nat
abbrev WX9 (g : G) (h : Nat) (u : AT_WX9) : va_W := (h, .inr (8, [.ref u.1, .ref u.2.1, .ref u.2.2.1, vI 0, vI 0, .ref u.2.2.2.1, vI 0, vI 0, vI 0, vI 0, vI 0, vI 0, .ref u.2.2.2.2.1, vI 0, vI 0, vI 0, .ref u.2.2.2.2.2.1, .ref u.2.2.2.2.2.2.1, .ref u.2.2.2.2.2.2.2.1, .ref u.2.2.2.2.2.2.2.2.1, .ref u.2.2.2.2.2.2.2.2.2.1, vI 0, .ref u.2.2.2.2.2.2.2.2.2.2.1, vI 0, vI 0, .ref u.2.2.2.2.2.2.2.2.2.2.2.1, .ref u.2.2.2.2.2.2.2.2.2.2.2.2.1, vI 0, .ref u.2.2.2.2.2.2.2.2.2.2.2.2.2.1, vI 0, .ref u.2.2.2.2.2.2.2.2.2.2.2.2.2.2.1, .ref u.2.2.2.2.2.2.2.2.2.2.2.2.2.2.2.1, vI (-1), .ref u.2.2.2.2.2.2.2.2.2.2.2.2.2.2.2.2.1, .ref u.2.2.2.2.2.2.2.2.2.2.2.2.2.2.2.2.2.1, .ref u.2.2.2.2.2.2.2.2.2.2.2.2.2.2.2.2.2.2.1, .ref u.2.2.2.2.2.2.2.2.2.2.2.2.2.2.2.2.2.2.2])) :: [(u.1, .inl (g.2.2.2 0, 76, .inl (upd (fun _ => Int32.ofInt 0) 3 (Int32.ofInt 1)))), yI g u.2.1 8, yI g u.2.2.1 9, yI g u.2.2.2.1 8, yI g u.2.2.2.2.1 8, yI g u.2.2.2.2.2.1 256, yI g u.2.2.2.2.2.2.1 60, yJ g u.2.2.2.2.2.2.2.1 128, yI g u.2.2.2.2.2.2.2.2.1 128, yI g u.2.2.2.2.2.2.2.2.2.1 8, yI g u.2.2.2.2.2.2.2.2.2.2.1 120, yI g u.2.2.2.2.2.2.2.2.2.2.2.1 72, yI g u.2.2.2.2.2.2.2.2.2.2.2.2.1 10, yI g u.2.2.2.2.2.2.2.2.2.2.2.2.2.1 608, yI g u.2.2.2.2.2.2.2.2.2.2.2.2.2.2.1 76, yI g u.2.2.2.2.2.2.2.2.2.2.2.2.2.2.2.1 608, (u.2.2.2.2.2.2.2.2.2.2.2.2.2.2.2.2.1, .inl (g.2.2.2 0, 4, .inl (upd (upd (upd (upd (fun _ => Int32.ofInt 0) 0 (Int32.ofInt (-1))) 1 (Int32.ofInt (-1))) 2 (Int32.ofInt (-1))) 3 (Int32.ofInt (-1))))), yI g u.2.2.2.2.2.2.2.2.2.2.2.2.2.2.2.2.2.1 4, yJ g u.2.2.2.2.2.2.2.2.2.2.2.2.2.2.2.2.2.2.1 96, yJ g u.2.2.2.2.2.2.2.2.2.2.2.2.2.2.2.2.2.2.2 24]
set_option maxHeartbeats 4000000 in
set_option maxRecDepth 100000 in
theorem t_X9_init {g : G} {h : Nat} : MN g mX9_init [.ref h] [(h, .inr (8, [.null, .null, .null, vI 0, vI 0, .null, vI 0, vI 0, vI 0, vI 0, vI 0, vI 0, .null, vI 0, vI 0, vI 0, .null, .null, .null, .null, .null, vI 0, .null, vI 0, vI 0, .null, .null, vI 0, .null, vI 0, .null, .null, vI 0, .null, .null, .null, .null]))] 20 2311 (fun w => ∃ u : AT_WX9, w = WX9 g h u) := by
  refine mn_of rfl (by decide) rfl rfl rfl (Nat.le_of_ble_eq_true rfl) (fun x hO hI hR => ?_)
  refine y_w (w' := (h, .inr (8, [.null, .null, .null, vI 0, vI 0, .null, vI 0, vI 0, vI 0, vI 0, vI 0, vI 0, .null, vI 0, vI 0, vI 0, .null, .null, .null, .null, .null, vI 0, .null, vI 0, vI 0, .null, .null, vI 0, .null, vI 0, .null, .null, vI 0, .null, .null, .null, .null])) :: []) rfl ?_
  refine y_aload_n hO 0 dX9_init_0 rfl ?_
  refine y_obj hO oi_X9_1 (by decide) dX9_init_1 ?_
  refine y_aload_n hO 0 dX9_init_4 rfl ?_
  refine y_bipush hO dX9_init_5 (by decide) ?_
  refine y_newI hO (M := 76) 76 rfl (by decide) (Nat.le_of_ble_eq_true rfl) (Nat.le_of_ble_eq_true rfl) dX9_init_7 (fun a1 => ?_)
  refine y_app ?_
  refine y_putF hO hI (fs' := [.ref a1, .null, .null, vI 0, vI 0, .null, vI 0, vI 0, vI 0, vI 0, vI 0, vI 0, .null, vI 0, vI 0, vI 0, .null, .null, .null, .null, .null, vI 0, .null, vI 0, vI 0, .null, .null, vI 0, .null, vI 0, .null, .null, vI 0, .null, .null, .null, .null]) fw_X9_7 (Nat.le_of_ble_eq_true rfl) rfl rfl rfl dX9_init_9 ?_
  refine y_aload_n hO 0 dX9_init_12 rfl ?_
  refine y_bipush hO dX9_init_13 (by decide) ?_
  refine y_newI hO (M := 8) 8 rfl (by decide) (Nat.le_of_ble_eq_true rfl) (Nat.le_of_ble_eq_true rfl) dX9_init_15 (fun a2 => ?_)
  refine y_app ?_
  refine y_putF hO hI (fs' := [.ref a1, .ref a2, .null, vI 0, vI 0, .null, vI 0, vI 0, vI 0, vI 0, vI 0, vI 0, .null, vI 0, vI 0, vI 0, .null, .null, .null, .null, .null, vI 0, .null, vI 0, vI 0, .null, .null, vI 0, .null, vI 0, .null, .null, vI 0, .null, .null, .null, .null]) fw_X9_13 (Nat.le_of_ble_eq_true rfl) rfl rfl rfl dX9_init_17 ?_
  refine y_aload_n hO 0 dX9_init_20 rfl ?_
  refine y_bipush hO dX9_init_21 (by decide) ?_
  refine y_newI hO (M := 9) 9 rfl (by decide) (Nat.le_of_ble_eq_true rfl) (Nat.le_of_ble_eq_true rfl) dX9_init_23 (fun a3 => ?_)
  refine y_app ?_
  refine y_putF hO hI (fs' := [.ref a1, .ref a2, .ref a3, vI 0, vI 0, .null, vI 0, vI 0, vI 0, vI 0, vI 0, vI 0, .null, vI 0, vI 0, vI 0, .null, .null, .null, .null, .null, vI 0, .null, vI 0, vI 0, .null, .null, vI 0, .null, vI 0, .null, .null, vI 0, .null, .null, .null, .null]) fw_X9_16 (Nat.le_of_ble_eq_true rfl) rfl rfl rfl dX9_init_25 ?_
  refine y_aload_n hO 0 dX9_init_28 rfl ?_
  refine y_bipush hO dX9_init_29 (by decide) ?_
  refine y_newI hO (M := 8) 8 rfl (by decide) (Nat.le_of_ble_eq_true rfl) (Nat.le_of_ble_eq_true rfl) dX9_init_31 (fun a4 => ?_)
  refine y_app ?_
  refine y_putF hO hI (fs' := [.ref a1, .ref a2, .ref a3, vI 0, vI 0, .ref a4, vI 0, vI 0, vI 0, vI 0, vI 0, vI 0, .null, vI 0, vI 0, vI 0, .null, .null, .null, .null, .null, vI 0, .null, vI 0, vI 0, .null, .null, vI 0, .null, vI 0, .null, .null, vI 0, .null, .null, .null, .null]) fw_X9_19 (Nat.le_of_ble_eq_true rfl) rfl rfl rfl dX9_init_33 ?_
  refine y_aload_n hO 0 dX9_init_36 rfl ?_
  refine y_bipush hO dX9_init_37 (by decide) ?_
  refine y_newI hO (M := 8) 8 rfl (by decide) (Nat.le_of_ble_eq_true rfl) (Nat.le_of_ble_eq_true rfl) dX9_init_39 (fun a5 => ?_)
  refine y_app ?_
  refine y_putF hO hI (fs' := [.ref a1, .ref a2, .ref a3, vI 0, vI 0, .ref a4, vI 0, vI 0, vI 0, vI 0, vI 0, vI 0, .ref a5, vI 0, vI 0, vI 0, .null, .null, .null, .null, .null, vI 0, .null, vI 0, vI 0, .null, .null, vI 0, .null, vI 0, .null, .null, vI 0, .null, .null, .null, .null]) fw_X9_22 (Nat.le_of_ble_eq_true rfl) rfl rfl rfl dX9_init_41 ?_
  refine y_aload_n hO 0 dX9_init_44 rfl ?_
  refine y_sipush hO dX9_init_45 (by decide) ?_
  refine y_newI hO (M := 256) 256 rfl (by decide) (Nat.le_of_ble_eq_true rfl) (Nat.le_of_ble_eq_true rfl) dX9_init_48 (fun a6 => ?_)
  refine y_app ?_
  refine y_putF hO hI (fs' := [.ref a1, .ref a2, .ref a3, vI 0, vI 0, .ref a4, vI 0, vI 0, vI 0, vI 0, vI 0, vI 0, .ref a5, vI 0, vI 0, vI 0, .ref a6, .null, .null, .null, .null, vI 0, .null, vI 0, vI 0, .null, .null, vI 0, .null, vI 0, .null, .null, vI 0, .null, .null, .null, .null]) fw_X9_25 (Nat.le_of_ble_eq_true rfl) rfl rfl rfl dX9_init_50 ?_
  refine y_aload_n hO 0 dX9_init_53 rfl ?_
  refine y_bipush hO dX9_init_54 (by decide) ?_
  refine y_newI hO (M := 60) 60 rfl (by decide) (Nat.le_of_ble_eq_true rfl) (Nat.le_of_ble_eq_true rfl) dX9_init_56 (fun a7 => ?_)
  refine y_app ?_
  refine y_putF hO hI (fs' := [.ref a1, .ref a2, .ref a3, vI 0, vI 0, .ref a4, vI 0, vI 0, vI 0, vI 0, vI 0, vI 0, .ref a5, vI 0, vI 0, vI 0, .ref a6, .ref a7, .null, .null, .null, vI 0, .null, vI 0, vI 0, .null, .null, vI 0, .null, vI 0, .null, .null, vI 0, .null, .null, .null, .null]) fw_X9_28 (Nat.le_of_ble_eq_true rfl) rfl rfl rfl dX9_init_58 ?_
  refine y_aload_n hO 0 dX9_init_61 rfl ?_
  refine y_sipush hO dX9_init_62 (by decide) ?_
  refine y_newJ hO (M := 128) 128 rfl (by decide) (Nat.le_of_ble_eq_true rfl) (Nat.le_of_ble_eq_true rfl) dX9_init_65 (fun a8 => ?_)
  refine y_app ?_
  refine y_putF hO hI (fs' := [.ref a1, .ref a2, .ref a3, vI 0, vI 0, .ref a4, vI 0, vI 0, vI 0, vI 0, vI 0, vI 0, .ref a5, vI 0, vI 0, vI 0, .ref a6, .ref a7, .ref a8, .null, .null, vI 0, .null, vI 0, vI 0, .null, .null, vI 0, .null, vI 0, .null, .null, vI 0, .null, .null, .null, .null]) fw_X9_31 (Nat.le_of_ble_eq_true rfl) rfl rfl rfl dX9_init_67 ?_
  refine y_aload_n hO 0 dX9_init_70 rfl ?_
  refine y_sipush hO dX9_init_71 (by decide) ?_
  refine y_newI hO (M := 128) 128 rfl (by decide) (Nat.le_of_ble_eq_true rfl) (Nat.le_of_ble_eq_true rfl) dX9_init_74 (fun a9 => ?_)
  refine y_app ?_
  refine y_putF hO hI (fs' := [.ref a1, .ref a2, .ref a3, vI 0, vI 0, .ref a4, vI 0, vI 0, vI 0, vI 0, vI 0, vI 0, .ref a5, vI 0, vI 0, vI 0, .ref a6, .ref a7, .ref a8, .ref a9, .null, vI 0, .null, vI 0, vI 0, .null, .null, vI 0, .null, vI 0, .null, .null, vI 0, .null, .null, .null, .null]) fw_X9_35 (Nat.le_of_ble_eq_true rfl) rfl rfl rfl dX9_init_76 ?_
  refine y_aload_n hO 0 dX9_init_79 rfl ?_
  refine y_bipush hO dX9_init_80 (by decide) ?_
  refine y_newI hO (M := 8) 8 rfl (by decide) (Nat.le_of_ble_eq_true rfl) (Nat.le_of_ble_eq_true rfl) dX9_init_82 (fun a10 => ?_)
  refine y_app ?_
  refine y_putF hO hI (fs' := [.ref a1, .ref a2, .ref a3, vI 0, vI 0, .ref a4, vI 0, vI 0, vI 0, vI 0, vI 0, vI 0, .ref a5, vI 0, vI 0, vI 0, .ref a6, .ref a7, .ref a8, .ref a9, .ref a10, vI 0, .null, vI 0, vI 0, .null, .null, vI 0, .null, vI 0, .null, .null, vI 0, .null, .null, .null, .null]) fw_X9_38 (Nat.le_of_ble_eq_true rfl) rfl rfl rfl dX9_init_84 ?_
  refine y_aload_n hO 0 dX9_init_87 rfl ?_
  refine y_bipush hO dX9_init_88 (by decide) ?_
  refine y_newI hO (M := 120) 120 rfl (by decide) (Nat.le_of_ble_eq_true rfl) (Nat.le_of_ble_eq_true rfl) dX9_init_90 (fun a11 => ?_)
  refine y_app ?_
  refine y_putF hO hI (fs' := [.ref a1, .ref a2, .ref a3, vI 0, vI 0, .ref a4, vI 0, vI 0, vI 0, vI 0, vI 0, vI 0, .ref a5, vI 0, vI 0, vI 0, .ref a6, .ref a7, .ref a8, .ref a9, .ref a10, vI 0, .ref a11, vI 0, vI 0, .null, .null, vI 0, .null, vI 0, .null, .null, vI 0, .null, .null, .null, .null]) fw_X9_41 (Nat.le_of_ble_eq_true rfl) rfl rfl rfl dX9_init_92 ?_
  refine y_aload_n hO 0 dX9_init_95 rfl ?_
  refine y_bipush hO dX9_init_96 (by decide) ?_
  refine y_newI hO (M := 72) 72 rfl (by decide) (Nat.le_of_ble_eq_true rfl) (Nat.le_of_ble_eq_true rfl) dX9_init_98 (fun a12 => ?_)
  refine y_app ?_
  refine y_putF hO hI (fs' := [.ref a1, .ref a2, .ref a3, vI 0, vI 0, .ref a4, vI 0, vI 0, vI 0, vI 0, vI 0, vI 0, .ref a5, vI 0, vI 0, vI 0, .ref a6, .ref a7, .ref a8, .ref a9, .ref a10, vI 0, .ref a11, vI 0, vI 0, .ref a12, .null, vI 0, .null, vI 0, .null, .null, vI 0, .null, .null, .null, .null]) fw_X9_44 (Nat.le_of_ble_eq_true rfl) rfl rfl rfl dX9_init_100 ?_
  refine y_aload_n hO 0 dX9_init_103 rfl ?_
  refine y_bipush hO dX9_init_104 (by decide) ?_
  refine y_newI hO (M := 10) 10 rfl (by decide) (Nat.le_of_ble_eq_true rfl) (Nat.le_of_ble_eq_true rfl) dX9_init_106 (fun a13 => ?_)
  refine y_app ?_
  refine y_putF hO hI (fs' := [.ref a1, .ref a2, .ref a3, vI 0, vI 0, .ref a4, vI 0, vI 0, vI 0, vI 0, vI 0, vI 0, .ref a5, vI 0, vI 0, vI 0, .ref a6, .ref a7, .ref a8, .ref a9, .ref a10, vI 0, .ref a11, vI 0, vI 0, .ref a12, .ref a13, vI 0, .null, vI 0, .null, .null, vI 0, .null, .null, .null, .null]) fw_X9_47 (Nat.le_of_ble_eq_true rfl) rfl rfl rfl dX9_init_108 ?_
  refine y_aload_n hO 0 dX9_init_111 rfl ?_
  refine y_sipush hO dX9_init_112 (by decide) ?_
  refine y_newI hO (M := 608) 608 rfl (by decide) (Nat.le_of_ble_eq_true rfl) (Nat.le_of_ble_eq_true rfl) dX9_init_115 (fun a14 => ?_)
  refine y_app ?_
  refine y_putF hO hI (fs' := [.ref a1, .ref a2, .ref a3, vI 0, vI 0, .ref a4, vI 0, vI 0, vI 0, vI 0, vI 0, vI 0, .ref a5, vI 0, vI 0, vI 0, .ref a6, .ref a7, .ref a8, .ref a9, .ref a10, vI 0, .ref a11, vI 0, vI 0, .ref a12, .ref a13, vI 0, .ref a14, vI 0, .null, .null, vI 0, .null, .null, .null, .null]) fw_X9_50 (Nat.le_of_ble_eq_true rfl) rfl rfl rfl dX9_init_117 ?_
  refine y_aload_n hO 0 dX9_init_120 rfl ?_
  refine y_bipush hO dX9_init_121 (by decide) ?_
  refine y_newI hO (M := 76) 76 rfl (by decide) (Nat.le_of_ble_eq_true rfl) (Nat.le_of_ble_eq_true rfl) dX9_init_123 (fun a15 => ?_)
  refine y_app ?_
  refine y_putF hO hI (fs' := [.ref a1, .ref a2, .ref a3, vI 0, vI 0, .ref a4, vI 0, vI 0, vI 0, vI 0, vI 0, vI 0, .ref a5, vI 0, vI 0, vI 0, .ref a6, .ref a7, .ref a8, .ref a9, .ref a10, vI 0, .ref a11, vI 0, vI 0, .ref a12, .ref a13, vI 0, .ref a14, vI 0, .ref a15, .null, vI 0, .null, .null, .null, .null]) fw_X9_53 (Nat.le_of_ble_eq_true rfl) rfl rfl rfl dX9_init_125 ?_
  refine y_aload_n hO 0 dX9_init_128 rfl ?_
  refine y_sipush hO dX9_init_129 (by decide) ?_
  refine y_newI hO (M := 608) 608 rfl (by decide) (Nat.le_of_ble_eq_true rfl) (Nat.le_of_ble_eq_true rfl) dX9_init_132 (fun a16 => ?_)
  refine y_app ?_
  refine y_putF hO hI (fs' := [.ref a1, .ref a2, .ref a3, vI 0, vI 0, .ref a4, vI 0, vI 0, vI 0, vI 0, vI 0, vI 0, .ref a5, vI 0, vI 0, vI 0, .ref a6, .ref a7, .ref a8, .ref a9, .ref a10, vI 0, .ref a11, vI 0, vI 0, .ref a12, .ref a13, vI 0, .ref a14, vI 0, .ref a15, .ref a16, vI 0, .null, .null, .null, .null]) fw_X9_56 (Nat.le_of_ble_eq_true rfl) rfl rfl rfl dX9_init_134 ?_
  refine y_aload_n hO 0 dX9_init_137 rfl ?_
  refine y_iconst hO dX9_init_138 ?_
  refine y_put hO (fs' := [.ref a1, .ref a2, .ref a3, vI 0, vI 0, .ref a4, vI 0, vI 0, vI 0, vI 0, vI 0, vI 0, .ref a5, vI 0, vI 0, vI 0, .ref a6, .ref a7, .ref a8, .ref a9, .ref a10, vI 0, .ref a11, vI 0, vI 0, .ref a12, .ref a13, vI 0, .ref a14, vI 0, .ref a15, .ref a16, vI (-1), .null, .null, .null, .null]) fw_X9_59 (Nat.le_of_ble_eq_true rfl) rfl rfl rfl dX9_init_139 ?_
  refine y_aload_n hO 0 dX9_init_142 rfl ?_
  refine y_iconst hO dX9_init_143 ?_
  refine y_newI hO (M := 4) 4 rfl (by decide) (Nat.le_of_ble_eq_true rfl) (Nat.le_of_ble_eq_true rfl) dX9_init_144 (fun a17 => ?_)
  refine y_app ?_
  refine y_putF hO hI (fs' := [.ref a1, .ref a2, .ref a3, vI 0, vI 0, .ref a4, vI 0, vI 0, vI 0, vI 0, vI 0, vI 0, .ref a5, vI 0, vI 0, vI 0, .ref a6, .ref a7, .ref a8, .ref a9, .ref a10, vI 0, .ref a11, vI 0, vI 0, .ref a12, .ref a13, vI 0, .ref a14, vI 0, .ref a15, .ref a16, vI (-1), .ref a17, .null, .null, .null]) fw_X9_63 (Nat.le_of_ble_eq_true rfl) rfl rfl rfl dX9_init_146 ?_
  refine y_aload_n hO 0 dX9_init_149 rfl ?_
  refine y_iconst hO dX9_init_150 ?_
  refine y_newI hO (M := 4) 4 rfl (by decide) (Nat.le_of_ble_eq_true rfl) (Nat.le_of_ble_eq_true rfl) dX9_init_151 (fun a18 => ?_)
  refine y_app ?_
  refine y_putF hO hI (fs' := [.ref a1, .ref a2, .ref a3, vI 0, vI 0, .ref a4, vI 0, vI 0, vI 0, vI 0, vI 0, vI 0, .ref a5, vI 0, vI 0, vI 0, .ref a6, .ref a7, .ref a8, .ref a9, .ref a10, vI 0, .ref a11, vI 0, vI 0, .ref a12, .ref a13, vI 0, .ref a14, vI 0, .ref a15, .ref a16, vI (-1), .ref a17, .ref a18, .null, .null]) fw_X9_66 (Nat.le_of_ble_eq_true rfl) rfl rfl rfl dX9_init_153 ?_
  refine y_aload_n hO 0 dX9_init_156 rfl ?_
  refine y_bipush hO dX9_init_157 (by decide) ?_
  refine y_newJ hO (M := 96) 96 rfl (by decide) (Nat.le_of_ble_eq_true rfl) (Nat.le_of_ble_eq_true rfl) dX9_init_159 (fun a19 => ?_)
  refine y_app ?_
  refine y_putF hO hI (fs' := [.ref a1, .ref a2, .ref a3, vI 0, vI 0, .ref a4, vI 0, vI 0, vI 0, vI 0, vI 0, vI 0, .ref a5, vI 0, vI 0, vI 0, .ref a6, .ref a7, .ref a8, .ref a9, .ref a10, vI 0, .ref a11, vI 0, vI 0, .ref a12, .ref a13, vI 0, .ref a14, vI 0, .ref a15, .ref a16, vI (-1), .ref a17, .ref a18, .ref a19, .null]) fw_X9_69 (Nat.le_of_ble_eq_true rfl) rfl rfl rfl dX9_init_161 ?_
  refine y_aload_n hO 0 dX9_init_164 rfl ?_
  refine y_bipush hO dX9_init_165 (by decide) ?_
  refine y_newJ hO (M := 24) 24 rfl (by decide) (Nat.le_of_ble_eq_true rfl) (Nat.le_of_ble_eq_true rfl) dX9_init_167 (fun a20 => ?_)
  refine y_app ?_
  refine y_putF hO hI (fs' := [.ref a1, .ref a2, .ref a3, vI 0, vI 0, .ref a4, vI 0, vI 0, vI 0, vI 0, vI 0, vI 0, .ref a5, vI 0, vI 0, vI 0, .ref a6, .ref a7, .ref a8, .ref a9, .ref a10, vI 0, .ref a11, vI 0, vI 0, .ref a12, .ref a13, vI 0, .ref a14, vI 0, .ref a15, .ref a16, vI (-1), .ref a17, .ref a18, .ref a19, .ref a20]) fw_X9_72 (Nat.le_of_ble_eq_true rfl) rfl rfl rfl dX9_init_169 ?_
  refine y_aload_n hO 0 dX9_init_172 rfl ?_
  refine y_get hO fl_X9_7 rfl dX9_init_173 ?_
  refine y_iconst hO dX9_init_176 ?_
  refine y_iconst hO dX9_init_177 ?_
  refine y_w (w' := (h, .inr (8, [.ref a1, .ref a2, .ref a3, vI 0, vI 0, .ref a4, vI 0, vI 0, vI 0, vI 0, vI 0, vI 0, .ref a5, vI 0, vI 0, vI 0, .ref a6, .ref a7, .ref a8, .ref a9, .ref a10, vI 0, .ref a11, vI 0, vI 0, .ref a12, .ref a13, vI 0, .ref a14, vI 0, .ref a15, .ref a16, vI (-1), .ref a17, .ref a18, .ref a19, .ref a20])) :: [yI g a1 76, yI g a2 8, yI g a3 9, yI g a4 8, yI g a5 8, yI g a6 256, yI g a7 60, yJ g a8 128, yI g a9 128, yI g a10 8, yI g a11 120, yI g a12 72, yI g a13 10, yI g a14 608, yI g a15 76, yI g a16 608, yI g a17 4, yI g a18 4, yJ g a19 96, yJ g a20 24]) (by simp only [List.nil_append, List.cons_append]) ?_
  refine y_iast hO 1 (w' := (h, .inr (8, [.ref a1, .ref a2, .ref a3, vI 0, vI 0, .ref a4, vI 0, vI 0, vI 0, vI 0, vI 0, vI 0, .ref a5, vI 0, vI 0, vI 0, .ref a6, .ref a7, .ref a8, .ref a9, .ref a10, vI 0, .ref a11, vI 0, vI 0, .ref a12, .ref a13, vI 0, .ref a14, vI 0, .ref a15, .ref a16, vI (-1), .ref a17, .ref a18, .ref a19, .ref a20])) :: [(a1, .inl (g.2.2.2 0, 76, .inl (upd (fun _ => Int32.ofInt 0) 3 (Int32.ofInt 1)))), yI g a2 8, yI g a3 9, yI g a4 8, yI g a5 8, yI g a6 256, yI g a7 60, yJ g a8 128, yI g a9 128, yI g a10 8, yI g a11 120, yI g a12 72, yI g a13 10, yI g a14 608, yI g a15 76, yI g a16 608, yI g a17 4, yI g a18 4, yJ g a19 96, yJ g a20 24]) rfl (by decide) (by decide) rfl dX9_init_178 ?_
  refine y_iconst hO dX9_init_179 ?_
  refine y_istore_n hO (L' := [(1, vI 0), (0, .ref h)]) dX9_init_180 (by decide) rfl ?_
  refine y_iload_n hO 0 dX9_init_181 rfl ?_
  refine y_iconst hO dX9_init_182 ?_
  refine y_geF hO 199 dX9_init_183 (by decide) (by decide) ?_
  refine y_aload_n hO 1 dX9_init_186 rfl ?_
  refine y_get hO fl_X9_63 rfl dX9_init_187 ?_
  refine y_iload_n hO 0 dX9_init_190 rfl ?_
  refine y_iconst hO dX9_init_191 ?_
  refine y_iast hO 17 (w' := (h, .inr (8, [.ref a1, .ref a2, .ref a3, vI 0, vI 0, .ref a4, vI 0, vI 0, vI 0, vI 0, vI 0, vI 0, .ref a5, vI 0, vI 0, vI 0, .ref a6, .ref a7, .ref a8, .ref a9, .ref a10, vI 0, .ref a11, vI 0, vI 0, .ref a12, .ref a13, vI 0, .ref a14, vI 0, .ref a15, .ref a16, vI (-1), .ref a17, .ref a18, .ref a19, .ref a20])) :: [(a1, .inl (g.2.2.2 0, 76, .inl (upd (fun _ => Int32.ofInt 0) 3 (Int32.ofInt 1)))), yI g a2 8, yI g a3 9, yI g a4 8, yI g a5 8, yI g a6 256, yI g a7 60, yJ g a8 128, yI g a9 128, yI g a10 8, yI g a11 120, yI g a12 72, yI g a13 10, yI g a14 608, yI g a15 76, yI g a16 608, (a17, .inl (g.2.2.2 0, 4, .inl (upd (fun _ => Int32.ofInt 0) 0 (Int32.ofInt (-1))))), yI g a18 4, yJ g a19 96, yJ g a20 24]) rfl (by decide) (by decide) rfl dX9_init_192 ?_
  refine y_iinc hO (L' := [(1, vI 1), (0, .ref h)]) 0 dX9_init_193 rfl (by decide) rfl ?_
  refine y_goto hO 181 dX9_init_196 (by decide) ?_
  refine y_iload_n hO 0 dX9_init_181 rfl ?_
  refine y_iconst hO dX9_init_182 ?_
  refine y_geF hO 199 dX9_init_183 (by decide) (by decide) ?_
  refine y_aload_n hO 1 dX9_init_186 rfl ?_
  refine y_get hO fl_X9_63 rfl dX9_init_187 ?_
  refine y_iload_n hO 0 dX9_init_190 rfl ?_
  refine y_iconst hO dX9_init_191 ?_
  refine y_iast hO 17 (w' := (h, .inr (8, [.ref a1, .ref a2, .ref a3, vI 0, vI 0, .ref a4, vI 0, vI 0, vI 0, vI 0, vI 0, vI 0, .ref a5, vI 0, vI 0, vI 0, .ref a6, .ref a7, .ref a8, .ref a9, .ref a10, vI 0, .ref a11, vI 0, vI 0, .ref a12, .ref a13, vI 0, .ref a14, vI 0, .ref a15, .ref a16, vI (-1), .ref a17, .ref a18, .ref a19, .ref a20])) :: [(a1, .inl (g.2.2.2 0, 76, .inl (upd (fun _ => Int32.ofInt 0) 3 (Int32.ofInt 1)))), yI g a2 8, yI g a3 9, yI g a4 8, yI g a5 8, yI g a6 256, yI g a7 60, yJ g a8 128, yI g a9 128, yI g a10 8, yI g a11 120, yI g a12 72, yI g a13 10, yI g a14 608, yI g a15 76, yI g a16 608, (a17, .inl (g.2.2.2 0, 4, .inl (upd (upd (fun _ => Int32.ofInt 0) 0 (Int32.ofInt (-1))) 1 (Int32.ofInt (-1))))), yI g a18 4, yJ g a19 96, yJ g a20 24]) rfl (by decide) (by decide) rfl dX9_init_192 ?_
  refine y_iinc hO (L' := [(1, vI 2), (0, .ref h)]) 0 dX9_init_193 rfl (by decide) rfl ?_
  refine y_goto hO 181 dX9_init_196 (by decide) ?_
  refine y_iload_n hO 0 dX9_init_181 rfl ?_
  refine y_iconst hO dX9_init_182 ?_
  refine y_geF hO 199 dX9_init_183 (by decide) (by decide) ?_
  refine y_aload_n hO 1 dX9_init_186 rfl ?_
  refine y_get hO fl_X9_63 rfl dX9_init_187 ?_
  refine y_iload_n hO 0 dX9_init_190 rfl ?_
  refine y_iconst hO dX9_init_191 ?_
  refine y_iast hO 17 (w' := (h, .inr (8, [.ref a1, .ref a2, .ref a3, vI 0, vI 0, .ref a4, vI 0, vI 0, vI 0, vI 0, vI 0, vI 0, .ref a5, vI 0, vI 0, vI 0, .ref a6, .ref a7, .ref a8, .ref a9, .ref a10, vI 0, .ref a11, vI 0, vI 0, .ref a12, .ref a13, vI 0, .ref a14, vI 0, .ref a15, .ref a16, vI (-1), .ref a17, .ref a18, .ref a19, .ref a20])) :: [(a1, .inl (g.2.2.2 0, 76, .inl (upd (fun _ => Int32.ofInt 0) 3 (Int32.ofInt 1)))), yI g a2 8, yI g a3 9, yI g a4 8, yI g a5 8, yI g a6 256, yI g a7 60, yJ g a8 128, yI g a9 128, yI g a10 8, yI g a11 120, yI g a12 72, yI g a13 10, yI g a14 608, yI g a15 76, yI g a16 608, (a17, .inl (g.2.2.2 0, 4, .inl (upd (upd (upd (fun _ => Int32.ofInt 0) 0 (Int32.ofInt (-1))) 1 (Int32.ofInt (-1))) 2 (Int32.ofInt (-1))))), yI g a18 4, yJ g a19 96, yJ g a20 24]) rfl (by decide) (by decide) rfl dX9_init_192 ?_
  refine y_iinc hO (L' := [(1, vI 3), (0, .ref h)]) 0 dX9_init_193 rfl (by decide) rfl ?_
  refine y_goto hO 181 dX9_init_196 (by decide) ?_
  refine y_iload_n hO 0 dX9_init_181 rfl ?_
  refine y_iconst hO dX9_init_182 ?_
  refine y_geF hO 199 dX9_init_183 (by decide) (by decide) ?_
  refine y_aload_n hO 1 dX9_init_186 rfl ?_
  refine y_get hO fl_X9_63 rfl dX9_init_187 ?_
  refine y_iload_n hO 0 dX9_init_190 rfl ?_
  refine y_iconst hO dX9_init_191 ?_
  refine y_iast hO 17 (w' := (h, .inr (8, [.ref a1, .ref a2, .ref a3, vI 0, vI 0, .ref a4, vI 0, vI 0, vI 0, vI 0, vI 0, vI 0, .ref a5, vI 0, vI 0, vI 0, .ref a6, .ref a7, .ref a8, .ref a9, .ref a10, vI 0, .ref a11, vI 0, vI 0, .ref a12, .ref a13, vI 0, .ref a14, vI 0, .ref a15, .ref a16, vI (-1), .ref a17, .ref a18, .ref a19, .ref a20])) :: [(a1, .inl (g.2.2.2 0, 76, .inl (upd (fun _ => Int32.ofInt 0) 3 (Int32.ofInt 1)))), yI g a2 8, yI g a3 9, yI g a4 8, yI g a5 8, yI g a6 256, yI g a7 60, yJ g a8 128, yI g a9 128, yI g a10 8, yI g a11 120, yI g a12 72, yI g a13 10, yI g a14 608, yI g a15 76, yI g a16 608, (a17, .inl (g.2.2.2 0, 4, .inl (upd (upd (upd (upd (fun _ => Int32.ofInt 0) 0 (Int32.ofInt (-1))) 1 (Int32.ofInt (-1))) 2 (Int32.ofInt (-1))) 3 (Int32.ofInt (-1))))), yI g a18 4, yJ g a19 96, yJ g a20 24]) rfl (by decide) (by decide) rfl dX9_init_192 ?_
  refine y_iinc hO (L' := [(1, vI 4), (0, .ref h)]) 0 dX9_init_193 rfl (by decide) rfl ?_
  refine y_goto hO 181 dX9_init_196 (by decide) ?_
  refine y_iload_n hO 0 dX9_init_181 rfl ?_
  refine y_iconst hO dX9_init_182 ?_
  refine y_geT hO 199 dX9_init_183 (by decide) (by decide) ?_
  exact y_ret hO hR dX9_init_199 ⟨(a1, a2, a3, a4, a5, a6, a7, a8, a9, a10, a11, a12, a13, a14, a15, a16, a17, a18, a19, a20), rfl⟩
