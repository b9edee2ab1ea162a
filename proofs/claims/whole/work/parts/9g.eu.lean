theorem fFd_c : ∀ c k, fQc c k = false → fFd c k = false := fun c k h => fFd_Ct c k (fCt_c c k h)
theorem lk_ref {V : Hv} (hV : WV V) {K S : Int} {τ : Sg} (h : ctQ V K S τ) : (lookF (τ 119) (nCt V K S (rdN V).toNat) V.1.toNat).1 = lkF V K S := by
  have h0 := hV.1
  unfold lkF
  rw [lookF_congr (H := τ 119) (H' := hvR V K S (rdN V).toNat) V.1.toNat (fun a w a0 a1 w0 w1 => by rw [hvR_at _ _ _ _ w0 w1]; exact h.2.2.1 a w a0 (by omega) w0 w1)]

set_option maxHeartbeats 4000000 in
set_option maxRecDepth 100000 in
theorem t_X9_count {g : G} {σ : Sg} {q : Int} (rq : -2147483648 ≤ q ∧ q ≤ 2147483647) (hV : WV (mv (σ 114))) (hD : DV (mv (σ 114))) (h2 : 0 ≤ (σ 114 2) ∧ (σ 114 2) ≤ 20) : MM g mX9_count [.ref (g.2.2.1 113), vI q] σ (pI (fun r σ' => r = (if q = 0 then σ 114 0 else if q = 1 then σ 114 1 else if q = 2 then σ 114 2 else if q = 3 then nSaid (mv (σ 114)) (rdN (mv (σ 114))).toNat else if q = 4 then nSnd (mv (σ 114)) (σ 114 1) (rdN (mv (σ 114))).toNat else if q = 5 then nCt (mv (σ 114)) (σ 114 1) (σ 114 2) (rdN (mv (σ 114))).toNat else if q = 6 then lkF (mv (σ 114)) (σ 114 1) (σ 114 2) else if q = 7 then qsF (mv (σ 114)) (σ 114 1) (σ 114 2) else if q = 8 then (if nxt (mv (σ 114)) (σ 114 1) (rdN (mv (σ 114))).toNat = 9999 then -4 else nxt (mv (σ 114)) (σ 114 1) (rdN (mv (σ 114))).toNat) else if q = 9 then (if bR (mv (σ 114)) (σ 114 1) = -4 then -4 else spA (mv (σ 114)) (σ 114 1) (mv (σ 114)).1.toNat) else if q = 10 then σ 113 29 else -1) ∧ Fm fQc σ σ')) := by
  refine mm_of rfl (by decide) rfl rfl (Nat.le_of_ble_eq_true rfl) (fun x hO hR => ?_)
  refine z_iload_n hO 1 dX9_count_0 rfl ?_
  rcases (show q = 0 ∨ q = 1 ∨ q = 2 ∨ q = 3 ∨ q = 4 ∨ q = 5 ∨ q = 6 ∨ q = 7 ∨ q = 8 ∨ q = 9 ∨ q = 10 ∨ (q < 0 ∨ 10 < q) by omega) with h1 | h1 | h1 | h1 | h1 | h1 | h1 | h1 | h1 | h1 | h1 | h1
  ·
    refine z_tswIn hO 60 dX9_count_1 (by omega) (by omega) (by omega) (by rw [h1]; rfl) (by decide) ?_
    refine z_aload_n hO 0 dX9_count_60 rfl ?_
    refine z_getR hO (114) fl_X9_7 rfl rfl dX9_count_61 ?_
    refine z_iconst hO dX9_count_64 ?_
    refine z_iald hO rfl (by omega) (by decide) dX9_count_65 (fun r65 => ?_)
    exact z_retI hO hR dX9_count_66 (⟨by rw [if_pos (by omega)], Fm.rf⟩)
  ·
    refine z_tswIn hO 67 dX9_count_1 (by omega) (by omega) (by omega) (by rw [h1]; rfl) (by decide) ?_
    refine z_aload_n hO 0 dX9_count_67 rfl ?_
    refine z_getR hO (114) fl_X9_7 rfl rfl dX9_count_68 ?_
    refine z_iconst hO dX9_count_71 ?_
    refine z_iald hO rfl (by omega) (by decide) dX9_count_72 (fun r72 => ?_)
    exact z_retI hO hR dX9_count_73 (⟨by rw [if_neg (by omega), if_pos (by omega)], Fm.rf⟩)
  ·
    refine z_tswIn hO 74 dX9_count_1 (by omega) (by omega) (by omega) (by rw [h1]; rfl) (by decide) ?_
    refine z_aload_n hO 0 dX9_count_74 rfl ?_
    refine z_getR hO (114) fl_X9_7 rfl rfl dX9_count_75 ?_
    refine z_iconst hO dX9_count_78 ?_
    refine z_iald hO rfl (by omega) (by decide) dX9_count_79 (fun r79 => ?_)
    exact z_retI hO hR dX9_count_80 (⟨by rw [if_neg (by omega), if_neg (by omega), if_pos (by omega)], Fm.rf⟩)
  ·
    refine z_tswIn hO 81 dX9_count_1 (by omega) (by omega) (by omega) (by rw [h1]; rfl) (by decide) ?_
    refine z_aload_n hO 0 dX9_count_81 rfl ?_
    refine z_cvV hO (t_X9_finds hV) cv_X9_154 rfl rfl rfl rfl (by decide) (Nat.le_of_ble_eq_true rfl) dX9_count_82 (fun s82 p82 => ?_)
    refine z_aload_n hO 0 dX9_count_85 rfl ?_
    refine z_getI hO 8 fl_X9_129 rfl rfl rfl dX9_count_86 (fun r86 => ?_)
    exact z_retI hO hR dX9_count_89 (⟨by rw [if_neg (by omega), if_neg (by omega), if_neg (by omega), if_pos (by omega)]; exact p82.1.1, p82.2.mono fFd_c⟩)
  ·
    refine z_tswIn hO 90 dX9_count_1 (by omega) (by omega) (by omega) (by rw [h1]; rfl) (by decide) ?_
    refine z_aload_n hO 0 dX9_count_90 rfl ?_
    refine z_cvV hO (t_X9_finds hV) cv_X9_154 rfl rfl rfl rfl (by decide) (Nat.le_of_ble_eq_true rfl) dX9_count_91 (fun s91 p91 => ?_)
    refine z_aload_n hO 0 dX9_count_94 rfl ?_
    refine z_getI hO 9 fl_X9_132 rfl rfl rfl dX9_count_95 (fun r95 => ?_)
    exact z_retI hO hR dX9_count_98 (⟨by rw [if_neg (by omega), if_neg (by omega), if_neg (by omega), if_neg (by omega), if_pos (by omega)]; exact p91.1.2.1, p91.2.mono fFd_c⟩)
  ·
    refine z_tswIn hO 99 dX9_count_1 (by omega) (by omega) (by omega) (by rw [h1]; rfl) (by decide) ?_
    refine z_aload_n hO 0 dX9_count_99 rfl ?_
    refine z_cvV hO (t_X9_counts hV h2) cv_X9_169 rfl rfl rfl rfl (by decide) (Nat.le_of_ble_eq_true rfl) dX9_count_100 (fun s100 p100 => ?_)
    have f114 : s100 114 = σ 114 := p100.2.row 114 (fun _ => rfl)
    have f15 := p100.1.1
    have hnr := nCt_r (mv (σ 114)) (σ 114 1) (σ 114 2) (rdN (mv (σ 114))).toNat
    have hrd := rdN_r hV
    have hn8 := hV.2.1
    have hn0 := hV.1
    rw [mv_n] at hn8 hn0
    refine z_aload_n hO 0 dX9_count_103 rfl ?_
    refine z_getI hO 15 fl_X9_157 rfl rfl rfl dX9_count_104 (fun r104 => ?_)
    exact z_retI hO hR dX9_count_107 (⟨by rw [if_neg (by omega), if_neg (by omega), if_neg (by omega), if_neg (by omega), if_neg (by omega), if_pos (by omega)]; exact f15, p100.2.mono fCt_c⟩)
  ·
    refine z_tswIn hO 108 dX9_count_1 (by omega) (by omega) (by omega) (by rw [h1]; rfl) (by decide) ?_
    refine z_aload_n hO 0 dX9_count_108 rfl ?_
    refine z_cvV hO (t_X9_counts hV h2) cv_X9_169 rfl rfl rfl rfl (by decide) (Nat.le_of_ble_eq_true rfl) dX9_count_109 (fun s109 p109 => ?_)
    have f114 : s109 114 = σ 114 := p109.2.row 114 (fun _ => rfl)
    have f15 := p109.1.1
    have hnr := nCt_r (mv (σ 114)) (σ 114 1) (σ 114 2) (rdN (mv (σ 114))).toNat
    have hrd := rdN_r hV
    have hn8 := hV.2.1
    have hn0 := hV.1
    rw [mv_n] at hn8 hn0
    refine z_aload_n hO 0 dX9_count_112 rfl ?_
    refine z_aload_n hO 0 dX9_count_113 rfl ?_
    refine z_getI hO 15 fl_X9_157 rfl rfl rfl dX9_count_114 (fun r114 => ?_)
    rw [f15] at r114 ⊢
    refine z_cvE hO (t_X9_look (by rw [f114]; omega) (by omega)) cv_X9_176 rfl rfl rfl rfl (by decide) (Nat.le_of_ble_eq_true rfl) dX9_count_117 ?_
    exact z_retI hO hR dX9_count_120 (⟨by rw [if_neg (by omega), if_neg (by omega), if_neg (by omega), if_neg (by omega), if_neg (by omega), if_neg (by omega), if_pos (by omega), f114]; exact lk_ref hV p109.1, p109.2.mono fCt_c⟩)
  ·
    refine z_tswIn hO 121 dX9_count_1 (by omega) (by omega) (by omega) (by rw [h1]; rfl) (by decide) ?_
    refine z_aload_n hO 0 dX9_count_121 rfl ?_
    refine z_cvI hO (t_X9_questions hV hD h2) cv_X9_186 rfl rfl rfl rfl (by decide) (Nat.le_of_ble_eq_true rfl) dX9_count_122 (fun v122 s122 p122 => ?_)
    exact z_retI hO hR dX9_count_125 (⟨by rw [if_neg (by omega), if_neg (by omega), if_neg (by omega), if_neg (by omega), if_neg (by omega), if_neg (by omega), if_neg (by omega), if_pos (by omega)]; exact p122.1, p122.2⟩)
  ·
    refine z_tswIn hO 126 dX9_count_1 (by omega) (by omega) (by omega) (by rw [h1]; rfl) (by decide) ?_
    refine z_aload_n hO 0 dX9_count_126 rfl ?_
    refine z_cvV hO (t_X9_counts hV h2) cv_X9_169 rfl rfl rfl rfl (by decide) (Nat.le_of_ble_eq_true rfl) dX9_count_127 (fun s127 p127 => ?_)
    have f114 : s127 114 = σ 114 := p127.2.row 114 (fun _ => rfl)
    have f15 := p127.1.1
    have hnr := nCt_r (mv (σ 114)) (σ 114 1) (σ 114 2) (rdN (mv (σ 114))).toNat
    have hrd := rdN_r hV
    have hn8 := hV.2.1
    have hn0 := hV.1
    rw [mv_n] at hn8 hn0
    refine z_aload_n hO 0 dX9_count_130 rfl ?_
    refine z_getI hO 14 fl_X9_160 rfl rfl rfl dX9_count_131 (fun r131 => ?_)
    refine z_sipush hO dX9_count_134 (by decide) ?_
    refine z_icmp_ne hO 145 dX9_count_137 (by decide) (by omega) (by decide) (fun c137 => ?_) (fun c137 => ?_)
    ·
      refine z_aload_n hO 0 dX9_count_145 rfl ?_
      refine z_getI hO 14 fl_X9_160 rfl rfl rfl dX9_count_146 (fun r146 => ?_)
      exact z_retI hO hR dX9_count_149 (⟨by rw [if_neg (by omega), if_neg (by omega), if_neg (by omega), if_neg (by omega), if_neg (by omega), if_neg (by omega), if_neg (by omega), if_neg (by omega), if_pos (by omega)]; first | (rw [if_pos (by rw [← p127.1.2.1]; exact c137)]) | (rw [if_neg (by rw [← p127.1.2.1]; exact c137)]; exact p127.1.2.1), p127.2.mono fCt_c⟩)
    ·
      refine z_bipush hO dX9_count_140 (by decide) ?_
      refine z_goto hO 149 dX9_count_142 (by decide) ?_
      exact z_retI hO hR dX9_count_149 (⟨by rw [if_neg (by omega), if_neg (by omega), if_neg (by omega), if_neg (by omega), if_neg (by omega), if_neg (by omega), if_neg (by omega), if_neg (by omega), if_pos (by omega)]; first | (rw [if_pos (by rw [← p127.1.2.1]; exact c137)]) | (rw [if_neg (by rw [← p127.1.2.1]; exact c137)]; exact p127.1.2.1), p127.2.mono fCt_c⟩)
  ·
    refine z_tswIn hO 150 dX9_count_1 (by omega) (by omega) (by omega) (by rw [h1]; rfl) (by decide) ?_
    refine z_aload_n hO 0 dX9_count_150 rfl ?_
    refine z_cvI hO (t_X9_spoilt hV) cv_X9_189 rfl rfl rfl rfl (by decide) (Nat.le_of_ble_eq_true rfl) dX9_count_151 (fun v151 s151 p151 => ?_)
    exact z_retI hO hR dX9_count_154 (⟨by rw [if_neg (by omega), if_neg (by omega), if_neg (by omega), if_neg (by omega), if_neg (by omega), if_neg (by omega), if_neg (by omega), if_neg (by omega), if_neg (by omega), if_pos (by omega)]; rcases p151 with z | z; (rw [if_pos z.1]; exact z.2.1); (rw [if_neg z.1]; exact z.2.1), by rcases p151 with z | z; (exact z.2.2.mono fFd_c); (exact z.2.2.mono fFd_c)⟩)
  ·
    refine z_tswIn hO 155 dX9_count_1 (by omega) (by omega) (by omega) (by rw [h1]; rfl) (by decide) ?_
    refine z_aload_n hO 0 dX9_count_155 rfl ?_
    refine z_getI hO 29 fl_X9_192 rfl rfl rfl dX9_count_156 (fun r156 => ?_)
    exact z_retI hO hR dX9_count_159 (⟨by rw [if_neg (by omega), if_neg (by omega), if_neg (by omega), if_neg (by omega), if_neg (by omega), if_neg (by omega), if_neg (by omega), if_neg (by omega), if_neg (by omega), if_neg (by omega), if_pos (by omega)], Fm.rf⟩)
  ·
    refine z_tswOut hO 160 dX9_count_1 (by omega) h1 (by decide) ?_
    refine z_iconst hO dX9_count_160 ?_
    exact z_retI hO hR dX9_count_161 (⟨by rw [if_neg (by omega), if_neg (by omega), if_neg (by omega), if_neg (by omega), if_neg (by omega), if_neg (by omega), if_neg (by omega), if_neg (by omega), if_neg (by omega), if_neg (by omega), if_neg (by omega)], Fm.rf⟩)
