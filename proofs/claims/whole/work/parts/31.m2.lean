/-! the reference: multiply -/
section BZ9
variable {l : Launch} {ad : Nat → Nat} {K : bz_K} {n : Nat} {M : bz_M} {d : Nat} {r : Option Value} {σ σ' : bz_S} {pc : Nat} {ls : List (Option Value)} {st : List Value}
theorem bz_ist15 {v : Int32} {x0 x1 x2 x3 x4 x5 x6 x7 x8 x9 x10 x11 x12 x13 x14 : Option Value} {x : Option Value} {t : List (Option Value)} (hd : decode M.2.1 pc = .ok (.istore 15, 2)) (hn : 15 < M.2.2.2.1) (hc : bz_c2 x14 = false) (k : bz_V l ad K n M d r σ' (pc + 2) (x0 :: x1 :: x2 :: x3 :: x4 :: x5 :: x6 :: x7 :: x8 :: x9 :: x10 :: x11 :: x12 :: x13 :: x14 :: some (.int v) :: t) st σ) : bz_V l ad K n M d r σ' pc (x0 :: x1 :: x2 :: x3 :: x4 :: x5 :: x6 :: x7 :: x8 :: x9 :: x10 :: x11 :: x12 :: x13 :: x14 :: x :: t) (.int v :: st) σ := bz_istoreG (as := [x0, x1, x2, x3, x4, x5, x6, x7, x8, x9, x10, x11, x12, x13, x14]) hd hn rfl (fun w h => by cases h; exact hc) k
theorem bz_iinc15 {u v : Int32} {z : Int} {x0 x1 x2 x3 x4 x5 x6 x7 x8 x9 x10 x11 x12 x13 x14 : Option Value} {t : List (Option Value)} (hd : decode M.2.1 pc = .ok (.iinc 15 z, 3)) (hv : u + Int32.ofInt z = v) (hn : 15 < M.2.2.2.1) (hc : bz_c2 x14 = false) (k : bz_V l ad K n M d r σ' (pc + 3) (x0 :: x1 :: x2 :: x3 :: x4 :: x5 :: x6 :: x7 :: x8 :: x9 :: x10 :: x11 :: x12 :: x13 :: x14 :: some (.int v) :: t) st σ) : bz_V l ad K n M d r σ' pc (x0 :: x1 :: x2 :: x3 :: x4 :: x5 :: x6 :: x7 :: x8 :: x9 :: x10 :: x11 :: x12 :: x13 :: x14 :: some (.int u) :: t) st σ := bz_iincG (as := [x0, x1, x2, x3, x4, x5, x6, x7, x8, x9, x10, x11, x12, x13, x14]) hd hv hn rfl (fun w h => by cases h; exact hc) k
theorem bz_iinc15N {a : Nat} {x0 x1 x2 x3 x4 x5 x6 x7 x8 x9 x10 x11 x12 x13 x14 : Option Value} {t : List (Option Value)} (hd : decode M.2.1 pc = .ok (.iinc 15 1, 3)) (hn : 15 < M.2.2.2.1) (hc : bz_c2 x14 = false) (k : bz_V l ad K n M d r σ' (pc + 3) (x0 :: x1 :: x2 :: x3 :: x4 :: x5 :: x6 :: x7 :: x8 :: x9 :: x10 :: x11 :: x12 :: x13 :: x14 :: some (.int (nI (a + 1))) :: t) st σ) : bz_V l ad K n M d r σ' pc (x0 :: x1 :: x2 :: x3 :: x4 :: x5 :: x6 :: x7 :: x8 :: x9 :: x10 :: x11 :: x12 :: x13 :: x14 :: some (.int (nI a)) :: t) st σ := bz_iinc15 hd (by rw [nI_succ]; rfl) hn hc k
theorem bz_ist16 {v : Int32} {x0 x1 x2 x3 x4 x5 x6 x7 x8 x9 x10 x11 x12 x13 x14 x15 : Option Value} {x : Option Value} {t : List (Option Value)} (hd : decode M.2.1 pc = .ok (.istore 16, 2)) (hn : 16 < M.2.2.2.1) (hc : bz_c2 x15 = false) (k : bz_V l ad K n M d r σ' (pc + 2) (x0 :: x1 :: x2 :: x3 :: x4 :: x5 :: x6 :: x7 :: x8 :: x9 :: x10 :: x11 :: x12 :: x13 :: x14 :: x15 :: some (.int v) :: t) st σ) : bz_V l ad K n M d r σ' pc (x0 :: x1 :: x2 :: x3 :: x4 :: x5 :: x6 :: x7 :: x8 :: x9 :: x10 :: x11 :: x12 :: x13 :: x14 :: x15 :: x :: t) (.int v :: st) σ := bz_istoreG (as := [x0, x1, x2, x3, x4, x5, x6, x7, x8, x9, x10, x11, x12, x13, x14, x15]) hd hn rfl (fun w h => by cases h; exact hc) k
theorem bz_iinc16 {u v : Int32} {z : Int} {x0 x1 x2 x3 x4 x5 x6 x7 x8 x9 x10 x11 x12 x13 x14 x15 : Option Value} {t : List (Option Value)} (hd : decode M.2.1 pc = .ok (.iinc 16 z, 3)) (hv : u + Int32.ofInt z = v) (hn : 16 < M.2.2.2.1) (hc : bz_c2 x15 = false) (k : bz_V l ad K n M d r σ' (pc + 3) (x0 :: x1 :: x2 :: x3 :: x4 :: x5 :: x6 :: x7 :: x8 :: x9 :: x10 :: x11 :: x12 :: x13 :: x14 :: x15 :: some (.int v) :: t) st σ) : bz_V l ad K n M d r σ' pc (x0 :: x1 :: x2 :: x3 :: x4 :: x5 :: x6 :: x7 :: x8 :: x9 :: x10 :: x11 :: x12 :: x13 :: x14 :: x15 :: some (.int u) :: t) st σ := bz_iincG (as := [x0, x1, x2, x3, x4, x5, x6, x7, x8, x9, x10, x11, x12, x13, x14, x15]) hd hv hn rfl (fun w h => by cases h; exact hc) k
theorem bz_iinc16N {a : Nat} {x0 x1 x2 x3 x4 x5 x6 x7 x8 x9 x10 x11 x12 x13 x14 x15 : Option Value} {t : List (Option Value)} (hd : decode M.2.1 pc = .ok (.iinc 16 1, 3)) (hn : 16 < M.2.2.2.1) (hc : bz_c2 x15 = false) (k : bz_V l ad K n M d r σ' (pc + 3) (x0 :: x1 :: x2 :: x3 :: x4 :: x5 :: x6 :: x7 :: x8 :: x9 :: x10 :: x11 :: x12 :: x13 :: x14 :: x15 :: some (.int (nI (a + 1))) :: t) st σ) : bz_V l ad K n M d r σ' pc (x0 :: x1 :: x2 :: x3 :: x4 :: x5 :: x6 :: x7 :: x8 :: x9 :: x10 :: x11 :: x12 :: x13 :: x14 :: x15 :: some (.int (nI a)) :: t) st σ := bz_iinc16 hd (by rw [nI_succ]; rfl) hn hc k
end BZ9
def mt_s (F G : Nat → Int64) (c : Nat) : Int64 := zsum (fun w => F (mt_pr c w).1 * G (mt_pr c w).2) 0 (mt_nw c)
def mt_up (f : Nat → Int64) (t : Nat) (R : Nat → Int64) (c : Nat) : Nat → Int64 := fun j => if t ≤ j ∧ j < t + c then R (j - t) else f j
theorem mt_up_0 (f : Nat → Int64) (t : Nat) (R : Nat → Int64) : mt_up f t R 0 = f := by
  funext j
  unfold mt_up
  rw [if_neg (by omega)]
theorem mt_up_s {f : Nat → Int64} {t : Nat} {R : Nat → Int64} {c : Nat} {x : Int64} (h : x = R c) : vp_updL (mt_up f t R c) (t + c) x = mt_up f t R (c + 1) := by
  funext j
  unfold vp_updL mt_up
  by_cases e : j = t + c
  · subst e
    rw [if_pos rfl, if_pos (by omega), Nat.add_sub_cancel_left, h]
  · rw [if_neg e]
    by_cases q : t ≤ j ∧ j < t + c
    · rw [if_pos q, if_pos (by omega)]
    · rw [if_neg q, if_neg (by omega)]
theorem mt_up_in {f : Nat → Int64} {t : Nat} {R : Nat → Int64} {c i : Nat} (h : i < c) : mt_up f t R c (t + i) = R i := by
  unfold mt_up
  rw [if_pos (by omega), Nat.add_sub_cancel_left]
theorem mt_up_out {f : Nat → Int64} {t : Nat} {R : Nat → Int64} {c j : Nat} (h : j < t ∨ t + c ≤ j) : mt_up f t R c j = f j := by
  unfold mt_up
  rw [if_neg (by omega)]
section M2
variable {l : Launch} {ad : Nat → Nat} {K : bz_K} {S σ σ' : bz_S} {r : Option Value} {kf kg kt lf lg lt fF fG fT : Nat} {F G : Nat → Int64}
theorem m_mu_w (hT : mz_T S.2.1) {c : Nat} (hc : c < 30) {x10 x11 x12 x13 x14 x15 x16 : Option Value}
    (k : ∀ x9, bz_V l ad K 73 mX4_multiply 1 r σ' 44 [some (.ref (ad 54)), some (.ref (ad kf)), some (.int (nI fF)), some (.ref (ad kg)), some (.int (nI fG)), some (.ref (ad kt)), some (.int (nI fT)), some (.int (nI c)), some (.int (nI (mt_nw c))), x9, x10, x11, x12, x13, x14, x15, x16] [] S) :
    ∀ (m i : Nat), i + m = 6 → bz_V l ad K 73 mX4_multiply 1 r σ' 16 [some (.ref (ad 54)), some (.ref (ad kf)), some (.int (nI fF)), some (.ref (ad kg)), some (.int (nI fG)), some (.ref (ad kt)), some (.int (nI fT)), some (.int (nI c)), some (.int (nI (mt_w c i))), some (.int (nI i)), x10, x11, x12, x13, x14, x15, x16] [] S := by
  intro m
  induction m with
  | zero =>
    intro i hi
    obtain rfl : i = 6 := by omega
    refine bz_iload dX4_multiply_16 rfl ?_
    refine bz_bipush dX4_multiply_18 kc_bipush_6 ?_
    refine bz_icmp_geN (tgt := 44) dX4_multiply_20 rfl (by omega) (by omega) (fun _ => ?_) (fun q => absurd q (by omega))
    rw [mt_nw_ok c hc]
    exact k _
  | succ m ih =>
    intro i hi
    refine bz_iload dX4_multiply_16 rfl ?_
    refine bz_bipush dX4_multiply_18 kc_bipush_6 ?_
    refine bz_icmp_geN (tgt := 44) dX4_multiply_20 rfl (by omega) (by omega) (fun q => absurd q (by omega)) (fun _ => ?_)
    refine bz_iload dX4_multiply_23 rfl ?_
    refine bz_aload_n dX4_multiply_25 rfl ?_
    refine bz_iload dX4_multiply_26 rfl ?_
    refine bz_iload dX4_multiply_28 rfl ?_
    refine bz_cV2I (z := 0) mv_X4_partOf mi_X4_partOf lk_X4_91 dX4_multiply_30 (by exact m_partOf (by exact hT) hc (by omega)) (by omega) rfl (by omega) rfl rfl rfl (Nat.le_of_ble_eq_true rfl) (Nat.le_of_ble_eq_true rfl) ?_
    refine bz_iconst dX4_multiply_33 kc_iconst_1 ?_
    first | refine bz_iaddN dX4_multiply_34 ?_ | refine bz_iadd dX4_multiply_34 ?_
    first | refine bz_imulN dX4_multiply_35 ?_ | refine bz_imul dX4_multiply_35 ?_
    refine bz_ist8 dX4_multiply_36 (by decide) rfl ?_
    first | refine bz_iinc9N dX4_multiply_38 (by decide) rfl ?_ | refine bz_iinc9 dX4_multiply_38 rfl (by decide) rfl ?_
    refine bz_goto (tgt := 16) dX4_multiply_41 rfl ?_
    exact ih (i + 1) (by omega)
theorem m_mu_k (hT : mz_T S.2.1) {c w : Nat} (hc : c < 30) (hw : w < 64) {acc : Int64} {nw : Nat}
    (k : ∀ x15 x16, bz_V l ad K 73 mX4_multiply 1 r σ' 135 [some (.ref (ad 54)), some (.ref (ad kf)), some (.int (nI fF)), some (.ref (ad kg)), some (.int (nI fG)), some (.ref (ad kt)), some (.int (nI fT)), some (.int (nI c)), some (.int (nI nw)), some (.long acc), none, some (.int (nI w)), some (.int (nI (mt_one c w 6))), some (.int (nI (mt_oth c w 6))), some (.int (nI (mt_left c w 6))), x15, x16] [] S) :
    ∀ (m i : Nat) (x16 : Option Value), i + m = 6 → bz_V l ad K 73 mX4_multiply 1 r σ' 70 [some (.ref (ad 54)), some (.ref (ad kf)), some (.int (nI fF)), some (.ref (ad kg)), some (.int (nI fG)), some (.ref (ad kt)), some (.int (nI fT)), some (.int (nI c)), some (.int (nI nw)), some (.long acc), none, some (.int (nI w)), some (.int (nI (mt_one c w i))), some (.int (nI (mt_oth c w i))), some (.int (nI (mt_left c w i))), some (.int (nI i)), x16] [] S := by
  intro m
  induction m with
  | zero =>
    intro i x16 hi
    obtain rfl : i = 6 := by omega
    refine bz_iload dX4_multiply_70 rfl ?_
    refine bz_bipush dX4_multiply_72 kc_bipush_6 ?_
    refine bz_icmp_geN (tgt := 135) dX4_multiply_74 rfl (by omega) (by omega) (fun _ => ?_) (fun q => absurd q (by omega))
    exact k _ _
  | succ m ih =>
    intro i x16 hi
    have h6 : i < 6 := by omega
    have hp := xt_part6 c hc i h6
    have hl := mt_left_le c w i
    have hm : mt_left c w i % (xp_part c i + 1) < xp_part c i + 1 := Nat.mod_lt _ (by omega)
    refine bz_iload dX4_multiply_70 rfl ?_
    refine bz_bipush dX4_multiply_72 kc_bipush_6 ?_
    refine bz_icmp_geN (tgt := 135) dX4_multiply_74 rfl (by omega) (by omega) (fun q => absurd q (by omega)) (fun _ => ?_)
    refine bz_aload_n dX4_multiply_77 rfl ?_
    refine bz_iload dX4_multiply_78 rfl ?_
    refine bz_iload dX4_multiply_80 rfl ?_
    refine bz_cV2I (z := 0) mv_X4_partOf mi_X4_partOf lk_X4_91 dX4_multiply_82 (by exact m_partOf (by exact hT) hc h6) (by omega) rfl (by omega) rfl rfl rfl (Nat.le_of_ble_eq_true rfl) (Nat.le_of_ble_eq_true rfl) ?_
    refine bz_ist16 dX4_multiply_85 (by decide) rfl ?_
    refine bz_iload dX4_multiply_87 rfl ?_
    refine bz_iload dX4_multiply_89 rfl ?_
    refine bz_iload dX4_multiply_91 rfl ?_
    refine bz_iconst dX4_multiply_93 kc_iconst_1 ?_
    first | refine bz_iaddN dX4_multiply_94 ?_ | refine bz_iadd dX4_multiply_94 ?_
    refine bz_iremN dX4_multiply_95 (by omega) (by omega) (by omega) ?_
    refine bz_cS1I (z := 0) mv_X4_key ws_X4_key lk_X4_87 dX4_multiply_96 (by exact m_key (by omega)) (by omega) rfl (Nat.le_of_ble_eq_true rfl) (Nat.le_of_ble_eq_true rfl) ?_
    first | refine bz_iaddN dX4_multiply_99 ?_ | refine bz_iadd dX4_multiply_99 ?_
    refine bz_ist12 dX4_multiply_100 (by decide) rfl ?_
    refine bz_iload dX4_multiply_102 rfl ?_
    refine bz_iload dX4_multiply_104 rfl ?_
    refine bz_iload dX4_multiply_106 rfl ?_
    refine bz_iload dX4_multiply_108 rfl ?_
    refine bz_iconst dX4_multiply_110 kc_iconst_1 ?_
    first | refine bz_iaddN dX4_multiply_111 ?_ | refine bz_iadd dX4_multiply_111 ?_
    refine bz_iremN dX4_multiply_112 (by omega) (by omega) (by omega) ?_
    refine bz_isubN dX4_multiply_113 (by omega) ?_
    refine bz_cS1I (z := 0) mv_X4_key ws_X4_key lk_X4_87 dX4_multiply_114 (by exact m_key (by omega)) (by omega) rfl (Nat.le_of_ble_eq_true rfl) (Nat.le_of_ble_eq_true rfl) ?_
    first | refine bz_iaddN dX4_multiply_117 ?_ | refine bz_iadd dX4_multiply_117 ?_
    refine bz_ist13 dX4_multiply_118 (by decide) rfl ?_
    refine bz_iload dX4_multiply_120 rfl ?_
    refine bz_iload dX4_multiply_122 rfl ?_
    refine bz_iconst dX4_multiply_124 kc_iconst_1 ?_
    first | refine bz_iaddN dX4_multiply_125 ?_ | refine bz_iadd dX4_multiply_125 ?_
    refine bz_idivN dX4_multiply_126 (by omega) (by omega) (by omega) ?_
    refine bz_ist14 dX4_multiply_127 (by decide) rfl ?_
    first | refine bz_iinc15N dX4_multiply_129 (by decide) rfl ?_ | refine bz_iinc15 dX4_multiply_129 rfl (by decide) rfl ?_
    refine bz_goto (tgt := 70) dX4_multiply_132 rfl ?_
    exact ih (i + 1) _ (by omega)
theorem m_mu_s (hT : mz_T S.2.1) {c : Nat} (hc : c < 30) (hf : bz_sh kf = (1, lf, 0, [])) (hg : bz_sh kg = (1, lg, 0, [])) (hkf : kf < 73) (hkg : kg < 73) (hlf : fF + 30 ≤ lf) (hlg : fG + 30 ≤ lg) (hF : ∀ i, i < 30 → S.1 kf (fF + i) = F i) (hG : ∀ i, i < 30 → S.1 kg (fG + i) = G i) {T : Int64}
    (k : ∀ x11 x12 x13 x14 x15 x16, bz_V l ad K 73 mX4_multiply 1 r σ' 170 [some (.ref (ad 54)), some (.ref (ad kf)), some (.int (nI fF)), some (.ref (ad kg)), some (.int (nI fG)), some (.ref (ad kt)), some (.int (nI fT)), some (.int (nI c)), some (.int (nI (mt_nw c))), some (.long T), none, x11, x12, x13, x14, x15, x16] [] S) :
    ∀ (m w : Nat) (acc : Int64) (x12 x13 x14 x15 x16 : Option Value), w + m = mt_nw c → acc + zsum (fun w => F (mt_pr c w).1 * G (mt_pr c w).2) w m = T → bz_V l ad K 73 mX4_multiply 1 r σ' 50 [some (.ref (ad 54)), some (.ref (ad kf)), some (.int (nI fF)), some (.ref (ad kg)), some (.int (nI fG)), some (.ref (ad kt)), some (.int (nI fT)), some (.int (nI c)), some (.int (nI (mt_nw c))), some (.long acc), none, some (.int (nI w)), x12, x13, x14, x15, x16] [] S := by
  have h64 := mt_nw_64 c hc
  intro m
  induction m with
  | zero =>
    intro w acc x12 x13 x14 x15 x16 hw hs
    obtain rfl : w = mt_nw c := by omega
    obtain rfl := zsum_end hs
    refine bz_iload dX4_multiply_50 rfl ?_
    refine bz_iload dX4_multiply_52 rfl ?_
    refine bz_icmp_geN (tgt := 170) dX4_multiply_54 rfl (by omega) (by omega) (fun _ => ?_) (fun q => absurd q (by omega))
    exact k _ _ _ _ _ _
  | succ m ih =>
    intro w acc x12 x13 x14 x15 x16 hw hs
    have hs2 := zsum_step hs
    have hp := mt_pr_ok c hc w (by omega)
    have hp5 := hp.2.2.2.2.1
    have hp6 := hp.2.2.2.2.2
    refine bz_iload dX4_multiply_50 rfl ?_
    refine bz_iload dX4_multiply_52 rfl ?_
    refine bz_icmp_geN (tgt := 170) dX4_multiply_54 rfl (by omega) (by omega) (fun q => absurd q (by omega)) (fun _ => ?_)
    refine bz_iconst dX4_multiply_57 kc_iconst_0 ?_
    refine bz_ist12 dX4_multiply_58 (by decide) rfl ?_
    refine bz_iconst dX4_multiply_60 kc_iconst_0 ?_
    refine bz_ist13 dX4_multiply_61 (by decide) rfl ?_
    refine bz_iload dX4_multiply_63 rfl ?_
    refine bz_ist14 dX4_multiply_65 (by decide) rfl ?_
    refine bz_iconst dX4_multiply_67 kc_iconst_0 ?_
    refine bz_ist15 dX4_multiply_68 (by decide) rfl ?_
    refine m_mu_k hT hc (by omega) (fun x15 x16 => ?_) 6 0 x16 rfl
    refine bz_lload dX4_multiply_135 rfl ?_
    refine bz_aload_n dX4_multiply_137 rfl ?_
    refine bz_iload_n dX4_multiply_138 rfl ?_
    refine bz_aload_n dX4_multiply_139 rfl ?_
    refine bz_getf fl_X4_16 dX4_multiply_140 rfl rfl (by omega) ?_
    refine bz_iload dX4_multiply_143 rfl ?_
    refine bz_iaload dX4_multiply_145 rfl (by omega) hp.1 ?_
    refine bz_topi (y := nI (mt_pr c w).1) ((hT.2.2 _ hp.1).trans (by rw [hp.2.2.1])) ?_
    first | refine bz_iaddN dX4_multiply_146 ?_ | refine bz_iadd dX4_multiply_146 ?_
    refine bz_laload dX4_multiply_147 hf (by omega) (by omega) ?_
    refine bz_topl (hF _ hp5) ?_
    refine bz_aload_n dX4_multiply_148 rfl ?_
    refine bz_iload dX4_multiply_149 rfl ?_
    refine bz_aload_n dX4_multiply_151 rfl ?_
    refine bz_getf fl_X4_16 dX4_multiply_152 rfl rfl (by omega) ?_
    refine bz_iload dX4_multiply_155 rfl ?_
    refine bz_iaload dX4_multiply_157 rfl (by omega) hp.2.1 ?_
    refine bz_topi (y := nI (mt_pr c w).2) ((hT.2.2 _ hp.2.1).trans (by rw [hp.2.2.2.1])) ?_
    first | refine bz_iaddN dX4_multiply_158 ?_ | refine bz_iadd dX4_multiply_158 ?_
    refine bz_laload dX4_multiply_159 hg (by omega) (by omega) ?_
    refine bz_topl (hG _ hp6) ?_
    refine bz_lmul dX4_multiply_160 ?_
    refine bz_ladd dX4_multiply_161 ?_
    refine bz_lst9 dX4_multiply_162 (by decide) rfl ?_
    first | refine bz_iinc11N dX4_multiply_164 (by decide) rfl ?_ | refine bz_iinc11 dX4_multiply_164 rfl (by decide) rfl ?_
    refine bz_goto (tgt := 50) dX4_multiply_167 rfl ?_
    exact ih (w + 1) _ _ _ _ _ _ (by omega) hs2
theorem m_mu_rd {k a : Nat} {R : Nat → Int64} {c i : Nat} (hc : c ≤ 30) (hi : i < 30) (h : k ≠ kt ∨ a + 30 ≤ fT ∨ fT + 30 ≤ a) : (bz_setJ σ kt (mt_up (σ.1 kt) fT R c)).1 k (a + i) = σ.1 k (a + i) := by
  by_cases e : k = kt
  · subst e
    rw [bz_setJ_at, mt_up_out (by omega)]
  · rw [bz_setJ_ne e]
theorem m_mu_c (hT : mz_T σ.2.1) (hf : bz_sh kf = (1, lf, 0, [])) (hg : bz_sh kg = (1, lg, 0, [])) (ht : bz_sh kt = (1, lt, 0, [])) (hkf : kf < 73) (hkg : kg < 73) (hkt : kt < 73) (hlf : fF + 30 ≤ lf) (hlg : fG + 30 ≤ lg) (hlt : fT + 30 ≤ lt) (hF : ∀ i, i < 30 → σ.1 kf (fF + i) = F i) (hG : ∀ i, i < 30 → σ.1 kg (fG + i) = G i) (hdf : kf ≠ kt ∨ fF + 30 ≤ fT ∨ fT + 30 ≤ fF) (hdg : kg ≠ kt ∨ fG + 30 ≤ fT ∨ fT + 30 ≤ fG) :
    ∀ (m c : Nat) (x8 x9 x10 x11 x12 x13 x14 x15 x16 : Option Value), c + m = 30 → bz_V l ad K 73 mX4_multiply 1 none (bz_setJ σ kt (mt_up (σ.1 kt) fT (mt_s F G) 30)) 3 [some (.ref (ad 54)), some (.ref (ad kf)), some (.int (nI fF)), some (.ref (ad kg)), some (.int (nI fG)), some (.ref (ad kt)), some (.int (nI fT)), some (.int (nI c)), x8, x9, x10, x11, x12, x13, x14, x15, x16] [] (bz_setJ σ kt (mt_up (σ.1 kt) fT (mt_s F G) c)) := by
  intro m
  induction m with
  | zero =>
    intro c x8 x9 x10 x11 x12 x13 x14 x15 x16 hc
    obtain rfl : c = 30 := by omega
    refine bz_iload dX4_multiply_3 rfl ?_
    refine bz_bipush dX4_multiply_5 kc_bipush_30 ?_
    refine bz_icmp_geN (tgt := 186) dX4_multiply_7 rfl (by omega) (by omega) (fun _ => ?_) (fun q => absurd q (by omega))
    refine bz_vret dX4_multiply_186 rfl rfl
  | succ m ih =>
    intro c x8 x9 x10 x11 x12 x13 x14 x15 x16 hc
    have h30 : c < 30 := by omega
    refine bz_iload dX4_multiply_3 rfl ?_
    refine bz_bipush dX4_multiply_5 kc_bipush_30 ?_
    refine bz_icmp_geN (tgt := 186) dX4_multiply_7 rfl (by omega) (by omega) (fun q => absurd q (by omega)) (fun _ => ?_)
    refine bz_iconst dX4_multiply_10 kc_iconst_1 ?_
    refine bz_ist8 dX4_multiply_11 (by decide) rfl ?_
    refine bz_iconst dX4_multiply_13 kc_iconst_0 ?_
    refine bz_ist9 dX4_multiply_14 (by decide) rfl ?_
    refine m_mu_w (by exact hT) h30 (fun x9 => ?_) 6 0 rfl
    refine bz_lconst dX4_multiply_44 kc_lconst_0 ?_
    refine bz_lst9 dX4_multiply_45 (by decide) rfl ?_
    refine bz_iconst dX4_multiply_47 kc_iconst_0 ?_
    refine bz_ist11 dX4_multiply_48 (by decide) rfl ?_
    refine m_mu_s (F := F) (G := G) (T := mt_s F G c) (by exact hT) h30 hf hg hkf hkg hlf hlg (fun i hi => by rw [m_mu_rd (by omega) hi hdf]; exact hF i hi) (fun i hi => by rw [m_mu_rd (by omega) hi hdg]; exact hG i hi) (fun x11 x12 x13 x14 x15 x16 => ?_) (mt_nw c) 0 0 _ _ _ _ _ (Nat.zero_add _) (Int64.zero_add _)
    refine bz_aload dX4_multiply_170 rfl ?_
    refine bz_iload dX4_multiply_172 rfl ?_
    refine bz_iload dX4_multiply_174 rfl ?_
    first | refine bz_iaddN dX4_multiply_176 ?_ | refine bz_iadd dX4_multiply_176 ?_
    refine bz_lload dX4_multiply_177 rfl ?_
    refine bz_lastore dX4_multiply_179 ht (by omega) (by omega) ?_
    first | refine bz_iinc7N dX4_multiply_180 (by decide) rfl ?_ | refine bz_iinc7 dX4_multiply_180 rfl (by decide) rfl ?_
    refine bz_goto (tgt := 3) dX4_multiply_183 rfl ?_
    refine bz_st (by rw [bz_upJ_set, mt_up_s rfl]) ?_
    exact ih (c + 1) _ _ _ _ _ _ _ _ _ (by omega)
theorem m_multiply (hT : mz_T σ.2.1) (hf : bz_sh kf = (1, lf, 0, [])) (hg : bz_sh kg = (1, lg, 0, [])) (ht : bz_sh kt = (1, lt, 0, [])) (hkf : kf < 73) (hkg : kg < 73) (hkt : kt < 73) (hlf : fF + 30 ≤ lf) (hlg : fG + 30 ≤ lg) (hlt : fT + 30 ≤ lt) (hF : ∀ i, i < 30 → σ.1 kf (fF + i) = F i) (hG : ∀ i, i < 30 → σ.1 kg (fG + i) = G i) (hdf : kf ≠ kt ∨ fF + 30 ≤ fT ∨ fT + 30 ≤ fF) (hdg : kg ≠ kt ∨ fG + 30 ≤ fT ∨ fT + 30 ≤ fG) :
    bz_V l ad K 73 mX4_multiply 1 none (bz_setJ σ kt (mt_up (σ.1 kt) fT (mt_s F G) 30)) 0 [some (.ref (ad 54)), some (.ref (ad kf)), some (.int (nI fF)), some (.ref (ad kg)), some (.int (nI fG)), some (.ref (ad kt)), some (.int (nI fT)), none, none, none, none, none, none, none, none, none, none] [] σ := by
  refine bz_iconst dX4_multiply_0 kc_iconst_0 ?_
  refine bz_ist7 dX4_multiply_1 (by decide) rfl ?_
  refine bz_st (by rw [bz_setJ_id (mt_up_0 _ fT (mt_s F G))]) (m_mu_c hT hf hg ht hkf hkg hkt hlf hlg hlt hF hG hdf hdg 30 0 _ _ _ _ _ _ _ _ _ rfl)
end M2
