/-! Work: scalars with powers, stretching, values -/
def xt_mulL : List (Option Nat) := [some 0, some 0, some 0, some 0, some 0, some 0, some 0, some 0, some 1, some 2, some 4, some 7, some 12, some 19, some 0, some 2, some 7, some 19, none, none, none, some 0, some 3, some 9, some 23, none, none, none, some 0, some 4, some 19, none, none, none, none, some 0, some 5, some 21, none, none, none, none, some 0, some 6, some 26, none, none, none, none, some 0, some 7, none, none, none, none, none, some 0, some 8, none, none, none, none, none, some 0, some 9, none, none, none, none, none, some 0, some 10, none, none, none, none, none, some 0, some 11, none, none, none, none, none, some 0, some 12, none, none, none, none, none, some 0, some 13, none, none, none, none, none, some 0, some 14, none, none, none, none, none, some 0, some 15, none, none, none, none, none, some 0, some 16, none, none, none, none, none, some 0, some 17, none, none, none, none, none, some 0, some 18, none, none, none, none, none, some 0, some 19, none, none, none, none, none, some 0, some 20, none, none, none, none, none, some 0, some 21, none, none, none, none, none, some 0, some 22, none, none, none, none, none, some 0, some 23, none, none, none, none, none, some 0, some 24, none, none, none, none, none, some 0, some 25, none, none, none, none, none, some 0, some 26, none, none, none, none, none, some 0, some 27, none, none, none, none, none, some 0, some 28, none, none, none, none, none, some 0, some 29, none, none, none, none, none]
def nsum (f : Nat → Nat) : Nat → Nat
  | 0 => 0
  | i + 1 => nsum f i + f i
def xt_mulM (a k : Nat) : Nat := nsum (fun i => xt_mk (k * xp_part a i)) 6
def xt_mulD (a k : Nat) : Nat := nsum (fun i => k * xp_part a i) 6
def xt_mul (a k : Nat) : Option Nat := xt_mulL.getD (a * 7 + k) none
theorem xt_mul_ok : ∀ a, a < 30 → ∀ k, k < 7 → xt_num (xt_mulM a k) (xt_mulD a k) = xt_mul a k ∧ xt_mulM a k < 2 ^ 31 ∧ xt_mulD a k < 2 ^ 31 := by decide +kernel
theorem xt_mul_lt : ∀ a, a < 30 → ∀ k, k < 7 → ∀ J, xt_mul a k = some J → J < 30 := by
  intro a ha k hk J hJ
  have h : ∀ a, a < 30 → ∀ k, k < 7 → (xt_mul a k).getD 0 < 30 := by decide +kernel
  have := h a ha k hk
  rw [hJ] at this
  exact this
theorem xt_mul_inj0 : ∀ a, a < 30 → ∀ b, b < 30 → ∀ k, k < 7 → k = 0 ∨ a ≤ b ∨ xt_mul a k = none ∨ ¬ xt_mul b k = xt_mul a k := by decide +kernel
theorem xt_mul_inj {k a b : Nat} (hk : k < 7) (h1 : 1 ≤ k) (ha : a < 30) (hb : b < a) : xt_mul a k = none ∨ ¬ xt_mul b k = xt_mul a k := by
  rcases xt_mul_inj0 a ha b (by omega) k hk with h | h | h
  · omega
  · omega
  · exact h
theorem xt_part6 : ∀ a, a < 30 → ∀ k, k < 6 → xp_part a k ≤ 6 := by decide +kernel
theorem xt_z720 : ∀ a, a < 30 → xt_z a * (720 / xt_z a) = 720 := by decide +kernel
def zpow (x : Int64) : Nat → Int64
  | 0 => 1
  | n + 1 => zpow x n * x
def xt_i3 (i j k : Nat) : Nat := (xt_num (xt_mk i + xt_mk j + xt_mk k) (i + j + k)).getD 0
theorem xt_i3_0 : ∀ i, i < 7 → ∀ j, j < 7 → ∀ k, k < 7 → 6 < i + j + k ∨ (xt_num (xt_mk i + xt_mk j + xt_mk k) (i + j + k) = some (xt_i3 i j k) ∧ xt_i3 i j k < 30 ∧ xt_mk i + xt_mk j + xt_mk k < 2 ^ 31) := by decide +kernel
theorem xt_i3_ok {i j k : Nat} (h : i + j + k ≤ 6) : xt_num (xt_mk i + xt_mk j + xt_mk k) (i + j + k) = some (xt_i3 i j k) ∧ xt_i3 i j k < 30 ∧ xt_mk i + xt_mk j + xt_mk k < 2 ^ 31 := by
  rcases xt_i3_0 i (by omega) j (by omega) k (by omega) with q | q
  · omega
  · exact q
def wk_sp (y : Nat → Int64) (a : Nat) : Int64 := y a * (nI (xt_z a)).toInt64 / 720
def wk_spr (x y : Nat → Int64) (c : Nat) : Int64 := zsum (fun d => x d * wk_sp y (xt_jn c d)) 0 (xp_start (6 - xt_deg c + 1))
section WL
variable {l : Launch} {ad : Nat → Nat} {K : bz_K} {σ σ' : bz_S} {k1 k2 k3 : Nat} {r : Option Value}
theorem t_swp {a : Nat} (ha : a < 30) (h1 : bz_sh k1 = (1, 30, 0, [])) (hk1 : k1 < 73) (hT : pz_T σ.2.1) : bz_V l ad K 73 mX2_scalarWithPower 0 (some (.long (wk_sp (σ.1 k1) a))) σ 0 [some (.ref (ad 12)), some (.int (nI a)), some (.ref (ad k1))] [] σ := by
  refine bz_aload_n dX2_scalarWithPower_0 rfl ?_
  refine bz_iload_n dX2_scalarWithPower_1 rfl ?_
  refine bz_laload dX2_scalarWithPower_2 h1 (by omega) ha ?_
  refine bz_aload_n dX2_scalarWithPower_3 rfl ?_
  refine bz_getf fl_X2_23 dX2_scalarWithPower_4 rfl rfl (by omega) ?_
  refine bz_getf fl_X2_61 dX2_scalarWithPower_7 rfl rfl (by omega) ?_
  refine bz_iload_n dX2_scalarWithPower_10 rfl ?_
  refine bz_iaload dX2_scalarWithPower_11 rfl (by omega) (by omega) ?_
  refine bz_topi (hT.2.2.2.2.1 a ha) ?_
  refine bz_i2l dX2_scalarWithPower_12 ?_
  refine bz_lmul dX2_scalarWithPower_13 ?_
  refine bz_ldc2 kl_X2_59 dX2_scalarWithPower_14 ?_
  refine bz_ldiv dX2_scalarWithPower_17 (by decide) ?_
  refine bz_lret dX2_scalarWithPower_18 rfl rfl rfl
theorem t_spr_loop {c : Nat} {T : Int64} (hc : c < 30) (h1 : bz_sh k1 = (1, 30, 0, [])) (h2 : bz_sh k2 = (1, 30, 0, [])) (hk1 : k1 < 73) (hk2 : k2 < 73) (hT : pz_T σ.2.1) :
    ∀ (m b : Nat) (acc : Int64) (x8 : Option Value), b + m = xp_start (6 - xt_deg c + 1) → acc + zsum (fun d => σ.1 k1 d * wk_sp (σ.1 k2) (xt_jn c d)) b m = T → bz_V l ad K 73 mX2_scalarWithProduct 2 (some (.long T)) σ 23 [some (.ref (ad 12)), some (.int (nI c)), some (.ref (ad k1)), some (.ref (ad k2)), some (.long acc), none, some (.int (nI (xp_start (6 - xt_deg c + 1)))), some (.int (nI b)), x8] [] σ := by
  have hle := (xp_start_le (6 - xt_deg c) (by omega)).2
  intro m
  induction m with
  | zero =>
    intro b acc x8 hb hs
    obtain rfl : b = xp_start (6 - xt_deg c + 1) := by omega
    obtain rfl := zsum_end hs
    refine bz_iload dX2_scalarWithProduct_23 rfl ?_
    refine bz_iload dX2_scalarWithProduct_25 rfl ?_
    refine bz_icmp_geN (tgt := 73) dX2_scalarWithProduct_27 rfl (by omega) (by omega) (fun _ => ?_) (fun q => absurd q (by omega))
    refine bz_lload dX2_scalarWithProduct_73 rfl ?_
    refine bz_lret dX2_scalarWithProduct_75 rfl rfl rfl
  | succ m ih =>
    intro b acc x8 hb hs
    have hj := xt_jn_ok c hc b (by omega) (by omega)
    have hjl := hj.2.2
    refine bz_iload dX2_scalarWithProduct_23 rfl ?_
    refine bz_iload dX2_scalarWithProduct_25 rfl ?_
    refine bz_icmp_geN (tgt := 73) dX2_scalarWithProduct_27 rfl (by omega) (by omega) (fun q => absurd q (by omega)) (fun _ => ?_)
    refine bz_aload_n dX2_scalarWithProduct_30 rfl ?_
    refine bz_getf fl_X2_23 dX2_scalarWithProduct_31 rfl rfl (by omega) ?_
    refine bz_iload_n dX2_scalarWithProduct_34 rfl ?_
    refine bz_iload dX2_scalarWithProduct_35 rfl ?_
    refine bz_cVN2I (z := 0) mv_X1_joined mi_X1_joined lk_X2_51 dX2_scalarWithProduct_37 (by exact t_joined (by omega) hc (by omega)) (by omega) rfl (by omega) rfl rfl rfl (Nat.le_of_ble_eq_true rfl) (Nat.le_of_ble_eq_true rfl) ?_
    refine bz_topi (y := nI (xt_jn c b)) ((hT.2.2.2.2.2.1 (c * 30 + b) (by omega)).trans hj.1) ?_
    refine bz_ist8 dX2_scalarWithProduct_40 (by decide) rfl ?_
    refine bz_iload dX2_scalarWithProduct_42 rfl ?_
    refine bz_cSN1I (z := 0) mv_X3_isPartition ws_X3_isPartition lk_X2_55 dX2_scalarWithProduct_44 (by exact t_isPart hjl) (by omega) rfl (Nat.le_of_ble_eq_true rfl) (Nat.le_of_ble_eq_true rfl) ?_
    refine bz_if_eq (tgt := 67) dX2_scalarWithProduct_47 rfl (fun q => absurd q (by decide)) (fun _ => ?_)
    refine bz_lload dX2_scalarWithProduct_50 rfl ?_
    refine bz_aload_n dX2_scalarWithProduct_52 rfl ?_
    refine bz_iload dX2_scalarWithProduct_53 rfl ?_
    refine bz_laload dX2_scalarWithProduct_55 h1 (by omega) (by omega) ?_
    refine bz_aload_n dX2_scalarWithProduct_56 rfl ?_
    refine bz_iload dX2_scalarWithProduct_57 rfl ?_
    refine bz_aload_n dX2_scalarWithProduct_59 rfl ?_
    refine bz_cV2L (z := 0) mv_X2_scalarWithPower mi_X2_scalarWithPower lk_X2_68 dX2_scalarWithProduct_60 (by exact t_swp hjl h2 hk2 (by exact hT)) (by omega) rfl (by omega) rfl rfl rfl (Nat.le_of_ble_eq_true rfl) (Nat.le_of_ble_eq_true rfl) ?_
    refine bz_lmul dX2_scalarWithProduct_63 ?_
    refine bz_ladd dX2_scalarWithProduct_64 ?_
    refine bz_lst4 dX2_scalarWithProduct_65 (by decide) rfl ?_
    first | refine bz_iinc7N dX2_scalarWithProduct_67 (by decide) rfl ?_ | refine bz_iinc7 dX2_scalarWithProduct_67 rfl (by decide) rfl ?_
    refine bz_goto (tgt := 23) dX2_scalarWithProduct_70 rfl ?_
    have hs2 := zsum_step hs
    exact ih (b + 1) _ _ (by omega) hs2
theorem t_spr {c : Nat} (hc : c < 30) (h1 : bz_sh k1 = (1, 30, 0, [])) (h2 : bz_sh k2 = (1, 30, 0, [])) (hk1 : k1 < 73) (hk2 : k2 < 73) (hT : pz_T σ.2.1) : bz_V l ad K 73 mX2_scalarWithProduct 2 (some (.long (wk_spr (σ.1 k1) (σ.1 k2) c))) σ 0 [some (.ref (ad 12)), some (.int (nI c)), some (.ref (ad k1)), some (.ref (ad k2)), none, none, none, none, none] [] σ := by
  have hd6 := xt_deg6 c hc
  refine bz_lconst dX2_scalarWithProduct_0 kc_lconst_0 ?_
  refine bz_lst4 dX2_scalarWithProduct_1 (by decide) rfl ?_
  refine bz_bipush dX2_scalarWithProduct_3 kc_bipush_6 ?_
  refine bz_aload_n dX2_scalarWithProduct_5 rfl ?_
  refine bz_getf fl_X2_23 dX2_scalarWithProduct_6 rfl rfl (by omega) ?_
  refine bz_getf fl_X2_41 dX2_scalarWithProduct_9 rfl rfl (by omega) ?_
  refine bz_iload_n dX2_scalarWithProduct_12 rfl ?_
  refine bz_iaload dX2_scalarWithProduct_13 rfl (by omega) (by omega) ?_
  refine bz_topi (hT.1 c hc) ?_
  refine bz_isubN dX2_scalarWithProduct_14 hd6 ?_
  refine bz_cSN1I (z := 0) mv_X1_endOf ws_X1_endOf lk_X2_47 dX2_scalarWithProduct_15 (by exact t_endOf (by omega)) (by omega) rfl (Nat.le_of_ble_eq_true rfl) (Nat.le_of_ble_eq_true rfl) ?_
  refine bz_ist6 dX2_scalarWithProduct_18 (by decide) rfl ?_
  refine bz_iconst dX2_scalarWithProduct_20 kc_iconst_0 ?_
  refine bz_ist7 dX2_scalarWithProduct_21 (by decide) rfl ?_
  exact t_spr_loop hc h1 h2 hk1 hk2 hT (xp_start (6 - xt_deg c + 1)) 0 0 none (Nat.zero_add _) (Int64.zero_add _)
theorem t_strip_loop (h1 : bz_sh k1 = (1, 30, 0, [])) (h2 : bz_sh k2 = (1, 30, 0, [])) (h3 : bz_sh k3 = (1, 30, 0, [])) (hk1 : k1 < 73) (hk2 : k2 < 73) (hk3 : k3 < 73) (hn1 : k1 ≠ k3) (hn2 : k2 ≠ k3) (hT : pz_T σ.2.1) {F : Nat → Int64} (hF : ∀ c, c < 30 → F c = wk_spr (σ.1 k1) (σ.1 k2) c / (nI (xt_z c)).toInt64) :
    ∀ (m c : Nat) (x5 x6 x7 : Option Value), c + m = 30 → bz_V l ad K 73 mX2_stripOff 3 none (bz_setJ σ k3 (bz_upto (σ.1 k3) F 30)) 3 [some (.ref (ad 12)), some (.ref (ad k1)), some (.ref (ad k2)), some (.ref (ad k3)), some (.int (nI c)), x5, x6, x7] [] (bz_setJ σ k3 (bz_upto (σ.1 k3) F c)) := by
  intro m
  induction m with
  | zero =>
    intro c x5 x6 x7 hc
    obtain rfl : c = 30 := by omega
    refine bz_iload dX2_stripOff_3 rfl ?_
    refine bz_bipush dX2_stripOff_5 kc_bipush_30 ?_
    refine bz_icmp_geN (tgt := 57) dX2_stripOff_7 rfl (by omega) (by omega) (fun _ => ?_) (fun q => absurd q (by omega))
    refine bz_vret dX2_stripOff_57 rfl rfl
  | succ m ih =>
    intro c x5 x6 x7 hc
    have h30 : c < 30 := by omega
    have hz := xt_zpos c h30
    refine bz_iload dX2_stripOff_3 rfl ?_
    refine bz_bipush dX2_stripOff_5 kc_bipush_30 ?_
    refine bz_icmp_geN (tgt := 57) dX2_stripOff_7 rfl (by omega) (by omega) (fun q => absurd q (by omega)) (fun _ => ?_)
    refine bz_aload_n dX2_stripOff_10 rfl ?_
    refine bz_iload dX2_stripOff_11 rfl ?_
    refine bz_aload_n dX2_stripOff_13 rfl ?_
    refine bz_aload_n dX2_stripOff_14 rfl ?_
    refine bz_cV3L (z := 5) mv_X2_scalarWithProduct mi_X2_scalarWithProduct lk_X2_64 dX2_stripOff_15 (by exact t_spr h30 h1 h2 hk1 hk2 (by exact hT)) (by omega) rfl (by omega) rfl rfl rfl (Nat.le_of_ble_eq_true rfl) (Nat.le_of_ble_eq_true rfl) ?_
    refine bz_topl (y := wk_spr (σ.1 k1) (σ.1 k2) c) (by rw [bz_setJ_ne hn1, bz_setJ_ne hn2]) ?_
    refine bz_lst5 dX2_stripOff_18 (by decide) rfl ?_
    refine bz_aload_n dX2_stripOff_20 rfl ?_
    refine bz_getf fl_X2_23 dX2_stripOff_21 rfl rfl (by omega) ?_
    refine bz_getf fl_X2_61 dX2_stripOff_24 rfl rfl (by omega) ?_
    refine bz_iload dX2_stripOff_27 rfl ?_
    refine bz_iaload dX2_stripOff_29 rfl (by omega) (by omega) ?_
    refine bz_topi (hT.2.2.2.2.1 c h30) ?_
    refine bz_ist7 dX2_stripOff_30 (by decide) rfl ?_
    refine bz_aload_n dX2_stripOff_32 rfl ?_
    refine bz_iload dX2_stripOff_33 rfl ?_
    refine bz_iload dX2_stripOff_35 rfl ?_
    refine bz_if_le (tgt := 49) dX2_stripOff_37 rfl (fun q => absurd q (nI_nle hz.1 (by omega))) (fun _ => ?_)
    refine bz_lload dX2_stripOff_40 rfl ?_
    refine bz_iload dX2_stripOff_42 rfl ?_
    refine bz_i2l dX2_stripOff_44 ?_
    refine bz_ldiv dX2_stripOff_45 (fun q => absurd q (by
      rw [nI_l (by omega)]
      intro q
      have := (pk_lEQ (a := xt_z c) (b := 0) (by omega) (by omega)).mp q
      omega)) ?_
    refine bz_goto (tgt := 50) dX2_stripOff_46 rfl ?_
    refine bz_lastore dX2_stripOff_50 h3 (by omega) h30 ?_
    first | refine bz_iinc4N dX2_stripOff_51 (by decide) rfl ?_ | refine bz_iinc4 dX2_stripOff_51 rfl (by decide) rfl ?_
    refine bz_goto (tgt := 3) dX2_stripOff_54 rfl ?_
    refine bz_st (by rw [bz_upJ_set, bz_upto_s (hF c h30).symm]) ?_
    exact ih (c + 1) _ _ _ (by omega)
theorem t_stripOff (h1 : bz_sh k1 = (1, 30, 0, [])) (h2 : bz_sh k2 = (1, 30, 0, [])) (h3 : bz_sh k3 = (1, 30, 0, [])) (hk1 : k1 < 73) (hk2 : k2 < 73) (hk3 : k3 < 73) (hn1 : k1 ≠ k3) (hn2 : k2 ≠ k3) (hT : pz_T σ.2.1) {F : Nat → Int64} (hF : ∀ c, c < 30 → F c = wk_spr (σ.1 k1) (σ.1 k2) c / (nI (xt_z c)).toInt64) : bz_V l ad K 73 mX2_stripOff 3 none (bz_setJ σ k3 (bz_upto (σ.1 k3) F 30)) 0 [some (.ref (ad 12)), some (.ref (ad k1)), some (.ref (ad k2)), some (.ref (ad k3)), none, none, none, none] [] σ := by
  refine bz_iconst dX2_stripOff_0 kc_iconst_0 ?_
  refine bz_ist4 dX2_stripOff_1 (by decide) rfl ?_
  refine bz_st (by rw [bz_setJ_id (bz_upto_0 _ F)]) (t_strip_loop h1 h2 h3 hk1 hk2 hk3 hn1 hn2 hT hF 30 0 none none none rfl)
theorem t_meet_loop (h1 : bz_sh k1 = (1, 30, 0, [])) (h2 : bz_sh k2 = (1, 30, 0, [])) (h3 : bz_sh k3 = (1, 30, 0, [])) (hk1 : k1 < 73) (hk2 : k2 < 73) (hk3 : k3 < 73) (hn1 : k1 ≠ k3) (hn2 : k2 ≠ k3) (hT : pz_T σ.2.1) :
    ∀ (m c : Nat), c + m = 30 → bz_V l ad K 73 mX2_meetWith 1 none (bz_setJ σ k3 (bz_upto (σ.1 k3) (fun c => σ.1 k1 c * wk_sp (σ.1 k2) c) 30)) 3 [some (.ref (ad 12)), some (.ref (ad k1)), some (.ref (ad k2)), some (.ref (ad k3)), some (.int (nI c))] [] (bz_setJ σ k3 (bz_upto (σ.1 k3) (fun c => σ.1 k1 c * wk_sp (σ.1 k2) c) c)) := by
  intro m
  induction m with
  | zero =>
    intro c hc
    obtain rfl : c = 30 := by omega
    refine bz_iload dX2_meetWith_3 rfl ?_
    refine bz_bipush dX2_meetWith_5 kc_bipush_30 ?_
    refine bz_icmp_geN (tgt := 32) dX2_meetWith_7 rfl (by omega) (by omega) (fun _ => ?_) (fun q => absurd q (by omega))
    refine bz_vret dX2_meetWith_32 rfl rfl
  | succ m ih =>
    intro c hc
    have h30 : c < 30 := by omega
    refine bz_iload dX2_meetWith_3 rfl ?_
    refine bz_bipush dX2_meetWith_5 kc_bipush_30 ?_
    refine bz_icmp_geN (tgt := 32) dX2_meetWith_7 rfl (by omega) (by omega) (fun q => absurd q (by omega)) (fun _ => ?_)
    refine bz_aload_n dX2_meetWith_10 rfl ?_
    refine bz_iload dX2_meetWith_11 rfl ?_
    refine bz_aload_n dX2_meetWith_13 rfl ?_
    refine bz_iload dX2_meetWith_14 rfl ?_
    refine bz_laload dX2_meetWith_16 h1 (by omega) h30 ?_
    refine bz_topl (y := σ.1 k1 c) (by rw [bz_setJ_ne hn1]) ?_
    refine bz_aload_n dX2_meetWith_17 rfl ?_
    refine bz_iload dX2_meetWith_18 rfl ?_
    refine bz_aload_n dX2_meetWith_20 rfl ?_
    refine bz_cV2L (z := 0) mv_X2_scalarWithPower mi_X2_scalarWithPower lk_X2_68 dX2_meetWith_21 (by exact t_swp h30 h2 hk2 (by exact hT)) (by omega) rfl (by omega) rfl rfl rfl (Nat.le_of_ble_eq_true rfl) (Nat.le_of_ble_eq_true rfl) ?_
    refine bz_topl (y := wk_sp (σ.1 k2) c) (by rw [bz_setJ_ne hn2]) ?_
    refine bz_lmul dX2_meetWith_24 ?_
    refine bz_lastore dX2_meetWith_25 h3 (by omega) h30 ?_
    first | refine bz_iinc4N dX2_meetWith_26 (by decide) rfl ?_ | refine bz_iinc4 dX2_meetWith_26 rfl (by decide) rfl ?_
    refine bz_goto (tgt := 3) dX2_meetWith_29 rfl ?_
    refine bz_st (by rw [bz_upJ_set, bz_upto_s rfl]) ?_
    exact ih (c + 1) (by omega)
theorem t_meetWith (h1 : bz_sh k1 = (1, 30, 0, [])) (h2 : bz_sh k2 = (1, 30, 0, [])) (h3 : bz_sh k3 = (1, 30, 0, [])) (hk1 : k1 < 73) (hk2 : k2 < 73) (hk3 : k3 < 73) (hn1 : k1 ≠ k3) (hn2 : k2 ≠ k3) (hT : pz_T σ.2.1) : bz_V l ad K 73 mX2_meetWith 1 none (bz_setJ σ k3 (bz_upto (σ.1 k3) (fun c => σ.1 k1 c * wk_sp (σ.1 k2) c) 30)) 0 [some (.ref (ad 12)), some (.ref (ad k1)), some (.ref (ad k2)), some (.ref (ad k3)), none] [] σ := by
  refine bz_iconst dX2_meetWith_0 kc_iconst_0 ?_
  refine bz_ist4 dX2_meetWith_1 (by decide) rfl ?_
  refine bz_st (by rw [bz_setJ_id (bz_upto_0 _ (fun c => σ.1 k1 c * wk_sp (σ.1 k2) c))]) (t_meet_loop h1 h2 h3 hk1 hk2 hk3 hn1 hn2 hT 30 0 rfl)
theorem t_multd_loop {n : Nat} (hn : 9 ≤ n) {a k : Nat} (ha : a < 30) (hk : k < 7) (hm : ∀ i, i < 30 → σ.2.1 3 i = nI (xt_mark i)) :
    ∀ (m i : Nat), i + m = 6 → bz_V l ad K n mX1_multiplied 2 (some (.int (xt_o (xt_mul a k)))) σ 8 [some (.ref (ad 0)), some (.int (nI a)), some (.int (nI k)), some (.int (nI (nsum (fun i => xt_mk (k * xp_part a i)) i))), some (.int (nI (nsum (fun i => k * xp_part a i) i))), some (.int (nI i))] [] σ := by
  have hok := xt_mul_ok a ha k hk
  intro m
  induction m with
  | zero =>
    intro i hi
    obtain rfl : i = 6 := by omega
    refine bz_iload dX1_multiplied_8 rfl ?_
    refine bz_bipush dX1_multiplied_10 kc_bipush_6 ?_
    refine bz_icmp_geN (tgt := 50) dX1_multiplied_12 rfl (by omega) (by omega) (fun _ => ?_) (fun q => absurd q (by omega))
    refine bz_aload_n dX1_multiplied_50 rfl ?_
    refine bz_iload_n dX1_multiplied_51 rfl ?_
    refine bz_iload dX1_multiplied_52 rfl ?_
    refine bz_cV2I (z := 2) mv_X1_numberOf mi_X1_numberOf lk_X1_44 dX1_multiplied_54 (by exact t_numberOf hn hok.2.1 hok.2.2 hm) (by omega) rfl (by omega) rfl rfl rfl (Nat.le_of_ble_eq_true rfl) (Nat.le_of_ble_eq_true rfl) ?_
    refine bz_iret dX1_multiplied_57 rfl ?_ ?_
    · rw [← hok.1]
      rfl
    · rfl
  | succ m ih =>
    intro i hi
    have h6 : i < 6 := by omega
    have hp := xt_part6 a ha i h6
    have hkp : k * xp_part a i ≤ 36 := Nat.le_trans (Nat.mul_le_mul (show k ≤ 6 by omega) hp) (by omega)
    refine bz_iload dX1_multiplied_8 rfl ?_
    refine bz_bipush dX1_multiplied_10 kc_bipush_6 ?_
    refine bz_icmp_geN (tgt := 50) dX1_multiplied_12 rfl (by omega) (by omega) (fun q => absurd q (by omega)) (fun _ => ?_)
    refine bz_iload_n dX1_multiplied_15 rfl ?_
    refine bz_iload_n dX1_multiplied_16 rfl ?_
    refine bz_aload_n dX1_multiplied_17 rfl ?_
    refine bz_iload_n dX1_multiplied_18 rfl ?_
    refine bz_iload dX1_multiplied_19 rfl ?_
    refine bz_cV2I (z := 0) mv_X1_partAt mi_X1_partAt lk_X1_70 dX1_multiplied_21 (by exact t_partAt ha h6) (by omega) rfl (by omega) rfl rfl rfl (Nat.le_of_ble_eq_true rfl) (Nat.le_of_ble_eq_true rfl) ?_
    first | refine bz_imulN dX1_multiplied_24 ?_ | refine bz_imul dX1_multiplied_24 ?_
    refine bz_cS1I (z := 0) mv_X1_markOf ws_X1_markOf lk_X1_73 dX1_multiplied_25 (by exact t_markOf (by omega)) (by omega) rfl (Nat.le_of_ble_eq_true rfl) (Nat.le_of_ble_eq_true rfl) ?_
    first | refine bz_iaddN dX1_multiplied_28 ?_ | refine bz_iadd dX1_multiplied_28 ?_
    refine bz_ist3 dX1_multiplied_29 (by decide) rfl ?_
    refine bz_iload dX1_multiplied_30 rfl ?_
    refine bz_iload_n dX1_multiplied_32 rfl ?_
    refine bz_aload_n dX1_multiplied_33 rfl ?_
    refine bz_iload_n dX1_multiplied_34 rfl ?_
    refine bz_iload dX1_multiplied_35 rfl ?_
    refine bz_cV2I (z := 0) mv_X1_partAt mi_X1_partAt lk_X1_70 dX1_multiplied_37 (by exact t_partAt ha h6) (by omega) rfl (by omega) rfl rfl rfl (Nat.le_of_ble_eq_true rfl) (Nat.le_of_ble_eq_true rfl) ?_
    first | refine bz_imulN dX1_multiplied_40 ?_ | refine bz_imul dX1_multiplied_40 ?_
    first | refine bz_iaddN dX1_multiplied_41 ?_ | refine bz_iadd dX1_multiplied_41 ?_
    refine bz_ist4 dX1_multiplied_42 (by decide) rfl ?_
    first | refine bz_iinc5N dX1_multiplied_44 (by decide) rfl ?_ | refine bz_iinc5 dX1_multiplied_44 rfl (by decide) rfl ?_
    refine bz_goto (tgt := 8) dX1_multiplied_47 rfl ?_
    exact ih (i + 1) (by omega)
theorem t_multiplied {n : Nat} (hn : 9 ≤ n) {a k : Nat} (ha : a < 30) (hk : k < 7) (hm : ∀ i, i < 30 → σ.2.1 3 i = nI (xt_mark i)) : bz_V l ad K n mX1_multiplied 2 (some (.int (xt_o (xt_mul a k)))) σ 0 [some (.ref (ad 0)), some (.int (nI a)), some (.int (nI k)), none, none, none] [] σ := by
  refine bz_iconst dX1_multiplied_0 kc_iconst_0 ?_
  refine bz_ist3 dX1_multiplied_1 (by decide) rfl ?_
  refine bz_iconst dX1_multiplied_2 kc_iconst_0 ?_
  refine bz_ist4 dX1_multiplied_3 (by decide) rfl ?_
  refine bz_iconst dX1_multiplied_5 kc_iconst_0 ?_
  refine bz_ist5 dX1_multiplied_6 (by decide) rfl ?_
  exact t_multd_loop hn ha hk hm 6 0 rfl
theorem t_pow_loop {x : Int64} {e : Nat} (he : e < 2 ^ 31) :
    ∀ (m i : Nat), i + m = e → bz_V l ad K 73 mX2_powerOf 0 (some (.long (zpow x e))) σ 5 [some (.long x), none, some (.int (nI e)), some (.long (zpow x i)), none, some (.int (nI i))] [] σ := by
  intro m
  induction m with
  | zero =>
    intro i hi
    obtain rfl : i = e := by omega
    refine bz_iload dX2_powerOf_5 rfl ?_
    refine bz_iload_n dX2_powerOf_7 rfl ?_
    refine bz_icmp_geN (tgt := 21) dX2_powerOf_8 rfl (by omega) (by omega) (fun _ => ?_) (fun q => absurd q (by omega))
    refine bz_lload_n dX2_powerOf_21 rfl ?_
    refine bz_lret dX2_powerOf_22 rfl rfl rfl
  | succ m ih =>
    intro i hi
    refine bz_iload dX2_powerOf_5 rfl ?_
    refine bz_iload_n dX2_powerOf_7 rfl ?_
    refine bz_icmp_geN (tgt := 21) dX2_powerOf_8 rfl (by omega) (by omega) (fun q => absurd q (by omega)) (fun _ => ?_)
    refine bz_lload_n dX2_powerOf_11 rfl ?_
    refine bz_lload_n dX2_powerOf_12 rfl ?_
    refine bz_lmul dX2_powerOf_13 ?_
    refine bz_lst3 dX2_powerOf_14 (by decide) rfl ?_
    first | refine bz_iinc5N dX2_powerOf_15 (by decide) rfl ?_ | refine bz_iinc5 dX2_powerOf_15 rfl (by decide) rfl ?_
    refine bz_goto (tgt := 5) dX2_powerOf_18 rfl ?_
    exact ih (i + 1) (by omega)
theorem t_powerOf {x : Int64} {e : Nat} (he : e < 2 ^ 31) : bz_V l ad K 73 mX2_powerOf 0 (some (.long (zpow x e))) σ 0 [some (.long x), none, some (.int (nI e)), none, none, none] [] σ := by
  refine bz_lconst dX2_powerOf_0 kc_lconst_1 ?_
  refine bz_lst3 dX2_powerOf_1 (by decide) rfl ?_
  refine bz_iconst dX2_powerOf_2 kc_iconst_0 ?_
  refine bz_ist5 dX2_powerOf_3 (by decide) rfl ?_
  exact t_pow_loop he e 0 (Nat.zero_add _)
end WL
