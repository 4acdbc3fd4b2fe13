/-! BasisMoves: the rest of the calls -/
def nx (F : Nat → Int64) : Nat → Nat → Int32
  | _, 0 => -6
  | a, m + 1 => if F a = 0 then nx F (a + 1) m else nI a
theorem nx_congr {F G : Nat → Int64} (h : ∀ j, j < 30 → F j = G j) : ∀ (m a : Nat), a + m = 30 → nx F a m = nx G a m
  | 0, _, _ => rfl
  | m + 1, a, hm => by rw [nx, nx, h a (by omega), nx_congr h m (a + 1) (by omega)]
theorem bz_ge_lt {x : Int32} {N : Nat} (hN : N + 1 < 2 ^ 31) (h : nI (N + 1) ≤ x) : nI N < x := by
  have := Int32.le_iff_toInt_le.mp h
  rw [nI_toInt hN] at this
  rw [Int32.lt_iff_toInt_lt, nI_toInt (by omega)]
  omega
section X3D
variable {l : Launch} {ad : Nat → Nat} {K : bz_K} {σ σ0 σ' : bz_S} {r : Option Value}
theorem x_coef_1 {x1 x2 x3 x4 : Int32} (h : x1 < 0 ∨ nI 8 ≤ x1) : bz_V l ad K 73 mX3_coefficient 4 (some (.long (-4000000000000000001))) σ 0 [some (.ref (ad 23)), some (.int x1), some (.int x2), some (.int x3), some (.int x4), none, none, none, none] [] σ := by
  refine bz_iload_n dX3_coefficient_0 rfl ?_
  refine bz_cS1I (z := 0) mv_X3_isSlot ws_X3_isSlot lk_X3_89 dX3_coefficient_1 (by exact t_isSlotF h) (by omega) rfl (Nat.le_of_ble_eq_true rfl) (Nat.le_of_ble_eq_true rfl) ?_
  refine bz_if_eq (tgt := 21) dX3_coefficient_4 rfl (fun _ => ?_) (fun q => absurd (by decide) q)
  refine bz_ldc2 kl_X3_118 dX3_coefficient_21 ?_
  refine bz_lret dX3_coefficient_24 rfl rfl rfl
theorem x_coef_2 {s : Nat} {x2 x3 x4 : Int32} (hs : s < 8) (h : x2 < 0 ∨ nI 5 ≤ x2) : bz_V l ad K 73 mX3_coefficient 4 (some (.long (-4000000000000000001))) σ 0 [some (.ref (ad 23)), some (.int (nI s)), some (.int x2), some (.int x3), some (.int x4), none, none, none, none] [] σ := by
  refine bz_iload_n dX3_coefficient_0 rfl ?_
  refine bz_cS1I (z := 0) mv_X3_isSlot ws_X3_isSlot lk_X3_89 dX3_coefficient_1 (by exact t_isSlot hs) (by omega) rfl (Nat.le_of_ble_eq_true rfl) (Nat.le_of_ble_eq_true rfl) ?_
  refine bz_if_eq (tgt := 21) dX3_coefficient_4 rfl (fun q => absurd q (by decide)) (fun _ => ?_)
  refine bz_iload_n dX3_coefficient_7 rfl ?_
  refine bz_cS1I (z := 0) mv_X3_isBase ws_X3_isBase lk_X3_92 dX3_coefficient_8 (by exact t_isBaseF h) (by omega) rfl (Nat.le_of_ble_eq_true rfl) (Nat.le_of_ble_eq_true rfl) ?_
  refine bz_if_eq (tgt := 21) dX3_coefficient_11 rfl (fun _ => ?_) (fun q => absurd (by decide) q)
  refine bz_ldc2 kl_X3_118 dX3_coefficient_21 ?_
  refine bz_lret dX3_coefficient_24 rfl rfl rfl
theorem x_coef_3 {s base : Nat} {x3 x4 : Int32} (hs : s < 8) (hbs : base < 5) (h : x3 < 0 ∨ nI 30 ≤ x3) : bz_V l ad K 73 mX3_coefficient 4 (some (.long (-4000000000000000001))) σ 0 [some (.ref (ad 23)), some (.int (nI s)), some (.int (nI base)), some (.int x3), some (.int x4), none, none, none, none] [] σ := by
  refine bz_iload_n dX3_coefficient_0 rfl ?_
  refine bz_cS1I (z := 0) mv_X3_isSlot ws_X3_isSlot lk_X3_89 dX3_coefficient_1 (by exact t_isSlot hs) (by omega) rfl (Nat.le_of_ble_eq_true rfl) (Nat.le_of_ble_eq_true rfl) ?_
  refine bz_if_eq (tgt := 21) dX3_coefficient_4 rfl (fun q => absurd q (by decide)) (fun _ => ?_)
  refine bz_iload_n dX3_coefficient_7 rfl ?_
  refine bz_cS1I (z := 0) mv_X3_isBase ws_X3_isBase lk_X3_92 dX3_coefficient_8 (by exact t_isBase hbs) (by omega) rfl (Nat.le_of_ble_eq_true rfl) (Nat.le_of_ble_eq_true rfl) ?_
  refine bz_if_eq (tgt := 21) dX3_coefficient_11 rfl (fun q => absurd q (by decide)) (fun _ => ?_)
  refine bz_iload_n dX3_coefficient_14 rfl ?_
  refine bz_cS1I (z := 0) mv_X3_isPartition ws_X3_isPartition lk_X3_54 dX3_coefficient_15 (by exact t_isPartF h) (by omega) rfl (Nat.le_of_ble_eq_true rfl) (Nat.le_of_ble_eq_true rfl) ?_
  refine bz_if_ne (tgt := 25) dX3_coefficient_18 rfl (fun q => absurd (by decide) q) (fun _ => ?_)
  refine bz_ldc2 kl_X3_118 dX3_coefficient_21 ?_
  refine bz_lret dX3_coefficient_24 rfl rfl rfl
theorem x_coef_4 {s base a : Nat} {x4 : Int32} (hs : s < 8) (hbs : base < 5) (ha : a < 30) (h : x4 < 0 ∨ nI 2 ≤ x4) : bz_V l ad K 73 mX3_coefficient 4 (some (.long (-4000000000000000002))) σ 0 [some (.ref (ad 23)), some (.int (nI s)), some (.int (nI base)), some (.int (nI a)), some (.int x4), none, none, none, none] [] σ := by
  have h0 : ¬ x4 = 0 := fun q => by rw [q] at h; revert h; decide
  have h1 : ¬ x4 = nI 1 := fun q => by rw [q] at h; revert h; decide
  refine bz_iload_n dX3_coefficient_0 rfl ?_
  refine bz_cS1I (z := 0) mv_X3_isSlot ws_X3_isSlot lk_X3_89 dX3_coefficient_1 (by exact t_isSlot hs) (by omega) rfl (Nat.le_of_ble_eq_true rfl) (Nat.le_of_ble_eq_true rfl) ?_
  refine bz_if_eq (tgt := 21) dX3_coefficient_4 rfl (fun q => absurd q (by decide)) (fun _ => ?_)
  refine bz_iload_n dX3_coefficient_7 rfl ?_
  refine bz_cS1I (z := 0) mv_X3_isBase ws_X3_isBase lk_X3_92 dX3_coefficient_8 (by exact t_isBase hbs) (by omega) rfl (Nat.le_of_ble_eq_true rfl) (Nat.le_of_ble_eq_true rfl) ?_
  refine bz_if_eq (tgt := 21) dX3_coefficient_11 rfl (fun q => absurd q (by decide)) (fun _ => ?_)
  refine bz_iload_n dX3_coefficient_14 rfl ?_
  refine bz_cS1I (z := 0) mv_X3_isPartition ws_X3_isPartition lk_X3_54 dX3_coefficient_15 (by exact t_isPart ha) (by omega) rfl (Nat.le_of_ble_eq_true rfl) (Nat.le_of_ble_eq_true rfl) ?_
  refine bz_if_ne (tgt := 25) dX3_coefficient_18 rfl (fun _ => ?_) (fun q => absurd q (by decide))
  refine bz_iload dX3_coefficient_25 rfl ?_
  refine bz_if_eq (tgt := 40) dX3_coefficient_27 rfl (fun q => absurd q (h0)) (fun _ => ?_)
  refine bz_iload dX3_coefficient_30 rfl ?_
  refine bz_iconst dX3_coefficient_32 kc_iconst_1 ?_
  refine bz_icmp_eq (tgt := 40) dX3_coefficient_33 rfl (fun q => absurd q (h1)) (fun _ => ?_)
  refine bz_ldc2 kl_X3_120 dX3_coefficient_36 ?_
  refine bz_lret dX3_coefficient_39 rfl rfl rfl
theorem t_next_loop {x1 x2 : Option Value} {x3 : Int32} :
    ∀ (m i : Nat), i + m = 30 → bz_V l ad K 73 mX3_next 4 (some (.int (nx (σ.1 53) i m))) σ 50 [some (.ref (ad 23)), x1, x2, some (.int x3), some (.int (nI i))] [] σ := by
  intro m
  induction m with
  | zero =>
    intro i hi
    obtain rfl : i = 30 := by omega
    refine bz_iload dX3_next_50 rfl ?_
    refine bz_bipush dX3_next_52 kc_bipush_30 ?_
    refine bz_icmp_geN (tgt := 78) dX3_next_54 rfl (by omega) (by omega) (fun _ => ?_) (fun q => absurd q (by omega))
    refine bz_bipush dX3_next_78 kc_bipush_m6 ?_
    refine bz_iret dX3_next_80 rfl rfl rfl
  | succ m ih =>
    intro i hi
    refine bz_iload dX3_next_50 rfl ?_
    refine bz_bipush dX3_next_52 kc_bipush_30 ?_
    refine bz_icmp_geN (tgt := 78) dX3_next_54 rfl (by omega) (by omega) (fun q => absurd q (by omega)) (fun _ => ?_)
    refine bz_aload_n dX3_next_57 rfl ?_
    refine bz_getf fl_X3_51 dX3_next_58 rfl rfl (by omega) ?_
    refine bz_iload dX3_next_61 rfl ?_
    refine bz_laload dX3_next_63 rfl (by omega) (by omega) ?_
    refine bz_lconst dX3_next_64 kc_lconst_0 ?_
    refine bz_lcmp dX3_next_65 ?_
    refine bz_if_eq (tgt := 72) dX3_next_66 rfl (fun h => ?_) (fun h => ?_)
    · first | refine bz_iinc4N dX3_next_72 (by decide) rfl ?_ | refine bz_iinc4 dX3_next_72 rfl (by decide) rfl ?_
      refine bz_goto (tgt := 50) dX3_next_75 rfl ?_
      have := ih (i + 1) (by omega)
      rw [nx, if_pos (bz_cmp0.mp h)]
      exact this
    · refine bz_iload dX3_next_69 rfl ?_
      refine bz_iret dX3_next_71 rfl ?_ ?_
      · rw [nx, if_neg (fun q => h (bz_cmp0.mpr q))]
      · rfl
theorem x_next {s base f : Nat} {F : Nat → Int64} (hT : pz_T σ.2.1) (hs : s < 8) (hbs : base < 5) (hf : f < 31) (hF : bc_from base (σ.1 (25 + s)) F) :
    ∃ σ2, bz_V l ad K 73 mX3_next 4 (some (.int (nx F f (30 - f)))) σ2 0 [some (.ref (ad 23)), some (.int (nI s)), some (.int (nI base)), some (.int (nI f)), none] [] σ ∧ bz_xr σ σ2 := by
  obtain ⟨σ1, hV1, hf1, h1⟩ := t_from (l := l) (ad := ad) (K := K) (σ := σ) (kx := 25 + s) (ky := 53) hbs (bz_sh25 s hs) rfl (by omega) (by omega) (by omega) (by omega) (by omega) (by omega) (by omega) hT (fun _ _ => rfl) hF
  refine ⟨σ1, ?_, bz_fw_xr hf1 (by omega)⟩
  refine bz_iload_n dX3_next_0 rfl ?_
  refine bz_cS1I (z := 0) mv_X3_isSlot ws_X3_isSlot lk_X3_89 dX3_next_1 (by exact t_isSlot hs) (by omega) rfl (Nat.le_of_ble_eq_true rfl) (Nat.le_of_ble_eq_true rfl) ?_
  refine bz_if_eq (tgt := 14) dX3_next_4 rfl (fun q => absurd q (by decide)) (fun _ => ?_)
  refine bz_iload_n dX3_next_7 rfl ?_
  refine bz_cS1I (z := 0) mv_X3_isBase ws_X3_isBase lk_X3_92 dX3_next_8 (by exact t_isBase hbs) (by omega) rfl (Nat.le_of_ble_eq_true rfl) (Nat.le_of_ble_eq_true rfl) ?_
  refine bz_if_ne (tgt := 16) dX3_next_11 rfl (fun _ => ?_) (fun q => absurd q (by decide))
  refine bz_iload_n dX3_next_16 rfl ?_
  refine bz_if_lt (tgt := 26) dX3_next_17 rfl (fun q => absurd q (nI_pos (by omega))) (fun _ => ?_)
  refine bz_iload_n dX3_next_20 rfl ?_
  refine bz_bipush dX3_next_21 kc_bipush_30 ?_
  refine bz_icmp_leN (tgt := 29) dX3_next_23 rfl (by omega) (by omega) (fun _ => ?_) (fun q => absurd q (by omega))
  refine bz_aload_n dX3_next_29 rfl ?_
  refine bz_getf fl_X3_21 dX3_next_30 rfl rfl (by omega) ?_
  refine bz_iload_n dX3_next_33 rfl ?_
  refine bz_aload_n dX3_next_34 rfl ?_
  refine bz_getf fl_X3_34 dX3_next_35 rfl rfl (by omega) ?_
  refine bz_iload_n dX3_next_38 rfl ?_
  refine bz_aaload dX3_next_39 rfl (by omega) hs ?_
  refine bz_aload_n dX3_next_40 rfl ?_
  refine bz_getf fl_X3_51 dX3_next_41 rfl rfl (by omega) ?_
  refine bz_cVN3U (z := 0) mv_X0_fromWeights mi_X0_fromWeights lk_X3_122 dX3_next_44 (by exact hV1) (by omega) rfl (by omega) rfl rfl rfl (Nat.le_of_ble_eq_true rfl) (Nat.le_of_ble_eq_true rfl) ?_
  refine bz_iload_n dX3_next_47 rfl ?_
  refine bz_ist4 dX3_next_48 (by decide) rfl ?_
  rw [← nx_congr h1 _ _ (show f + (30 - f) = 30 by omega)]
  exact t_next_loop _ _ (by omega)
theorem x_next_1 {x1 x2 x3 : Int32} (h : x1 < 0 ∨ nI 8 ≤ x1) : bz_V l ad K 73 mX3_next 4 (some (.int (-1))) σ 0 [some (.ref (ad 23)), some (.int x1), some (.int x2), some (.int x3), none] [] σ := by
  refine bz_iload_n dX3_next_0 rfl ?_
  refine bz_cS1I (z := 0) mv_X3_isSlot ws_X3_isSlot lk_X3_89 dX3_next_1 (by exact t_isSlotF h) (by omega) rfl (Nat.le_of_ble_eq_true rfl) (Nat.le_of_ble_eq_true rfl) ?_
  refine bz_if_eq (tgt := 14) dX3_next_4 rfl (fun _ => ?_) (fun q => absurd (by decide) q)
  refine bz_iconst dX3_next_14 kc_iconst_m1 ?_
  refine bz_iret dX3_next_15 rfl rfl rfl
theorem x_next_2 {s : Nat} {x2 x3 : Int32} (hs : s < 8) (h : x2 < 0 ∨ nI 5 ≤ x2) : bz_V l ad K 73 mX3_next 4 (some (.int (-1))) σ 0 [some (.ref (ad 23)), some (.int (nI s)), some (.int x2), some (.int x3), none] [] σ := by
  refine bz_iload_n dX3_next_0 rfl ?_
  refine bz_cS1I (z := 0) mv_X3_isSlot ws_X3_isSlot lk_X3_89 dX3_next_1 (by exact t_isSlot hs) (by omega) rfl (Nat.le_of_ble_eq_true rfl) (Nat.le_of_ble_eq_true rfl) ?_
  refine bz_if_eq (tgt := 14) dX3_next_4 rfl (fun q => absurd q (by decide)) (fun _ => ?_)
  refine bz_iload_n dX3_next_7 rfl ?_
  refine bz_cS1I (z := 0) mv_X3_isBase ws_X3_isBase lk_X3_92 dX3_next_8 (by exact t_isBaseF h) (by omega) rfl (Nat.le_of_ble_eq_true rfl) (Nat.le_of_ble_eq_true rfl) ?_
  refine bz_if_ne (tgt := 16) dX3_next_11 rfl (fun q => absurd (by decide) q) (fun _ => ?_)
  refine bz_iconst dX3_next_14 kc_iconst_m1 ?_
  refine bz_iret dX3_next_15 rfl rfl rfl
theorem x_next_3 {s base : Nat} {x3 : Int32} (hs : s < 8) (hbs : base < 5) (h : x3 < 0 ∨ nI 31 ≤ x3) : bz_V l ad K 73 mX3_next 4 (some (.int (-2))) σ 0 [some (.ref (ad 23)), some (.int (nI s)), some (.int (nI base)), some (.int x3), none] [] σ := by
  refine bz_iload_n dX3_next_0 rfl ?_
  refine bz_cS1I (z := 0) mv_X3_isSlot ws_X3_isSlot lk_X3_89 dX3_next_1 (by exact t_isSlot hs) (by omega) rfl (Nat.le_of_ble_eq_true rfl) (Nat.le_of_ble_eq_true rfl) ?_
  refine bz_if_eq (tgt := 14) dX3_next_4 rfl (fun q => absurd q (by decide)) (fun _ => ?_)
  refine bz_iload_n dX3_next_7 rfl ?_
  refine bz_cS1I (z := 0) mv_X3_isBase ws_X3_isBase lk_X3_92 dX3_next_8 (by exact t_isBase hbs) (by omega) rfl (Nat.le_of_ble_eq_true rfl) (Nat.le_of_ble_eq_true rfl) ?_
  refine bz_if_ne (tgt := 16) dX3_next_11 rfl (fun _ => ?_) (fun q => absurd q (by decide))
  refine bz_iload_n dX3_next_16 rfl ?_
  refine bz_if_lt (tgt := 26) dX3_next_17 rfl (fun h1 => ?_) (fun h1 => ?_)
  · refine bz_bipush dX3_next_26 kc_bipush_m2 ?_
    refine bz_iret dX3_next_28 rfl rfl rfl
  · refine bz_iload_n dX3_next_20 rfl ?_
    refine bz_bipush dX3_next_21 kc_bipush_30 ?_
    refine bz_icmp_le (tgt := 29) dX3_next_23 rfl (fun q => absurd q (Int32.not_le.mpr (bz_ge_lt (N := 30) (by decide) (h.resolve_left h1)))) (fun _ => ?_)
    refine bz_bipush dX3_next_26 kc_bipush_m2 ?_
    refine bz_iret dX3_next_28 rfl rfl rfl
theorem x_value {s : Nat} {x y z : Int32} (hT : pz_T σ.2.1) (hs : s < 8) (hx : zw x.toInt64 9) (hy : zw y.toInt64 9) (hz : zw z.toInt64 9) :
    bz_V l ad K 73 mX3_value 3 (some (.long (wk_val (σ.1 (25 + s)) x.toInt64 y.toInt64 z.toInt64))) σ 0 [some (.ref (ad 23)), some (.int (nI s)), some (.int x), some (.int y), some (.int z)] [] σ := by
  have h25 := bz_sh25 s hs
  refine bz_iload_n dX3_value_0 rfl ?_
  refine bz_cS1I (z := 0) mv_X3_isSlot ws_X3_isSlot lk_X3_89 dX3_value_1 (by exact t_isSlot hs) (by omega) rfl (Nat.le_of_ble_eq_true rfl) (Nat.le_of_ble_eq_true rfl) ?_
  refine bz_if_ne (tgt := 11) dX3_value_4 rfl (fun _ => ?_) (fun q => absurd q (by decide))
  refine bz_iload_n dX3_value_11 rfl ?_
  refine bz_i2l dX3_value_12 ?_
  refine bz_ldc2 kl_X3_131 dX3_value_13 ?_
  refine bz_cS2I (z := 0) mv_X3_isWithin ws_X3_isWithin lk_X3_97 dX3_value_16 (by exact t_isWithin hx) (by omega) rfl (Nat.le_of_ble_eq_true rfl) (Nat.le_of_ble_eq_true rfl) ?_
  refine bz_if_eq (tgt := 45) dX3_value_19 rfl (fun q => absurd q (by decide)) (fun _ => ?_)
  refine bz_iload_n dX3_value_22 rfl ?_
  refine bz_i2l dX3_value_23 ?_
  refine bz_ldc2 kl_X3_131 dX3_value_24 ?_
  refine bz_cS2I (z := 0) mv_X3_isWithin ws_X3_isWithin lk_X3_97 dX3_value_27 (by exact t_isWithin hy) (by omega) rfl (Nat.le_of_ble_eq_true rfl) (Nat.le_of_ble_eq_true rfl) ?_
  refine bz_if_eq (tgt := 45) dX3_value_30 rfl (fun q => absurd q (by decide)) (fun _ => ?_)
  refine bz_iload dX3_value_33 rfl ?_
  refine bz_i2l dX3_value_35 ?_
  refine bz_ldc2 kl_X3_131 dX3_value_36 ?_
  refine bz_cS2I (z := 0) mv_X3_isWithin ws_X3_isWithin lk_X3_97 dX3_value_39 (by exact t_isWithin hz) (by omega) rfl (Nat.le_of_ble_eq_true rfl) (Nat.le_of_ble_eq_true rfl) ?_
  refine bz_if_ne (tgt := 49) dX3_value_42 rfl (fun _ => ?_) (fun q => absurd q (by decide))
  refine bz_aload_n dX3_value_49 rfl ?_
  refine bz_getf fl_X3_28 dX3_value_50 rfl rfl (by omega) ?_
  refine bz_aload_n dX3_value_53 rfl ?_
  refine bz_getf fl_X3_34 dX3_value_54 rfl rfl (by omega) ?_
  refine bz_iload_n dX3_value_57 rfl ?_
  refine bz_aaload dX3_value_58 rfl (by omega) hs ?_
  refine bz_iload_n dX3_value_59 rfl ?_
  refine bz_i2l dX3_value_60 ?_
  refine bz_iload_n dX3_value_61 rfl ?_
  refine bz_i2l dX3_value_62 ?_
  refine bz_iload dX3_value_63 rfl ?_
  refine bz_i2l dX3_value_65 ?_
  refine bz_cVN4L (z := 7) mv_X2_valueAt mi_X2_valueAt lk_X3_133 dX3_value_66 (by exact t_valueAt h25 (by omega) (by exact hT)) (by omega) rfl (by omega) rfl rfl rfl (Nat.le_of_ble_eq_true rfl) (Nat.le_of_ble_eq_true rfl) ?_
  refine bz_lret dX3_value_69 rfl rfl rfl
theorem x_value_1 {x1 x y z : Int32} (h : x1 < 0 ∨ nI 8 ≤ x1) : bz_V l ad K 73 mX3_value 3 (some (.long (-4000000000000000001))) σ 0 [some (.ref (ad 23)), some (.int x1), some (.int x), some (.int y), some (.int z)] [] σ := by
  refine bz_iload_n dX3_value_0 rfl ?_
  refine bz_cS1I (z := 0) mv_X3_isSlot ws_X3_isSlot lk_X3_89 dX3_value_1 (by exact t_isSlotF h) (by omega) rfl (Nat.le_of_ble_eq_true rfl) (Nat.le_of_ble_eq_true rfl) ?_
  refine bz_if_ne (tgt := 11) dX3_value_4 rfl (fun q => absurd (by decide) q) (fun _ => ?_)
  refine bz_ldc2 kl_X3_118 dX3_value_7 ?_
  refine bz_lret dX3_value_10 rfl rfl rfl
theorem x_value_2 {s : Nat} {x y z : Int32} (hs : s < 8) (h : ¬ (zw x.toInt64 9 ∧ zw y.toInt64 9 ∧ zw z.toInt64 9)) : bz_V l ad K 73 mX3_value 3 (some (.long (-4000000000000000002))) σ 0 [some (.ref (ad 23)), some (.int (nI s)), some (.int x), some (.int y), some (.int z)] [] σ := by
  refine bz_iload_n dX3_value_0 rfl ?_
  refine bz_cS1I (z := 0) mv_X3_isSlot ws_X3_isSlot lk_X3_89 dX3_value_1 (by exact t_isSlot hs) (by omega) rfl (Nat.le_of_ble_eq_true rfl) (Nat.le_of_ble_eq_true rfl) ?_
  refine bz_if_ne (tgt := 11) dX3_value_4 rfl (fun _ => ?_) (fun q => absurd q (by decide))
  by_cases hx : zw x.toInt64 9
  · refine bz_iload_n dX3_value_11 rfl ?_
    refine bz_i2l dX3_value_12 ?_
    refine bz_ldc2 kl_X3_131 dX3_value_13 ?_
    refine bz_cS2I (z := 0) mv_X3_isWithin ws_X3_isWithin lk_X3_97 dX3_value_16 (by exact t_isWithin hx) (by omega) rfl (Nat.le_of_ble_eq_true rfl) (Nat.le_of_ble_eq_true rfl) ?_
    refine bz_if_eq (tgt := 45) dX3_value_19 rfl (fun q => absurd q (by decide)) (fun _ => ?_)
    by_cases hy : zw y.toInt64 9
    · refine bz_iload_n dX3_value_22 rfl ?_
      refine bz_i2l dX3_value_23 ?_
      refine bz_ldc2 kl_X3_131 dX3_value_24 ?_
      refine bz_cS2I (z := 0) mv_X3_isWithin ws_X3_isWithin lk_X3_97 dX3_value_27 (by exact t_isWithin hy) (by omega) rfl (Nat.le_of_ble_eq_true rfl) (Nat.le_of_ble_eq_true rfl) ?_
      refine bz_if_eq (tgt := 45) dX3_value_30 rfl (fun q => absurd q (by decide)) (fun _ => ?_)
      refine bz_iload dX3_value_33 rfl ?_
      refine bz_i2l dX3_value_35 ?_
      refine bz_ldc2 kl_X3_131 dX3_value_36 ?_
      refine bz_cS2I (z := 0) mv_X3_isWithin ws_X3_isWithin lk_X3_97 dX3_value_39 (by exact t_isWithinF (fun q => h ⟨hx, hy, q⟩)) (by omega) rfl (Nat.le_of_ble_eq_true rfl) (Nat.le_of_ble_eq_true rfl) ?_
      refine bz_if_ne (tgt := 49) dX3_value_42 rfl (fun q => absurd (by decide) q) (fun _ => ?_)
      refine bz_ldc2 kl_X3_120 dX3_value_45 ?_
      refine bz_lret dX3_value_48 rfl rfl rfl
    · refine bz_iload_n dX3_value_22 rfl ?_
      refine bz_i2l dX3_value_23 ?_
      refine bz_ldc2 kl_X3_131 dX3_value_24 ?_
      refine bz_cS2I (z := 0) mv_X3_isWithin ws_X3_isWithin lk_X3_97 dX3_value_27 (by exact t_isWithinF hy) (by omega) rfl (Nat.le_of_ble_eq_true rfl) (Nat.le_of_ble_eq_true rfl) ?_
      refine bz_if_eq (tgt := 45) dX3_value_30 rfl (fun _ => ?_) (fun q => absurd (by decide) q)
      refine bz_ldc2 kl_X3_120 dX3_value_45 ?_
      refine bz_lret dX3_value_48 rfl rfl rfl
  · refine bz_iload_n dX3_value_11 rfl ?_
    refine bz_i2l dX3_value_12 ?_
    refine bz_ldc2 kl_X3_131 dX3_value_13 ?_
    refine bz_cS2I (z := 0) mv_X3_isWithin ws_X3_isWithin lk_X3_97 dX3_value_16 (by exact t_isWithinF hx) (by omega) rfl (Nat.le_of_ble_eq_true rfl) (Nat.le_of_ble_eq_true rfl) ?_
    refine bz_if_eq (tgt := 45) dX3_value_19 rfl (fun _ => ?_) (fun q => absurd (by decide) q)
    refine bz_ldc2 kl_X3_120 dX3_value_45 ?_
    refine bz_lret dX3_value_48 rfl rfl rfl
theorem x_scalar {a b : Nat} {A B : Nat → Int64} (hT : pz_T σ.2.1) (ha : a < 8) (hb : b < 8) (hA : bc_from 4 (σ.1 (25 + a)) A) (hB : bc_from 4 (σ.1 (25 + b)) B) :
    ∃ σ2, bz_V l ad K 73 mX3_scalar 4 (some (.long (zsum (fun i => A i * B i) 0 30))) σ2 0 [some (.ref (ad 23)), some (.int (nI a)), some (.int (nI b))] [] σ ∧ bz_xr σ σ2 := by
  obtain ⟨σ1, hV1, hf1, h1⟩ := t_from (l := l) (ad := ad) (K := K) (σ := σ) (kx := 25 + a) (ky := 51) (base := 4) (by omega) (bz_sh25 a ha) rfl (by omega) (by omega) (by omega) (by omega) (by omega) (by omega) (by omega) hT (fun _ _ => rfl) hA
  have hw : σ1.1 (25 + b) = σ.1 (25 + b) := hf1.2 _ (by omega) (by omega) (by omega)
  obtain ⟨σ2, hV2, hf2, h2⟩ := t_from (l := l) (ad := ad) (K := K) (σ := σ1) (kx := 25 + b) (ky := 52) (base := 4) (by omega) (bz_sh25 b hb) rfl (by omega) (by omega) (by omega) (by omega) (by omega) (by omega) (by omega) (bz_pT hf1.1 hT) (fun j _ => by rw [hw]) hB
  refine ⟨σ2, ?_, bz_xr_tr (bz_fw_xr hf2 (by omega)) (bz_fw_xr hf1 (by omega))⟩
  refine bz_iload_n dX3_scalar_0 rfl ?_
  refine bz_cS1I (z := 0) mv_X3_isSlot ws_X3_isSlot lk_X3_89 dX3_scalar_1 (by exact t_isSlot ha) (by omega) rfl (Nat.le_of_ble_eq_true rfl) (Nat.le_of_ble_eq_true rfl) ?_
  refine bz_if_eq (tgt := 14) dX3_scalar_4 rfl (fun q => absurd q (by decide)) (fun _ => ?_)
  refine bz_iload_n dX3_scalar_7 rfl ?_
  refine bz_cS1I (z := 0) mv_X3_isSlot ws_X3_isSlot lk_X3_89 dX3_scalar_8 (by exact t_isSlot hb) (by omega) rfl (Nat.le_of_ble_eq_true rfl) (Nat.le_of_ble_eq_true rfl) ?_
  refine bz_if_ne (tgt := 18) dX3_scalar_11 rfl (fun _ => ?_) (fun q => absurd q (by decide))
  refine bz_aload_n dX3_scalar_18 rfl ?_
  refine bz_getf fl_X3_21 dX3_scalar_19 rfl rfl (by omega) ?_
  refine bz_iconst dX3_scalar_22 kc_iconst_4 ?_
  refine bz_aload_n dX3_scalar_23 rfl ?_
  refine bz_getf fl_X3_34 dX3_scalar_24 rfl rfl (by omega) ?_
  refine bz_iload_n dX3_scalar_27 rfl ?_
  refine bz_aaload dX3_scalar_28 rfl (by omega) ha ?_
  refine bz_aload_n dX3_scalar_29 rfl ?_
  refine bz_getf fl_X3_44 dX3_scalar_30 rfl rfl (by omega) ?_
  refine bz_cVN3U (z := 0) mv_X0_fromWeights mi_X0_fromWeights lk_X3_122 dX3_scalar_33 (by exact hV1) (by omega) rfl (by omega) rfl rfl rfl (Nat.le_of_ble_eq_true rfl) (Nat.le_of_ble_eq_true rfl) ?_
  refine bz_aload_n dX3_scalar_36 rfl ?_
  refine bz_getf fl_X3_21 dX3_scalar_37 rfl rfl (by omega) ?_
  refine bz_iconst dX3_scalar_40 kc_iconst_4 ?_
  refine bz_aload_n dX3_scalar_41 rfl ?_
  refine bz_getf fl_X3_34 dX3_scalar_42 rfl rfl (by omega) ?_
  refine bz_iload_n dX3_scalar_45 rfl ?_
  refine bz_aaload dX3_scalar_46 rfl (by omega) hb ?_
  refine bz_aload_n dX3_scalar_47 rfl ?_
  refine bz_getf fl_X3_48 dX3_scalar_48 rfl rfl (by omega) ?_
  refine bz_cVN3U (z := 0) mv_X0_fromWeights mi_X0_fromWeights lk_X3_122 dX3_scalar_51 (by exact hV2) (by omega) rfl (by omega) rfl rfl rfl (Nat.le_of_ble_eq_true rfl) (Nat.le_of_ble_eq_true rfl) ?_
  refine bz_aload_n dX3_scalar_54 rfl ?_
  refine bz_getf fl_X3_44 dX3_scalar_55 rfl rfl (by omega) ?_
  refine bz_aload_n dX3_scalar_58 rfl ?_
  refine bz_getf fl_X3_48 dX3_scalar_59 rfl rfl (by omega) ?_
  refine bz_cSN2L (z := 3) mv_X2_scalarOf ws_X2_scalarOf lk_X3_137 dX3_scalar_62 (by exact t_scalarOf rfl rfl (by omega) (by omega)) (by omega) rfl (Nat.le_of_ble_eq_true rfl) (Nat.le_of_ble_eq_true rfl) ?_
  refine bz_lret dX3_scalar_65 rfl ?_ ?_
  · refine zsum_congr _ _ (fun i _ hi => ?_)
    rw [h2 i (by omega), hf2.2 51 (by omega) (by omega) (by omega), h1 i (by omega)]
  · rfl
theorem x_scalar_1 {x1 x2 : Int32} (h : x1 < 0 ∨ nI 8 ≤ x1) : bz_V l ad K 73 mX3_scalar 4 (some (.long (-4000000000000000001))) σ 0 [some (.ref (ad 23)), some (.int x1), some (.int x2)] [] σ := by
  refine bz_iload_n dX3_scalar_0 rfl ?_
  refine bz_cS1I (z := 0) mv_X3_isSlot ws_X3_isSlot lk_X3_89 dX3_scalar_1 (by exact t_isSlotF h) (by omega) rfl (Nat.le_of_ble_eq_true rfl) (Nat.le_of_ble_eq_true rfl) ?_
  refine bz_if_eq (tgt := 14) dX3_scalar_4 rfl (fun _ => ?_) (fun q => absurd (by decide) q)
  refine bz_ldc2 kl_X3_118 dX3_scalar_14 ?_
  refine bz_lret dX3_scalar_17 rfl rfl rfl
theorem x_scalar_2 {a : Nat} {x2 : Int32} (ha : a < 8) (h : x2 < 0 ∨ nI 8 ≤ x2) : bz_V l ad K 73 mX3_scalar 4 (some (.long (-4000000000000000001))) σ 0 [some (.ref (ad 23)), some (.int (nI a)), some (.int x2)] [] σ := by
  refine bz_iload_n dX3_scalar_0 rfl ?_
  refine bz_cS1I (z := 0) mv_X3_isSlot ws_X3_isSlot lk_X3_89 dX3_scalar_1 (by exact t_isSlot ha) (by omega) rfl (Nat.le_of_ble_eq_true rfl) (Nat.le_of_ble_eq_true rfl) ?_
  refine bz_if_eq (tgt := 14) dX3_scalar_4 rfl (fun q => absurd q (by decide)) (fun _ => ?_)
  refine bz_iload_n dX3_scalar_7 rfl ?_
  refine bz_cS1I (z := 0) mv_X3_isSlot ws_X3_isSlot lk_X3_89 dX3_scalar_8 (by exact t_isSlotF h) (by omega) rfl (Nat.le_of_ble_eq_true rfl) (Nat.le_of_ble_eq_true rfl) ?_
  refine bz_if_ne (tgt := 18) dX3_scalar_11 rfl (fun q => absurd (by decide) q) (fun _ => ?_)
  refine bz_ldc2 kl_X3_118 dX3_scalar_14 ?_
  refine bz_lret dX3_scalar_17 rfl rfl rfl
theorem x_turn {to a : Nat} {A W : Nat → Int64} (hT : pz_T σ.2.1) (ht : to < 8) (ha : a < 8) (hA : bc_from 1 (σ.1 (25 + a)) A) (hW : bc_to 2 A W) :
    ∃ σ2, bz_V l ad K 73 mX3_turn 4 (some (.int (hz_r W))) σ2 0 [some (.ref (ad 23)), some (.int (nI to)), some (.int (nI a))] [] σ ∧ bz_xm σ σ2 to W := by
  obtain ⟨σ1, hV1, hf1, h1⟩ := t_from (l := l) (ad := ad) (K := K) (σ := σ) (kx := 25 + a) (ky := 51) (base := 1) (by omega) (bz_sh25 a ha) rfl (by omega) (by omega) (by omega) (by omega) (by omega) (by omega) (by omega) hT (fun _ _ => rfl) hA
  obtain ⟨σ2, hV2, hf2, h2⟩ := t_to (l := l) (ad := ad) (K := K) (σ := σ1) (kx := 51) (ky := 53) (base := 2) (by omega) rfl rfl (by omega) (by omega) (by omega) (by omega) (by omega) (by omega) (bz_pT hf1.1 hT) h1 hW
  obtain ⟨σ3, hV3, hm⟩ := t_holdR (l := l) (ad := ad) (K := K) (σ0 := σ) (σ := σ2) (R := W) ht (bz_xr_tr (bz_fw_xr hf2 (by omega)) (bz_fw_xr hf1 (by omega))) h2
  refine ⟨σ3, ?_, hm⟩
  refine bz_iload_n dX3_turn_0 rfl ?_
  refine bz_cS1I (z := 0) mv_X3_isSlot ws_X3_isSlot lk_X3_89 dX3_turn_1 (by exact t_isSlot ht) (by omega) rfl (Nat.le_of_ble_eq_true rfl) (Nat.le_of_ble_eq_true rfl) ?_
  refine bz_if_eq (tgt := 14) dX3_turn_4 rfl (fun q => absurd q (by decide)) (fun _ => ?_)
  refine bz_iload_n dX3_turn_7 rfl ?_
  refine bz_cS1I (z := 0) mv_X3_isSlot ws_X3_isSlot lk_X3_89 dX3_turn_8 (by exact t_isSlot ha) (by omega) rfl (Nat.le_of_ble_eq_true rfl) (Nat.le_of_ble_eq_true rfl) ?_
  refine bz_if_ne (tgt := 16) dX3_turn_11 rfl (fun _ => ?_) (fun q => absurd q (by decide))
  refine bz_aload_n dX3_turn_16 rfl ?_
  refine bz_getf fl_X3_21 dX3_turn_17 rfl rfl (by omega) ?_
  refine bz_iconst dX3_turn_20 kc_iconst_1 ?_
  refine bz_aload_n dX3_turn_21 rfl ?_
  refine bz_getf fl_X3_34 dX3_turn_22 rfl rfl (by omega) ?_
  refine bz_iload_n dX3_turn_25 rfl ?_
  refine bz_aaload dX3_turn_26 rfl (by omega) ha ?_
  refine bz_aload_n dX3_turn_27 rfl ?_
  refine bz_getf fl_X3_44 dX3_turn_28 rfl rfl (by omega) ?_
  refine bz_cVN3U (z := 0) mv_X0_fromWeights mi_X0_fromWeights lk_X3_122 dX3_turn_31 (by exact hV1) (by omega) rfl (by omega) rfl rfl rfl (Nat.le_of_ble_eq_true rfl) (Nat.le_of_ble_eq_true rfl) ?_
  refine bz_aload_n dX3_turn_34 rfl ?_
  refine bz_getf fl_X3_21 dX3_turn_35 rfl rfl (by omega) ?_
  refine bz_iconst dX3_turn_38 kc_iconst_2 ?_
  refine bz_aload_n dX3_turn_39 rfl ?_
  refine bz_getf fl_X3_44 dX3_turn_40 rfl rfl (by omega) ?_
  refine bz_aload_n dX3_turn_43 rfl ?_
  refine bz_getf fl_X3_51 dX3_turn_44 rfl rfl (by omega) ?_
  refine bz_cVN3U (z := 0) mv_X0_toWeights mi_X0_toWeights lk_X3_107 dX3_turn_47 (by exact hV2) (by omega) rfl (by omega) rfl rfl rfl (Nat.le_of_ble_eq_true rfl) (Nat.le_of_ble_eq_true rfl) ?_
  refine bz_aload_n dX3_turn_50 rfl ?_
  refine bz_iload_n dX3_turn_51 rfl ?_
  refine bz_cV1I (z := 0) mv_X3_hold mi_X3_hold lk_X3_111 dX3_turn_52 (by exact hV3) (by omega) rfl (by omega) rfl rfl rfl (Nat.le_of_ble_eq_true rfl) (Nat.le_of_ble_eq_true rfl) ?_
  refine bz_iret dX3_turn_55 rfl rfl rfl
theorem x_turn_1 {x1 x2 : Int32} (h : x1 < 0 ∨ nI 8 ≤ x1) : bz_V l ad K 73 mX3_turn 4 (some (.int (-1))) σ 0 [some (.ref (ad 23)), some (.int x1), some (.int x2)] [] σ := by
  refine bz_iload_n dX3_turn_0 rfl ?_
  refine bz_cS1I (z := 0) mv_X3_isSlot ws_X3_isSlot lk_X3_89 dX3_turn_1 (by exact t_isSlotF h) (by omega) rfl (Nat.le_of_ble_eq_true rfl) (Nat.le_of_ble_eq_true rfl) ?_
  refine bz_if_eq (tgt := 14) dX3_turn_4 rfl (fun _ => ?_) (fun q => absurd (by decide) q)
  refine bz_iconst dX3_turn_14 kc_iconst_m1 ?_
  refine bz_iret dX3_turn_15 rfl rfl rfl
theorem x_turn_2 {a : Nat} {x2 : Int32} (ha : a < 8) (h : x2 < 0 ∨ nI 8 ≤ x2) : bz_V l ad K 73 mX3_turn 4 (some (.int (-1))) σ 0 [some (.ref (ad 23)), some (.int (nI a)), some (.int x2)] [] σ := by
  refine bz_iload_n dX3_turn_0 rfl ?_
  refine bz_cS1I (z := 0) mv_X3_isSlot ws_X3_isSlot lk_X3_89 dX3_turn_1 (by exact t_isSlot ha) (by omega) rfl (Nat.le_of_ble_eq_true rfl) (Nat.le_of_ble_eq_true rfl) ?_
  refine bz_if_eq (tgt := 14) dX3_turn_4 rfl (fun q => absurd q (by decide)) (fun _ => ?_)
  refine bz_iload_n dX3_turn_7 rfl ?_
  refine bz_cS1I (z := 0) mv_X3_isSlot ws_X3_isSlot lk_X3_89 dX3_turn_8 (by exact t_isSlotF h) (by omega) rfl (Nat.le_of_ble_eq_true rfl) (Nat.le_of_ble_eq_true rfl) ?_
  refine bz_if_ne (tgt := 16) dX3_turn_11 rfl (fun q => absurd (by decide) q) (fun _ => ?_)
  refine bz_iconst dX3_turn_14 kc_iconst_m1 ?_
  refine bz_iret dX3_turn_15 rfl rfl rfl
end X3D
