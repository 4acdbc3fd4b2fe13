/-! the reference: more of its calls -/
section MA
variable {l : Launch} {ad : Nat → Nat} {K : bz_K} {σ σ0 σ' : bz_S} {r : Option Value}
theorem y_add_loop {to a : Nat} {y : Int32} {F : Nat → Int64} (ht : to < 8) (ha : a < 8) (hF : ∀ j, F j = σ.1 59 (30 * to + j) + y.toInt64 * σ.1 59 (30 * a + j))
    (k : bz_V l ad K 73 mX4_add 3 r σ' 83 [some (.ref (ad 54)), some (.int (nI to)), some (.int (nI a)), some (.int y), some (.int (nI 30))] [] (bz_setJ σ 66 (bz_upto (σ.1 66) F 30))) :
    ∀ (m i : Nat), i + m = 30 → bz_V l ad K 73 mX4_add 3 r σ' 35 [some (.ref (ad 54)), some (.int (nI to)), some (.int (nI a)), some (.int y), some (.int (nI i))] [] (bz_setJ σ 66 (bz_upto (σ.1 66) F i)) := by
  intro m
  induction m with
  | zero =>
    intro i hi
    obtain rfl : i = 30 := by omega
    refine bz_iload dX4_add_35 rfl ?_
    refine bz_bipush dX4_add_37 kc_bipush_30 ?_
    refine bz_icmp_geN (tgt := 83) dX4_add_39 rfl (by omega) (by omega) (fun _ => ?_) (fun q => absurd q (by omega))
    exact k
  | succ m ih =>
    intro i hi
    refine bz_iload dX4_add_35 rfl ?_
    refine bz_bipush dX4_add_37 kc_bipush_30 ?_
    refine bz_icmp_geN (tgt := 83) dX4_add_39 rfl (by omega) (by omega) (fun q => absurd q (by omega)) (fun _ => ?_)
    refine bz_aload_n dX4_add_42 rfl ?_
    refine bz_getf fl_X4_44 dX4_add_43 rfl rfl (by omega) ?_
    refine bz_iload dX4_add_46 rfl ?_
    refine bz_aload_n dX4_add_48 rfl ?_
    refine bz_getf fl_X4_23 dX4_add_49 rfl rfl (by omega) ?_
    refine bz_bipush dX4_add_52 kc_bipush_30 ?_
    refine bz_iload_n dX4_add_54 rfl ?_
    first | refine bz_imulN dX4_add_55 ?_ | refine bz_imul dX4_add_55 ?_
    refine bz_iload dX4_add_56 rfl ?_
    first | refine bz_iaddN dX4_add_58 ?_ | refine bz_iadd dX4_add_58 ?_
    refine bz_laload dX4_add_59 rfl (by omega) (by omega) ?_
    refine bz_topl (y := σ.1 59 (30 * to + i)) (by rw [bz_setJ_ne (by omega)]) ?_
    refine bz_iload_n dX4_add_60 rfl ?_
    refine bz_i2l dX4_add_61 ?_
    refine bz_aload_n dX4_add_62 rfl ?_
    refine bz_getf fl_X4_23 dX4_add_63 rfl rfl (by omega) ?_
    refine bz_bipush dX4_add_66 kc_bipush_30 ?_
    refine bz_iload_n dX4_add_68 rfl ?_
    first | refine bz_imulN dX4_add_69 ?_ | refine bz_imul dX4_add_69 ?_
    refine bz_iload dX4_add_70 rfl ?_
    first | refine bz_iaddN dX4_add_72 ?_ | refine bz_iadd dX4_add_72 ?_
    refine bz_laload dX4_add_73 rfl (by omega) (by omega) ?_
    refine bz_topl (y := σ.1 59 (30 * a + i)) (by rw [bz_setJ_ne (by omega)]) ?_
    refine bz_lmul dX4_add_74 ?_
    refine bz_ladd dX4_add_75 ?_
    refine bz_lastore dX4_add_76 rfl (by omega) (by omega) ?_
    first | refine bz_iinc4N dX4_add_77 (by decide) rfl ?_ | refine bz_iinc4 dX4_add_77 rfl (by decide) rfl ?_
    refine bz_goto (tgt := 35) dX4_add_80 rfl ?_
    refine bz_st (by rw [bz_upJ_set, bz_upto_s (hF i).symm]) ?_
    exact ih (i + 1) (by omega)
theorem y_add {to a : Nat} {y : Int32} (hFl : fl_F σ) (ht : to < 8) (ha : a < 8) (h1 : ¬ y < -1000) (h2 : ¬ nI 1000 < y) :
    ∃ σ2, bz_V l ad K 73 mX4_add 3 (some (.int (hz_r (fun j => σ.1 59 (30 * to + j) + y.toInt64 * σ.1 59 (30 * a + j))))) σ2 0 [some (.ref (ad 54)), some (.int (nI to)), some (.int (nI a)), some (.int y), none] [] σ ∧ bz_mk σ σ2 to (fun j => σ.1 59 (30 * to + j) + y.toInt64 * σ.1 59 (30 * a + j)) := by
  obtain ⟨σ2, hV2, hm⟩ := m_keepR (l := l) (ad := ad) (K := K) (σ0 := σ) (σ := bz_setJ σ 66 (bz_upto (σ.1 66) (fun j => σ.1 59 (30 * to + j) + y.toInt64 * σ.1 59 (30 * a + j)) 30)) (R := fun j => σ.1 59 (30 * to + j) + y.toInt64 * σ.1 59 (30 * a + j)) ht (bz_mr_set hFl (by omega)) (fun j hj => by rw [bz_setJ_at, bz_upto_lt hj])
  refine ⟨σ2, ?_, hm⟩
  refine bz_iload_n dX4_add_0 rfl ?_
  refine bz_cS1I (z := 0) mv_X4_isSlot ws_X4_isSlot lk_X4_156 dX4_add_1 (by exact m_isSlot ht) (by omega) rfl (Nat.le_of_ble_eq_true rfl) (Nat.le_of_ble_eq_true rfl) ?_
  refine bz_if_eq (tgt := 14) dX4_add_4 rfl (fun q => absurd q (by decide)) (fun _ => ?_)
  refine bz_iload_n dX4_add_7 rfl ?_
  refine bz_cS1I (z := 0) mv_X4_isSlot ws_X4_isSlot lk_X4_156 dX4_add_8 (by exact m_isSlot ha) (by omega) rfl (Nat.le_of_ble_eq_true rfl) (Nat.le_of_ble_eq_true rfl) ?_
  refine bz_if_ne (tgt := 16) dX4_add_11 rfl (fun _ => ?_) (fun q => absurd q (by decide))
  refine bz_iload_n dX4_add_16 rfl ?_
  refine bz_sipush dX4_add_17 kc_sipush_m1000 ?_
  refine bz_sipush dX4_add_20 kc_sipush_1000 ?_
  refine bz_cS3I (z := 0) mv_X4_in ws_X4_in lk_X4_101 dX4_add_23 (by exact m_in h1 h2) (by omega) rfl (Nat.le_of_ble_eq_true rfl) (Nat.le_of_ble_eq_true rfl) ?_
  refine bz_if_ne (tgt := 32) dX4_add_26 rfl (fun _ => ?_) (fun q => absurd q (by decide))
  refine bz_iconst dX4_add_32 kc_iconst_0 ?_
  refine bz_ist4 dX4_add_33 (by decide) rfl ?_
  refine bz_st (by rw [bz_setJ_id (bz_upto_0 _ (fun j => σ.1 59 (30 * to + j) + y.toInt64 * σ.1 59 (30 * a + j)))]) (y_add_loop ht ha (fun j => rfl) ?_ 30 0 rfl)
  refine bz_aload_n dX4_add_83 rfl ?_
  refine bz_iload_n dX4_add_84 rfl ?_
  refine bz_cV1I (z := 1) mv_X4_keep mi_X4_keep lk_X4_165 dX4_add_85 (by exact hV2) (by omega) rfl (by omega) rfl rfl rfl (Nat.le_of_ble_eq_true rfl) (Nat.le_of_ble_eq_true rfl) ?_
  refine bz_iret dX4_add_88 rfl rfl rfl
theorem y_add_1 {x1 x2 y : Int32} (h : x1 < 0 ∨ nI 8 ≤ x1) : bz_V l ad K 73 mX4_add 3 (some (.int (-1))) σ 0 [some (.ref (ad 54)), some (.int x1), some (.int x2), some (.int y), none] [] σ := by
  refine bz_iload_n dX4_add_0 rfl ?_
  refine bz_cS1I (z := 0) mv_X4_isSlot ws_X4_isSlot lk_X4_156 dX4_add_1 (by exact m_isSlotF h) (by omega) rfl (Nat.le_of_ble_eq_true rfl) (Nat.le_of_ble_eq_true rfl) ?_
  refine bz_if_eq (tgt := 14) dX4_add_4 rfl (fun _ => ?_) (fun q => absurd (by decide) q)
  refine bz_iconst dX4_add_14 kc_iconst_m1 ?_
  refine bz_iret dX4_add_15 rfl rfl rfl
theorem y_add_2 {to : Nat} {x2 y : Int32} (ht : to < 8) (h : x2 < 0 ∨ nI 8 ≤ x2) : bz_V l ad K 73 mX4_add 3 (some (.int (-1))) σ 0 [some (.ref (ad 54)), some (.int (nI to)), some (.int x2), some (.int y), none] [] σ := by
  refine bz_iload_n dX4_add_0 rfl ?_
  refine bz_cS1I (z := 0) mv_X4_isSlot ws_X4_isSlot lk_X4_156 dX4_add_1 (by exact m_isSlot ht) (by omega) rfl (Nat.le_of_ble_eq_true rfl) (Nat.le_of_ble_eq_true rfl) ?_
  refine bz_if_eq (tgt := 14) dX4_add_4 rfl (fun q => absurd q (by decide)) (fun _ => ?_)
  refine bz_iload_n dX4_add_7 rfl ?_
  refine bz_cS1I (z := 0) mv_X4_isSlot ws_X4_isSlot lk_X4_156 dX4_add_8 (by exact m_isSlotF h) (by omega) rfl (Nat.le_of_ble_eq_true rfl) (Nat.le_of_ble_eq_true rfl) ?_
  refine bz_if_ne (tgt := 16) dX4_add_11 rfl (fun q => absurd (by decide) q) (fun _ => ?_)
  refine bz_iconst dX4_add_14 kc_iconst_m1 ?_
  refine bz_iret dX4_add_15 rfl rfl rfl
theorem y_add_3 {to a : Nat} {y : Int32} (ht : to < 8) (ha : a < 8) (h : y < -1000 ∨ nI 1000 < y) : bz_V l ad K 73 mX4_add 3 (some (.int (-2))) σ 0 [some (.ref (ad 54)), some (.int (nI to)), some (.int (nI a)), some (.int y), none] [] σ := by
  refine bz_iload_n dX4_add_0 rfl ?_
  refine bz_cS1I (z := 0) mv_X4_isSlot ws_X4_isSlot lk_X4_156 dX4_add_1 (by exact m_isSlot ht) (by omega) rfl (Nat.le_of_ble_eq_true rfl) (Nat.le_of_ble_eq_true rfl) ?_
  refine bz_if_eq (tgt := 14) dX4_add_4 rfl (fun q => absurd q (by decide)) (fun _ => ?_)
  refine bz_iload_n dX4_add_7 rfl ?_
  refine bz_cS1I (z := 0) mv_X4_isSlot ws_X4_isSlot lk_X4_156 dX4_add_8 (by exact m_isSlot ha) (by omega) rfl (Nat.le_of_ble_eq_true rfl) (Nat.le_of_ble_eq_true rfl) ?_
  refine bz_if_ne (tgt := 16) dX4_add_11 rfl (fun _ => ?_) (fun q => absurd q (by decide))
  refine bz_iload_n dX4_add_16 rfl ?_
  refine bz_sipush dX4_add_17 kc_sipush_m1000 ?_
  refine bz_sipush dX4_add_20 kc_sipush_1000 ?_
  refine bz_cS3I (z := 0) mv_X4_in ws_X4_in lk_X4_101 dX4_add_23 (by exact m_inF h) (by omega) rfl (Nat.le_of_ble_eq_true rfl) (Nat.le_of_ble_eq_true rfl) ?_
  refine bz_if_ne (tgt := 32) dX4_add_26 rfl (fun q => absurd (by decide) q) (fun _ => ?_)
  refine bz_bipush dX4_add_29 kc_bipush_m2 ?_
  refine bz_iret dX4_add_31 rfl rfl rfl
theorem y_degree {a : Nat} (hT : mz_T σ.2.1) (ha : a < 8) : bz_V l ad K 73 mX4_degree 2 (some (.int (dgz (fun j => σ.1 59 (30 * a + j)) 30))) σ 0 [some (.ref (ad 54)), some (.int (nI a))] [] σ := by
  refine bz_iload_n dX4_degree_0 rfl ?_
  refine bz_cS1I (z := 0) mv_X4_isSlot ws_X4_isSlot lk_X4_156 dX4_degree_1 (by exact m_isSlot ha) (by omega) rfl (Nat.le_of_ble_eq_true rfl) (Nat.le_of_ble_eq_true rfl) ?_
  refine bz_if_eq (tgt := 15) dX4_degree_4 rfl (fun q => absurd q (by decide)) (fun _ => ?_)
  refine bz_aload_n dX4_degree_7 rfl ?_
  refine bz_iload_n dX4_degree_8 rfl ?_
  refine bz_cV1I (z := 2) mv_X4_degreeOf mi_X4_degreeOf lk_X4_168 dX4_degree_9 (by exact m_degreeOf hT ha) (by omega) rfl (by omega) rfl rfl rfl (Nat.le_of_ble_eq_true rfl) (Nat.le_of_ble_eq_true rfl) ?_
  refine bz_goto (tgt := 16) dX4_degree_12 rfl ?_
  refine bz_iret dX4_degree_16 rfl rfl rfl
theorem y_degree_u {x : Int32} (h : x < 0 ∨ nI 8 ≤ x) : bz_V l ad K 73 mX4_degree 2 (some (.int (-1))) σ 0 [some (.ref (ad 54)), some (.int x)] [] σ := by
  refine bz_iload_n dX4_degree_0 rfl ?_
  refine bz_cS1I (z := 0) mv_X4_isSlot ws_X4_isSlot lk_X4_156 dX4_degree_1 (by exact m_isSlotF h) (by omega) rfl (Nat.le_of_ble_eq_true rfl) (Nat.le_of_ble_eq_true rfl) ?_
  refine bz_if_eq (tgt := 15) dX4_degree_4 rfl (fun _ => ?_) (fun q => absurd (by decide) q)
  refine bz_iconst dX4_degree_15 kc_iconst_m1 ?_
  refine bz_iret dX4_degree_16 rfl rfl rfl
def cg_g (x : Int64) (base : Nat) : Int64 := gcz 200 (if x < 0 then -x else x) (cf_low base)
def cg_r (x : Int64) (base w : Nat) : Int64 := if w = 0 then x / cg_g x base else cf_low base / cg_g x base
theorem y_coef {s base a w : Nat} {F : Nat → Int64} (hT : mz_T σ.2.1) (hM : mz_M σ) (hFl : fl_F σ) (hs : s < 8) (hbs : base < 5) (ha : a < 30) (hw : w < 2) (hF : fc_from base (fun j => σ.1 59 (30 * s + j)) F) (hg : ¬ cg_g (F a) base = 0) :
    ∃ σ2, bz_V l ad K 73 mX4_coefficient 5 (some (.long (cg_r (F a) base w))) σ2 0 [some (.ref (ad 54)), some (.int (nI s)), some (.int (nI base)), some (.int (nI a)), some (.int (nI w)), none, none, none, none] [] σ ∧ bz_mr σ σ2 := by
  obtain ⟨σ1, hV1, hl1, h1, _⟩ := m_layFound (l := l) (ad := ad) (K := K) (kf := 59) (lf := 240) (fF := 30 * s) hT hM hFl hbs rfl (by omega) (by omega) (by omega) (fun _ _ => rfl) hF
  refine ⟨σ1, ?_, bz_mr_lf hl1⟩
  refine bz_iload_n dX4_coefficient_0 rfl ?_
  refine bz_cS1I (z := 0) mv_X4_isSlot ws_X4_isSlot lk_X4_156 dX4_coefficient_1 (by exact m_isSlot hs) (by omega) rfl (Nat.le_of_ble_eq_true rfl) (Nat.le_of_ble_eq_true rfl) ?_
  refine bz_if_eq (tgt := 23) dX4_coefficient_4 rfl (fun q => absurd q (by decide)) (fun _ => ?_)
  refine bz_iload_n dX4_coefficient_7 rfl ?_
  refine bz_iconst dX4_coefficient_8 kc_iconst_0 ?_
  refine bz_iconst dX4_coefficient_9 kc_iconst_4 ?_
  refine bz_cS3I (z := 0) mv_X4_in ws_X4_in lk_X4_101 dX4_coefficient_10 (by exact m_inN (Nat.zero_le base) (by omega) (by omega)) (by omega) rfl (Nat.le_of_ble_eq_true rfl) (Nat.le_of_ble_eq_true rfl) ?_
  refine bz_if_eq (tgt := 23) dX4_coefficient_13 rfl (fun q => absurd q (by decide)) (fun _ => ?_)
  refine bz_iload_n dX4_coefficient_16 rfl ?_
  refine bz_cS1I (z := 0) mv_X4_isPartition ws_X4_isPartition lk_X4_116 dX4_coefficient_17 (by exact m_isPart ha) (by omega) rfl (Nat.le_of_ble_eq_true rfl) (Nat.le_of_ble_eq_true rfl) ?_
  refine bz_if_ne (tgt := 27) dX4_coefficient_20 rfl (fun _ => ?_) (fun q => absurd q (by decide))
  refine bz_iload dX4_coefficient_27 rfl ?_
  refine bz_iconst dX4_coefficient_29 kc_iconst_0 ?_
  refine bz_iconst dX4_coefficient_30 kc_iconst_1 ?_
  refine bz_cS3I (z := 0) mv_X4_in ws_X4_in lk_X4_101 dX4_coefficient_31 (by exact m_inN (Nat.zero_le w) (by omega) (by omega)) (by omega) rfl (Nat.le_of_ble_eq_true rfl) (Nat.le_of_ble_eq_true rfl) ?_
  refine bz_if_ne (tgt := 41) dX4_coefficient_34 rfl (fun _ => ?_) (fun q => absurd q (by decide))
  refine bz_aload_n dX4_coefficient_41 rfl ?_
  refine bz_aload_n dX4_coefficient_42 rfl ?_
  refine bz_getf fl_X4_23 dX4_coefficient_43 rfl rfl (by omega) ?_
  refine bz_bipush dX4_coefficient_46 kc_bipush_30 ?_
  refine bz_iload_n dX4_coefficient_48 rfl ?_
  first | refine bz_imulN dX4_coefficient_49 ?_ | refine bz_imul dX4_coefficient_49 ?_
  refine bz_iload_n dX4_coefficient_50 rfl ?_
  refine bz_cV3U (z := 1) mv_X4_layFound mi_X4_layFound lk_X4_144 dX4_coefficient_51 (by exact hV1) (by omega) rfl (by omega) rfl rfl rfl (Nat.le_of_ble_eq_true rfl) (Nat.le_of_ble_eq_true rfl) ?_
  refine bz_iload_n dX4_coefficient_54 rfl ?_
  refine bz_iconst dX4_coefficient_55 kc_iconst_3 ?_
  have fin2 : bz_V l ad K 73 mX4_coefficient 5 (some (.long (cg_r (F a) base w))) σ1 66 [some (.ref (ad 54)), some (.int (nI s)), some (.int (nI base)), some (.int (nI a)), some (.int (nI w)), none, none, none, none] [.long (cf_low base)] σ1 := by
    refine bz_lst5 dX4_coefficient_66 (by decide) rfl ?_
    refine bz_aload_n dX4_coefficient_68 rfl ?_
    refine bz_getf fl_X4_38 dX4_coefficient_69 rfl rfl (by omega) ?_
    refine bz_iload_n dX4_coefficient_72 rfl ?_
    refine bz_laload dX4_coefficient_73 rfl (by omega) (by omega) ?_
    refine bz_topl (h1 a ha) ?_
    refine bz_lload dX4_coefficient_74 rfl ?_
    refine bz_cS2L (z := 7) mv_X4_common ws_X4_common lk_X4_175 dX4_coefficient_76 (by exact m_common) (by omega) rfl (Nat.le_of_ble_eq_true rfl) (Nat.le_of_ble_eq_true rfl) ?_
    refine bz_topl (y := cg_g (F a) base) rfl ?_
    refine bz_lst7 dX4_coefficient_79 (by decide) rfl ?_
    refine bz_iload dX4_coefficient_81 rfl ?_
    refine bz_if_ne (tgt := 98) dX4_coefficient_83 rfl (fun h2 => ?_) (fun h2 => ?_)
    · refine bz_lload dX4_coefficient_98 rfl ?_
      refine bz_lload dX4_coefficient_100 rfl ?_
      refine bz_ldiv dX4_coefficient_102 hg ?_
      refine bz_lret dX4_coefficient_103 rfl ?_ ?_
      · rw [cg_r, if_neg (fun q => h2 (by rw [q]; rfl))]
      · rfl
    · refine bz_aload_n dX4_coefficient_86 rfl ?_
      refine bz_getf fl_X4_38 dX4_coefficient_87 rfl rfl (by omega) ?_
      refine bz_iload_n dX4_coefficient_90 rfl ?_
      refine bz_laload dX4_coefficient_91 rfl (by omega) (by omega) ?_
      refine bz_topl (h1 a ha) ?_
      refine bz_lload dX4_coefficient_92 rfl ?_
      refine bz_ldiv dX4_coefficient_94 hg ?_
      refine bz_goto (tgt := 103) dX4_coefficient_95 rfl ?_
      refine bz_lret dX4_coefficient_103 rfl ?_ ?_
      · rw [cg_r, if_pos ((nI_eq (b := 0) (by omega) (by omega)).mp h2)]
      · rfl
  refine bz_icmp_neN (tgt := 65) dX4_coefficient_56 rfl (by omega) (by omega) (fun h => ?_) (fun h => ?_)
  · refine bz_lconst dX4_coefficient_65 kc_lconst_1 ?_
    refine bz_topl (y := cf_low base) (by rw [cf_low, if_neg h]) ?_
    exact fin2
  · refine bz_ldc2 kl_X4_132 dX4_coefficient_59 ?_
    refine bz_goto (tgt := 66) dX4_coefficient_62 rfl ?_
    refine bz_topl (y := cf_low base) (by rw [cf_low, if_pos h]) ?_
    exact fin2
theorem y_coef_1 {x1 x2 x3 x4 : Int32} (h : x1 < 0 ∨ nI 8 ≤ x1) : bz_V l ad K 73 mX4_coefficient 5 (some (.long (-4000000000000000001))) σ 0 [some (.ref (ad 54)), some (.int x1), some (.int x2), some (.int x3), some (.int x4), none, none, none, none] [] σ := by
  refine bz_iload_n dX4_coefficient_0 rfl ?_
  refine bz_cS1I (z := 0) mv_X4_isSlot ws_X4_isSlot lk_X4_156 dX4_coefficient_1 (by exact m_isSlotF h) (by omega) rfl (Nat.le_of_ble_eq_true rfl) (Nat.le_of_ble_eq_true rfl) ?_
  refine bz_if_eq (tgt := 23) dX4_coefficient_4 rfl (fun _ => ?_) (fun q => absurd (by decide) q)
  refine bz_ldc2 kl_X4_171 dX4_coefficient_23 ?_
  refine bz_lret dX4_coefficient_26 rfl rfl rfl
theorem y_coef_2 {s : Nat} {x2 x3 x4 : Int32} (hs : s < 8) (h : x2 < 0 ∨ nI 5 ≤ x2) : bz_V l ad K 73 mX4_coefficient 5 (some (.long (-4000000000000000001))) σ 0 [some (.ref (ad 54)), some (.int (nI s)), some (.int x2), some (.int x3), some (.int x4), none, none, none, none] [] σ := by
  refine bz_iload_n dX4_coefficient_0 rfl ?_
  refine bz_cS1I (z := 0) mv_X4_isSlot ws_X4_isSlot lk_X4_156 dX4_coefficient_1 (by exact m_isSlot hs) (by omega) rfl (Nat.le_of_ble_eq_true rfl) (Nat.le_of_ble_eq_true rfl) ?_
  refine bz_if_eq (tgt := 23) dX4_coefficient_4 rfl (fun q => absurd q (by decide)) (fun _ => ?_)
  refine bz_iload_n dX4_coefficient_7 rfl ?_
  refine bz_iconst dX4_coefficient_8 kc_iconst_0 ?_
  refine bz_iconst dX4_coefficient_9 kc_iconst_4 ?_
  refine bz_cS3I (z := 0) mv_X4_in ws_X4_in lk_X4_101 dX4_coefficient_10 (by exact m_inF (m_lt (N := 4) (by decide) h)) (by omega) rfl (Nat.le_of_ble_eq_true rfl) (Nat.le_of_ble_eq_true rfl) ?_
  refine bz_if_eq (tgt := 23) dX4_coefficient_13 rfl (fun _ => ?_) (fun q => absurd (by decide) q)
  refine bz_ldc2 kl_X4_171 dX4_coefficient_23 ?_
  refine bz_lret dX4_coefficient_26 rfl rfl rfl
theorem y_coef_3 {s base : Nat} {x3 x4 : Int32} (hs : s < 8) (hbs : base < 5) (h : x3 < 0 ∨ nI 30 ≤ x3) : bz_V l ad K 73 mX4_coefficient 5 (some (.long (-4000000000000000001))) σ 0 [some (.ref (ad 54)), some (.int (nI s)), some (.int (nI base)), some (.int x3), some (.int x4), none, none, none, none] [] σ := by
  refine bz_iload_n dX4_coefficient_0 rfl ?_
  refine bz_cS1I (z := 0) mv_X4_isSlot ws_X4_isSlot lk_X4_156 dX4_coefficient_1 (by exact m_isSlot hs) (by omega) rfl (Nat.le_of_ble_eq_true rfl) (Nat.le_of_ble_eq_true rfl) ?_
  refine bz_if_eq (tgt := 23) dX4_coefficient_4 rfl (fun q => absurd q (by decide)) (fun _ => ?_)
  refine bz_iload_n dX4_coefficient_7 rfl ?_
  refine bz_iconst dX4_coefficient_8 kc_iconst_0 ?_
  refine bz_iconst dX4_coefficient_9 kc_iconst_4 ?_
  refine bz_cS3I (z := 0) mv_X4_in ws_X4_in lk_X4_101 dX4_coefficient_10 (by exact m_inN (Nat.zero_le base) (by omega) (by omega)) (by omega) rfl (Nat.le_of_ble_eq_true rfl) (Nat.le_of_ble_eq_true rfl) ?_
  refine bz_if_eq (tgt := 23) dX4_coefficient_13 rfl (fun q => absurd q (by decide)) (fun _ => ?_)
  refine bz_iload_n dX4_coefficient_16 rfl ?_
  refine bz_cS1I (z := 0) mv_X4_isPartition ws_X4_isPartition lk_X4_116 dX4_coefficient_17 (by exact m_isPartF h) (by omega) rfl (Nat.le_of_ble_eq_true rfl) (Nat.le_of_ble_eq_true rfl) ?_
  refine bz_if_ne (tgt := 27) dX4_coefficient_20 rfl (fun q => absurd (by decide) q) (fun _ => ?_)
  refine bz_ldc2 kl_X4_171 dX4_coefficient_23 ?_
  refine bz_lret dX4_coefficient_26 rfl rfl rfl
theorem y_coef_4 {s base a : Nat} {x4 : Int32} (hs : s < 8) (hbs : base < 5) (ha : a < 30) (h : x4 < 0 ∨ nI 2 ≤ x4) : bz_V l ad K 73 mX4_coefficient 5 (some (.long (-4000000000000000002))) σ 0 [some (.ref (ad 54)), some (.int (nI s)), some (.int (nI base)), some (.int (nI a)), some (.int x4), none, none, none, none] [] σ := by
  refine bz_iload_n dX4_coefficient_0 rfl ?_
  refine bz_cS1I (z := 0) mv_X4_isSlot ws_X4_isSlot lk_X4_156 dX4_coefficient_1 (by exact m_isSlot hs) (by omega) rfl (Nat.le_of_ble_eq_true rfl) (Nat.le_of_ble_eq_true rfl) ?_
  refine bz_if_eq (tgt := 23) dX4_coefficient_4 rfl (fun q => absurd q (by decide)) (fun _ => ?_)
  refine bz_iload_n dX4_coefficient_7 rfl ?_
  refine bz_iconst dX4_coefficient_8 kc_iconst_0 ?_
  refine bz_iconst dX4_coefficient_9 kc_iconst_4 ?_
  refine bz_cS3I (z := 0) mv_X4_in ws_X4_in lk_X4_101 dX4_coefficient_10 (by exact m_inN (Nat.zero_le base) (by omega) (by omega)) (by omega) rfl (Nat.le_of_ble_eq_true rfl) (Nat.le_of_ble_eq_true rfl) ?_
  refine bz_if_eq (tgt := 23) dX4_coefficient_13 rfl (fun q => absurd q (by decide)) (fun _ => ?_)
  refine bz_iload_n dX4_coefficient_16 rfl ?_
  refine bz_cS1I (z := 0) mv_X4_isPartition ws_X4_isPartition lk_X4_116 dX4_coefficient_17 (by exact m_isPart ha) (by omega) rfl (Nat.le_of_ble_eq_true rfl) (Nat.le_of_ble_eq_true rfl) ?_
  refine bz_if_ne (tgt := 27) dX4_coefficient_20 rfl (fun _ => ?_) (fun q => absurd q (by decide))
  refine bz_iload dX4_coefficient_27 rfl ?_
  refine bz_iconst dX4_coefficient_29 kc_iconst_0 ?_
  refine bz_iconst dX4_coefficient_30 kc_iconst_1 ?_
  refine bz_cS3I (z := 0) mv_X4_in ws_X4_in lk_X4_101 dX4_coefficient_31 (by exact m_inF (m_lt (N := 1) (by decide) h)) (by omega) rfl (Nat.le_of_ble_eq_true rfl) (Nat.le_of_ble_eq_true rfl) ?_
  refine bz_if_ne (tgt := 41) dX4_coefficient_34 rfl (fun q => absurd (by decide) q) (fun _ => ?_)
  refine bz_ldc2 kl_X4_173 dX4_coefficient_37 ?_
  refine bz_lret dX4_coefficient_40 rfl rfl rfl
theorem nx_s (F : Nat → Int64) (a m : Nat) : nx F a (m + 1) = if F a = 0 then nx F (a + 1) m else nI a := rfl
theorem y_nx_loop {f : Nat} (hf : f < 31) {x1 x2 : Option Value} : ∀ (m i : Nat), i + m = 29 → f ≤ i + 1 → i + 1 ≤ 30 → bz_V l ad K 73 mX4_next 5 (some (.int (nx (σ.1 64) f (30 - f)))) σ 52 [some (.ref (ad 54)), x1, x2, some (.int (nI f)), some (.int (nx (σ.1 64) (i + 1) m)), some (.int (nI i))] [] σ := by
  have h0 : ∀ (i : Nat) (m : Nat), i + m = 29 → f ≤ i → i < 30 → (∀ (x4 : Int32) (x5 : Option Value), x4 = nx (σ.1 64) i (m + 1) → bz_V l ad K 73 mX4_next 5 (some (.int (nx (σ.1 64) f (30 - f)))) σ 79 [some (.ref (ad 54)), x1, x2, some (.int (nI f)), some (.int x4), some (.int (nI i))] [] σ) → bz_V l ad K 73 mX4_next 5 (some (.int (nx (σ.1 64) f (30 - f)))) σ 52 [some (.ref (ad 54)), x1, x2, some (.int (nI f)), some (.int (nx (σ.1 64) (i + 1) m)), some (.int (nI i))] [] σ := by
    intro i m him hfi hi k
    refine bz_iload dX4_next_52 rfl ?_
    refine bz_iload_n dX4_next_54 rfl ?_
    refine bz_icmp_ltN (tgt := 85) dX4_next_55 rfl (by omega) (by omega) (fun q => absurd q (by omega)) (fun _ => ?_)
    refine bz_aload_n dX4_next_58 rfl ?_
    refine bz_getf fl_X4_38 dX4_next_59 rfl rfl (by omega) ?_
    refine bz_iload dX4_next_62 rfl ?_
    refine bz_laload dX4_next_64 rfl (by omega) (by omega) ?_
    refine bz_lconst dX4_next_65 kc_lconst_0 ?_
    refine bz_lcmp dX4_next_66 ?_
    refine bz_if_eq (tgt := 75) dX4_next_67 rfl (fun h => ?_) (fun h => ?_)
    · refine bz_iload dX4_next_75 rfl ?_
      refine bz_ist4 dX4_next_77 (by decide) rfl ?_
      exact k _ none (by rw [nx_s, if_pos (bz_cmp0.mp h)])
    · refine bz_iload dX4_next_70 rfl ?_
      refine bz_goto (tgt := 77) dX4_next_72 rfl ?_
      refine bz_ist4 dX4_next_77 (by decide) rfl ?_
      exact k _ none (by rw [nx_s, if_neg (fun q => h (bz_cmp0.mpr q))])
  have hend : ∀ (x4 x5 : Int32), x5 < nI f → x4 = nx (σ.1 64) f (30 - f) → bz_V l ad K 73 mX4_next 5 (some (.int (nx (σ.1 64) f (30 - f)))) σ 52 [some (.ref (ad 54)), x1, x2, some (.int (nI f)), some (.int x4), some (.int x5)] [] σ := by
    intro x4 x5 hlt hx
    refine bz_iload dX4_next_52 rfl ?_
    refine bz_iload_n dX4_next_54 rfl ?_
    refine bz_icmp_lt (tgt := 85) dX4_next_55 rfl (fun _ => ?_) (fun q => absurd (hlt) q)
    refine bz_iload dX4_next_85 rfl ?_
    refine bz_iret dX4_next_87 rfl ?_ ?_
    · exact hx
    · rfl
  have main : ∀ (i m : Nat), i + m = 29 → f ≤ i + 1 → i < 30 → bz_V l ad K 73 mX4_next 5 (some (.int (nx (σ.1 64) f (30 - f)))) σ 52 [some (.ref (ad 54)), x1, x2, some (.int (nI f)), some (.int (nx (σ.1 64) (i + 1) m)), some (.int (nI i))] [] σ := by
    intro i
    induction i with
    | zero =>
      intro m him hfi hi
      by_cases hf0 : f ≤ 0
      · refine h0 0 m him hf0 hi (fun x4 x5 hx => ?_)
        refine bz_iinc5 dX4_next_79 rfl (by decide) rfl ?_
        refine bz_goto (tgt := 52) dX4_next_82 rfl ?_
        refine hend _ _ ?_ ?_
        · rw [show f = 0 by omega]; decide
        · rw [hx, show f = 0 by omega, show m + 1 = 30 - 0 by omega]
      · refine hend _ _ ((nI_ltI (by omega) (by omega)).mpr (by omega)) ?_
        rw [show f = 0 + 1 by omega, show 30 - (0 + 1) = m by omega]
    | succ i ih =>
      intro m him hfi hi
      by_cases hf0 : f ≤ i + 1
      · refine h0 (i + 1) m him hf0 hi (fun x4 x5 hx => ?_)
        subst hx
        first | refine bz_idec5N dX4_next_79 (by decide) rfl ?_ | refine bz_iinc5 dX4_next_79 rfl (by decide) rfl ?_
        refine bz_goto (tgt := 52) dX4_next_82 rfl ?_
        exact ih (m + 1) (by omega) (by omega) (by omega)
      · refine hend _ _ ((nI_ltI (by omega) (by omega)).mpr (by omega)) ?_
        rw [show f = i + 1 + 1 by omega, show 30 - (i + 1 + 1) = m by omega]
  intro m i h1 h2 h3
  exact main i m h1 h2 (by omega)
theorem y_next {s base f : Nat} {F : Nat → Int64} (hT : mz_T σ.2.1) (hM : mz_M σ) (hFl : fl_F σ) (hs : s < 8) (hbs : base < 5) (hf : f < 31) (hF : fc_from base (fun j => σ.1 59 (30 * s + j)) F) :
    ∃ σ2, bz_V l ad K 73 mX4_next 5 (some (.int (nx F f (30 - f)))) σ2 0 [some (.ref (ad 54)), some (.int (nI s)), some (.int (nI base)), some (.int (nI f)), none, none] [] σ ∧ bz_mr σ σ2 := by
  obtain ⟨σ1, hV1, hl1, h1, _⟩ := m_layFound (l := l) (ad := ad) (K := K) (kf := 59) (lf := 240) (fF := 30 * s) hT hM hFl hbs rfl (by omega) (by omega) (by omega) (fun _ _ => rfl) hF
  refine ⟨σ1, ?_, bz_mr_lf hl1⟩
  refine bz_iload_n dX4_next_0 rfl ?_
  refine bz_cS1I (z := 0) mv_X4_isSlot ws_X4_isSlot lk_X4_156 dX4_next_1 (by exact m_isSlot hs) (by omega) rfl (Nat.le_of_ble_eq_true rfl) (Nat.le_of_ble_eq_true rfl) ?_
  refine bz_if_eq (tgt := 16) dX4_next_4 rfl (fun q => absurd q (by decide)) (fun _ => ?_)
  refine bz_iload_n dX4_next_7 rfl ?_
  refine bz_iconst dX4_next_8 kc_iconst_0 ?_
  refine bz_iconst dX4_next_9 kc_iconst_4 ?_
  refine bz_cS3I (z := 0) mv_X4_in ws_X4_in lk_X4_101 dX4_next_10 (by exact m_inN (Nat.zero_le base) (by omega) (by omega)) (by omega) rfl (Nat.le_of_ble_eq_true rfl) (Nat.le_of_ble_eq_true rfl) ?_
  refine bz_if_ne (tgt := 18) dX4_next_13 rfl (fun _ => ?_) (fun q => absurd q (by decide))
  refine bz_iload_n dX4_next_18 rfl ?_
  refine bz_iconst dX4_next_19 kc_iconst_0 ?_
  refine bz_bipush dX4_next_20 kc_bipush_30 ?_
  refine bz_cS3I (z := 0) mv_X4_in ws_X4_in lk_X4_101 dX4_next_22 (by exact m_inN (Nat.zero_le f) (by omega) (by omega)) (by omega) rfl (Nat.le_of_ble_eq_true rfl) (Nat.le_of_ble_eq_true rfl) ?_
  refine bz_if_ne (tgt := 31) dX4_next_25 rfl (fun _ => ?_) (fun q => absurd q (by decide))
  refine bz_aload_n dX4_next_31 rfl ?_
  refine bz_aload_n dX4_next_32 rfl ?_
  refine bz_getf fl_X4_23 dX4_next_33 rfl rfl (by omega) ?_
  refine bz_bipush dX4_next_36 kc_bipush_30 ?_
  refine bz_iload_n dX4_next_38 rfl ?_
  first | refine bz_imulN dX4_next_39 ?_ | refine bz_imul dX4_next_39 ?_
  refine bz_iload_n dX4_next_40 rfl ?_
  refine bz_cV3U (z := 1) mv_X4_layFound mi_X4_layFound lk_X4_144 dX4_next_41 (by exact hV1) (by omega) rfl (by omega) rfl rfl rfl (Nat.le_of_ble_eq_true rfl) (Nat.le_of_ble_eq_true rfl) ?_
  refine bz_bipush dX4_next_44 kc_bipush_m6 ?_
  refine bz_ist4 dX4_next_46 (by decide) rfl ?_
  refine bz_bipush dX4_next_48 kc_bipush_29 ?_
  refine bz_ist5 dX4_next_50 (by decide) rfl ?_
  rw [← nx_congr h1 _ _ (show f + (30 - f) = 30 by omega)]
  exact y_nx_loop hf 0 29 rfl (by omega) (by omega)
theorem y_next_1 {x1 x2 x3 : Int32} (h : x1 < 0 ∨ nI 8 ≤ x1) : bz_V l ad K 73 mX4_next 5 (some (.int (-1))) σ 0 [some (.ref (ad 54)), some (.int x1), some (.int x2), some (.int x3), none, none] [] σ := by
  refine bz_iload_n dX4_next_0 rfl ?_
  refine bz_cS1I (z := 0) mv_X4_isSlot ws_X4_isSlot lk_X4_156 dX4_next_1 (by exact m_isSlotF h) (by omega) rfl (Nat.le_of_ble_eq_true rfl) (Nat.le_of_ble_eq_true rfl) ?_
  refine bz_if_eq (tgt := 16) dX4_next_4 rfl (fun _ => ?_) (fun q => absurd (by decide) q)
  refine bz_iconst dX4_next_16 kc_iconst_m1 ?_
  refine bz_iret dX4_next_17 rfl rfl rfl
theorem y_next_2 {s : Nat} {x2 x3 : Int32} (hs : s < 8) (h : x2 < 0 ∨ nI 5 ≤ x2) : bz_V l ad K 73 mX4_next 5 (some (.int (-1))) σ 0 [some (.ref (ad 54)), some (.int (nI s)), some (.int x2), some (.int x3), none, none] [] σ := by
  refine bz_iload_n dX4_next_0 rfl ?_
  refine bz_cS1I (z := 0) mv_X4_isSlot ws_X4_isSlot lk_X4_156 dX4_next_1 (by exact m_isSlot hs) (by omega) rfl (Nat.le_of_ble_eq_true rfl) (Nat.le_of_ble_eq_true rfl) ?_
  refine bz_if_eq (tgt := 16) dX4_next_4 rfl (fun q => absurd q (by decide)) (fun _ => ?_)
  refine bz_iload_n dX4_next_7 rfl ?_
  refine bz_iconst dX4_next_8 kc_iconst_0 ?_
  refine bz_iconst dX4_next_9 kc_iconst_4 ?_
  refine bz_cS3I (z := 0) mv_X4_in ws_X4_in lk_X4_101 dX4_next_10 (by exact m_inF (m_lt (N := 4) (by decide) h)) (by omega) rfl (Nat.le_of_ble_eq_true rfl) (Nat.le_of_ble_eq_true rfl) ?_
  refine bz_if_ne (tgt := 18) dX4_next_13 rfl (fun q => absurd (by decide) q) (fun _ => ?_)
  refine bz_iconst dX4_next_16 kc_iconst_m1 ?_
  refine bz_iret dX4_next_17 rfl rfl rfl
theorem y_next_3 {s base : Nat} {x3 : Int32} (hs : s < 8) (hbs : base < 5) (h : x3 < 0 ∨ nI 31 ≤ x3) : bz_V l ad K 73 mX4_next 5 (some (.int (-2))) σ 0 [some (.ref (ad 54)), some (.int (nI s)), some (.int (nI base)), some (.int x3), none, none] [] σ := by
  refine bz_iload_n dX4_next_0 rfl ?_
  refine bz_cS1I (z := 0) mv_X4_isSlot ws_X4_isSlot lk_X4_156 dX4_next_1 (by exact m_isSlot hs) (by omega) rfl (Nat.le_of_ble_eq_true rfl) (Nat.le_of_ble_eq_true rfl) ?_
  refine bz_if_eq (tgt := 16) dX4_next_4 rfl (fun q => absurd q (by decide)) (fun _ => ?_)
  refine bz_iload_n dX4_next_7 rfl ?_
  refine bz_iconst dX4_next_8 kc_iconst_0 ?_
  refine bz_iconst dX4_next_9 kc_iconst_4 ?_
  refine bz_cS3I (z := 0) mv_X4_in ws_X4_in lk_X4_101 dX4_next_10 (by exact m_inN (Nat.zero_le base) (by omega) (by omega)) (by omega) rfl (Nat.le_of_ble_eq_true rfl) (Nat.le_of_ble_eq_true rfl) ?_
  refine bz_if_ne (tgt := 18) dX4_next_13 rfl (fun _ => ?_) (fun q => absurd q (by decide))
  refine bz_iload_n dX4_next_18 rfl ?_
  refine bz_iconst dX4_next_19 kc_iconst_0 ?_
  refine bz_bipush dX4_next_20 kc_bipush_30 ?_
  refine bz_cS3I (z := 0) mv_X4_in ws_X4_in lk_X4_101 dX4_next_22 (by exact m_inF (m_lt (N := 30) (by decide) h)) (by omega) rfl (Nat.le_of_ble_eq_true rfl) (Nat.le_of_ble_eq_true rfl) ?_
  refine bz_if_ne (tgt := 31) dX4_next_25 rfl (fun q => absurd (by decide) q) (fun _ => ?_)
  refine bz_bipush dX4_next_28 kc_bipush_m2 ?_
  refine bz_iret dX4_next_30 rfl rfl rfl
theorem y_scalar {a b : Nat} {F : Nat → Int64} (hT : mz_T σ.2.1) (hM : mz_M σ) (hFl : fl_F σ) (ha : a < 8) (hb : b < 8) (hF : fc_from 2 (fun j => σ.1 59 (30 * a + j)) F) :
    ∃ σ2, bz_V l ad K 73 mX4_scalar 6 (some (.long (zsum (fun j => F j * σ.1 59 (30 * b + j)) 0 30))) σ2 0 [some (.ref (ad 54)), some (.int (nI a)), some (.int (nI b))] [] σ ∧ bz_mr σ σ2 := by
  obtain ⟨s2, hV2, hl2⟩ := m_scalarOf (l := l) (ad := ad) (K := K) (σ := σ) (kf := 59) (lf := 240) (fF := 30 * a) (kg := 59) (lg := 240) (fG := 30 * b) (w := fun j => σ.1 59 (30 * a + j)) (g := fun j => σ.1 59 (30 * b + j)) (F := F) hT hM hFl rfl (by omega) (by omega) (by omega) (fun _ _ => rfl) rfl (by omega) (by omega) (by omega) hF (fun σ2 h2 j hj => by rw [h2.1 59 (by omega)])
  refine ⟨s2, ?_, bz_mr_lf hl2⟩
  refine bz_iload_n dX4_scalar_0 rfl ?_
  refine bz_cS1I (z := 0) mv_X4_isSlot ws_X4_isSlot lk_X4_156 dX4_scalar_1 (by exact m_isSlot ha) (by omega) rfl (Nat.le_of_ble_eq_true rfl) (Nat.le_of_ble_eq_true rfl) ?_
  refine bz_if_eq (tgt := 37) dX4_scalar_4 rfl (fun q => absurd q (by decide)) (fun _ => ?_)
  refine bz_iload_n dX4_scalar_7 rfl ?_
  refine bz_cS1I (z := 0) mv_X4_isSlot ws_X4_isSlot lk_X4_156 dX4_scalar_8 (by exact m_isSlot hb) (by omega) rfl (Nat.le_of_ble_eq_true rfl) (Nat.le_of_ble_eq_true rfl) ?_
  refine bz_if_eq (tgt := 37) dX4_scalar_11 rfl (fun q => absurd q (by decide)) (fun _ => ?_)
  refine bz_aload_n dX4_scalar_14 rfl ?_
  refine bz_aload_n dX4_scalar_15 rfl ?_
  refine bz_getf fl_X4_23 dX4_scalar_16 rfl rfl (by omega) ?_
  refine bz_bipush dX4_scalar_19 kc_bipush_30 ?_
  refine bz_iload_n dX4_scalar_21 rfl ?_
  first | refine bz_imulN dX4_scalar_22 ?_ | refine bz_imul dX4_scalar_22 ?_
  refine bz_aload_n dX4_scalar_23 rfl ?_
  refine bz_getf fl_X4_23 dX4_scalar_24 rfl rfl (by omega) ?_
  refine bz_bipush dX4_scalar_27 kc_bipush_30 ?_
  refine bz_iload_n dX4_scalar_29 rfl ?_
  first | refine bz_imulN dX4_scalar_30 ?_ | refine bz_imul dX4_scalar_30 ?_
  refine bz_cV4L (z := 3) mv_X4_scalarOf mi_X4_scalarOf lk_X4_148 dX4_scalar_31 (by exact hV2) (by omega) rfl (by omega) rfl rfl rfl (Nat.le_of_ble_eq_true rfl) (Nat.le_of_ble_eq_true rfl) ?_
  refine bz_goto (tgt := 40) dX4_scalar_34 rfl ?_
  refine bz_lret dX4_scalar_40 rfl rfl rfl
theorem y_scalar_1 {x1 x2 : Int32} (h : x1 < 0 ∨ nI 8 ≤ x1) : bz_V l ad K 73 mX4_scalar 6 (some (.long (-4000000000000000001))) σ 0 [some (.ref (ad 54)), some (.int x1), some (.int x2)] [] σ := by
  refine bz_iload_n dX4_scalar_0 rfl ?_
  refine bz_cS1I (z := 0) mv_X4_isSlot ws_X4_isSlot lk_X4_156 dX4_scalar_1 (by exact m_isSlotF h) (by omega) rfl (Nat.le_of_ble_eq_true rfl) (Nat.le_of_ble_eq_true rfl) ?_
  refine bz_if_eq (tgt := 37) dX4_scalar_4 rfl (fun _ => ?_) (fun q => absurd (by decide) q)
  refine bz_ldc2 kl_X4_171 dX4_scalar_37 ?_
  refine bz_lret dX4_scalar_40 rfl rfl rfl
theorem y_scalar_2 {a : Nat} {x2 : Int32} (ha : a < 8) (h : x2 < 0 ∨ nI 8 ≤ x2) : bz_V l ad K 73 mX4_scalar 6 (some (.long (-4000000000000000001))) σ 0 [some (.ref (ad 54)), some (.int (nI a)), some (.int x2)] [] σ := by
  refine bz_iload_n dX4_scalar_0 rfl ?_
  refine bz_cS1I (z := 0) mv_X4_isSlot ws_X4_isSlot lk_X4_156 dX4_scalar_1 (by exact m_isSlot ha) (by omega) rfl (Nat.le_of_ble_eq_true rfl) (Nat.le_of_ble_eq_true rfl) ?_
  refine bz_if_eq (tgt := 37) dX4_scalar_4 rfl (fun q => absurd q (by decide)) (fun _ => ?_)
  refine bz_iload_n dX4_scalar_7 rfl ?_
  refine bz_cS1I (z := 0) mv_X4_isSlot ws_X4_isSlot lk_X4_156 dX4_scalar_8 (by exact m_isSlotF h) (by omega) rfl (Nat.le_of_ble_eq_true rfl) (Nat.le_of_ble_eq_true rfl) ?_
  refine bz_if_eq (tgt := 37) dX4_scalar_11 rfl (fun _ => ?_) (fun q => absurd (by decide) q)
  refine bz_ldc2 kl_X4_171 dX4_scalar_37 ?_
  refine bz_lret dX4_scalar_40 rfl rfl rfl
theorem y_times_1 {x y z : Int32} (h : x < 0 ∨ nI 8 ≤ x) : bz_V l ad K 73 mX4_times 3 (some (.int (-1))) σ 0 [some (.ref (ad 54)), some (.int x), some (.int y), some (.int z)] [] σ := by
  refine bz_iload_n dX4_times_0 rfl ?_
  refine bz_cS1I (z := 0) mv_X4_isSlot ws_X4_isSlot lk_X4_156 dX4_times_1 (by exact m_isSlotF h) (by omega) rfl (Nat.le_of_ble_eq_true rfl) (Nat.le_of_ble_eq_true rfl) ?_
  refine bz_if_eq (tgt := 21) dX4_times_4 rfl (fun _ => ?_) (fun q => absurd (by decide) q)
  refine bz_iconst dX4_times_21 kc_iconst_m1 ?_
  refine bz_iret dX4_times_22 rfl rfl rfl
theorem y_times_2 {a : Nat} {y z : Int32} (ha : a < 8) (h : y < 0 ∨ nI 8 ≤ y) : bz_V l ad K 73 mX4_times 3 (some (.int (-1))) σ 0 [some (.ref (ad 54)), some (.int (nI a)), some (.int y), some (.int z)] [] σ := by
  refine bz_iload_n dX4_times_0 rfl ?_
  refine bz_cS1I (z := 0) mv_X4_isSlot ws_X4_isSlot lk_X4_156 dX4_times_1 (by exact m_isSlot ha) (by omega) rfl (Nat.le_of_ble_eq_true rfl) (Nat.le_of_ble_eq_true rfl) ?_
  refine bz_if_eq (tgt := 21) dX4_times_4 rfl (fun q => absurd q (by decide)) (fun _ => ?_)
  refine bz_iload_n dX4_times_7 rfl ?_
  refine bz_cS1I (z := 0) mv_X4_isSlot ws_X4_isSlot lk_X4_156 dX4_times_8 (by exact m_isSlotF h) (by omega) rfl (Nat.le_of_ble_eq_true rfl) (Nat.le_of_ble_eq_true rfl) ?_
  refine bz_if_eq (tgt := 21) dX4_times_11 rfl (fun _ => ?_) (fun q => absurd (by decide) q)
  refine bz_iconst dX4_times_21 kc_iconst_m1 ?_
  refine bz_iret dX4_times_22 rfl rfl rfl
theorem y_times_3 {a b : Nat} {z : Int32} (ha : a < 8) (hb : b < 8) (h : z < 0 ∨ nI 8 ≤ z) : bz_V l ad K 73 mX4_times 3 (some (.int (-1))) σ 0 [some (.ref (ad 54)), some (.int (nI a)), some (.int (nI b)), some (.int z)] [] σ := by
  refine bz_iload_n dX4_times_0 rfl ?_
  refine bz_cS1I (z := 0) mv_X4_isSlot ws_X4_isSlot lk_X4_156 dX4_times_1 (by exact m_isSlot ha) (by omega) rfl (Nat.le_of_ble_eq_true rfl) (Nat.le_of_ble_eq_true rfl) ?_
  refine bz_if_eq (tgt := 21) dX4_times_4 rfl (fun q => absurd q (by decide)) (fun _ => ?_)
  refine bz_iload_n dX4_times_7 rfl ?_
  refine bz_cS1I (z := 0) mv_X4_isSlot ws_X4_isSlot lk_X4_156 dX4_times_8 (by exact m_isSlot hb) (by omega) rfl (Nat.le_of_ble_eq_true rfl) (Nat.le_of_ble_eq_true rfl) ?_
  refine bz_if_eq (tgt := 21) dX4_times_11 rfl (fun q => absurd q (by decide)) (fun _ => ?_)
  refine bz_iload_n dX4_times_14 rfl ?_
  refine bz_cS1I (z := 0) mv_X4_isSlot ws_X4_isSlot lk_X4_156 dX4_times_15 (by exact m_isSlotF h) (by omega) rfl (Nat.le_of_ble_eq_true rfl) (Nat.le_of_ble_eq_true rfl) ?_
  refine bz_if_ne (tgt := 23) dX4_times_18 rfl (fun q => absurd (by decide) q) (fun _ => ?_)
  refine bz_iconst dX4_times_21 kc_iconst_m1 ?_
  refine bz_iret dX4_times_22 rfl rfl rfl
theorem y_strip_1 {x y z : Int32} (h : x < 0 ∨ nI 8 ≤ x) : bz_V l ad K 73 mX4_strip 6 (some (.int (-1))) σ 0 [some (.ref (ad 54)), some (.int x), some (.int y), some (.int z), none, none, none, none] [] σ := by
  refine bz_iload_n dX4_strip_0 rfl ?_
  refine bz_cS1I (z := 0) mv_X4_isSlot ws_X4_isSlot lk_X4_156 dX4_strip_1 (by exact m_isSlotF h) (by omega) rfl (Nat.le_of_ble_eq_true rfl) (Nat.le_of_ble_eq_true rfl) ?_
  refine bz_if_eq (tgt := 21) dX4_strip_4 rfl (fun _ => ?_) (fun q => absurd (by decide) q)
  refine bz_iconst dX4_strip_21 kc_iconst_m1 ?_
  refine bz_iret dX4_strip_22 rfl rfl rfl
theorem y_strip_2 {a : Nat} {y z : Int32} (ha : a < 8) (h : y < 0 ∨ nI 8 ≤ y) : bz_V l ad K 73 mX4_strip 6 (some (.int (-1))) σ 0 [some (.ref (ad 54)), some (.int (nI a)), some (.int y), some (.int z), none, none, none, none] [] σ := by
  refine bz_iload_n dX4_strip_0 rfl ?_
  refine bz_cS1I (z := 0) mv_X4_isSlot ws_X4_isSlot lk_X4_156 dX4_strip_1 (by exact m_isSlot ha) (by omega) rfl (Nat.le_of_ble_eq_true rfl) (Nat.le_of_ble_eq_true rfl) ?_
  refine bz_if_eq (tgt := 21) dX4_strip_4 rfl (fun q => absurd q (by decide)) (fun _ => ?_)
  refine bz_iload_n dX4_strip_7 rfl ?_
  refine bz_cS1I (z := 0) mv_X4_isSlot ws_X4_isSlot lk_X4_156 dX4_strip_8 (by exact m_isSlotF h) (by omega) rfl (Nat.le_of_ble_eq_true rfl) (Nat.le_of_ble_eq_true rfl) ?_
  refine bz_if_eq (tgt := 21) dX4_strip_11 rfl (fun _ => ?_) (fun q => absurd (by decide) q)
  refine bz_iconst dX4_strip_21 kc_iconst_m1 ?_
  refine bz_iret dX4_strip_22 rfl rfl rfl
theorem y_strip_3 {a b : Nat} {z : Int32} (ha : a < 8) (hb : b < 8) (h : z < 0 ∨ nI 8 ≤ z) : bz_V l ad K 73 mX4_strip 6 (some (.int (-1))) σ 0 [some (.ref (ad 54)), some (.int (nI a)), some (.int (nI b)), some (.int z), none, none, none, none] [] σ := by
  refine bz_iload_n dX4_strip_0 rfl ?_
  refine bz_cS1I (z := 0) mv_X4_isSlot ws_X4_isSlot lk_X4_156 dX4_strip_1 (by exact m_isSlot ha) (by omega) rfl (Nat.le_of_ble_eq_true rfl) (Nat.le_of_ble_eq_true rfl) ?_
  refine bz_if_eq (tgt := 21) dX4_strip_4 rfl (fun q => absurd q (by decide)) (fun _ => ?_)
  refine bz_iload_n dX4_strip_7 rfl ?_
  refine bz_cS1I (z := 0) mv_X4_isSlot ws_X4_isSlot lk_X4_156 dX4_strip_8 (by exact m_isSlot hb) (by omega) rfl (Nat.le_of_ble_eq_true rfl) (Nat.le_of_ble_eq_true rfl) ?_
  refine bz_if_eq (tgt := 21) dX4_strip_11 rfl (fun q => absurd q (by decide)) (fun _ => ?_)
  refine bz_iload_n dX4_strip_14 rfl ?_
  refine bz_cS1I (z := 0) mv_X4_isSlot ws_X4_isSlot lk_X4_156 dX4_strip_15 (by exact m_isSlotF h) (by omega) rfl (Nat.le_of_ble_eq_true rfl) (Nat.le_of_ble_eq_true rfl) ?_
  refine bz_if_ne (tgt := 23) dX4_strip_18 rfl (fun q => absurd (by decide) q) (fun _ => ?_)
  refine bz_iconst dX4_strip_21 kc_iconst_m1 ?_
  refine bz_iret dX4_strip_22 rfl rfl rfl
theorem y_meet_1 {x y z : Int32} (h : x < 0 ∨ nI 8 ≤ x) : bz_V l ad K 73 mX4_meet 6 (some (.int (-1))) σ 0 [some (.ref (ad 54)), some (.int x), some (.int y), some (.int z), none] [] σ := by
  refine bz_iload_n dX4_meet_0 rfl ?_
  refine bz_cS1I (z := 0) mv_X4_isSlot ws_X4_isSlot lk_X4_156 dX4_meet_1 (by exact m_isSlotF h) (by omega) rfl (Nat.le_of_ble_eq_true rfl) (Nat.le_of_ble_eq_true rfl) ?_
  refine bz_if_eq (tgt := 21) dX4_meet_4 rfl (fun _ => ?_) (fun q => absurd (by decide) q)
  refine bz_iconst dX4_meet_21 kc_iconst_m1 ?_
  refine bz_iret dX4_meet_22 rfl rfl rfl
theorem y_meet_2 {a : Nat} {y z : Int32} (ha : a < 8) (h : y < 0 ∨ nI 8 ≤ y) : bz_V l ad K 73 mX4_meet 6 (some (.int (-1))) σ 0 [some (.ref (ad 54)), some (.int (nI a)), some (.int y), some (.int z), none] [] σ := by
  refine bz_iload_n dX4_meet_0 rfl ?_
  refine bz_cS1I (z := 0) mv_X4_isSlot ws_X4_isSlot lk_X4_156 dX4_meet_1 (by exact m_isSlot ha) (by omega) rfl (Nat.le_of_ble_eq_true rfl) (Nat.le_of_ble_eq_true rfl) ?_
  refine bz_if_eq (tgt := 21) dX4_meet_4 rfl (fun q => absurd q (by decide)) (fun _ => ?_)
  refine bz_iload_n dX4_meet_7 rfl ?_
  refine bz_cS1I (z := 0) mv_X4_isSlot ws_X4_isSlot lk_X4_156 dX4_meet_8 (by exact m_isSlotF h) (by omega) rfl (Nat.le_of_ble_eq_true rfl) (Nat.le_of_ble_eq_true rfl) ?_
  refine bz_if_eq (tgt := 21) dX4_meet_11 rfl (fun _ => ?_) (fun q => absurd (by decide) q)
  refine bz_iconst dX4_meet_21 kc_iconst_m1 ?_
  refine bz_iret dX4_meet_22 rfl rfl rfl
theorem y_meet_3 {a b : Nat} {z : Int32} (ha : a < 8) (hb : b < 8) (h : z < 0 ∨ nI 8 ≤ z) : bz_V l ad K 73 mX4_meet 6 (some (.int (-1))) σ 0 [some (.ref (ad 54)), some (.int (nI a)), some (.int (nI b)), some (.int z), none] [] σ := by
  refine bz_iload_n dX4_meet_0 rfl ?_
  refine bz_cS1I (z := 0) mv_X4_isSlot ws_X4_isSlot lk_X4_156 dX4_meet_1 (by exact m_isSlot ha) (by omega) rfl (Nat.le_of_ble_eq_true rfl) (Nat.le_of_ble_eq_true rfl) ?_
  refine bz_if_eq (tgt := 21) dX4_meet_4 rfl (fun q => absurd q (by decide)) (fun _ => ?_)
  refine bz_iload_n dX4_meet_7 rfl ?_
  refine bz_cS1I (z := 0) mv_X4_isSlot ws_X4_isSlot lk_X4_156 dX4_meet_8 (by exact m_isSlot hb) (by omega) rfl (Nat.le_of_ble_eq_true rfl) (Nat.le_of_ble_eq_true rfl) ?_
  refine bz_if_eq (tgt := 21) dX4_meet_11 rfl (fun q => absurd q (by decide)) (fun _ => ?_)
  refine bz_iload_n dX4_meet_14 rfl ?_
  refine bz_cS1I (z := 0) mv_X4_isSlot ws_X4_isSlot lk_X4_156 dX4_meet_15 (by exact m_isSlotF h) (by omega) rfl (Nat.le_of_ble_eq_true rfl) (Nat.le_of_ble_eq_true rfl) ?_
  refine bz_if_ne (tgt := 23) dX4_meet_18 rfl (fun q => absurd (by decide) q) (fun _ => ?_)
  refine bz_iconst dX4_meet_21 kc_iconst_m1 ?_
  refine bz_iret dX4_meet_22 rfl rfl rfl
theorem y_plug_1 {x y z : Int32} (h : x < 0 ∨ nI 8 ≤ x) : bz_V l ad K 73 mX4_plug 6 (some (.int (-1))) σ 0 [some (.ref (ad 54)), some (.int x), some (.int y), some (.int z), none, none] [] σ := by
  refine bz_iload_n dX4_plug_0 rfl ?_
  refine bz_cS1I (z := 0) mv_X4_isSlot ws_X4_isSlot lk_X4_156 dX4_plug_1 (by exact m_isSlotF h) (by omega) rfl (Nat.le_of_ble_eq_true rfl) (Nat.le_of_ble_eq_true rfl) ?_
  refine bz_if_eq (tgt := 21) dX4_plug_4 rfl (fun _ => ?_) (fun q => absurd (by decide) q)
  refine bz_iconst dX4_plug_21 kc_iconst_m1 ?_
  refine bz_iret dX4_plug_22 rfl rfl rfl
theorem y_plug_2 {a : Nat} {y z : Int32} (ha : a < 8) (h : y < 0 ∨ nI 8 ≤ y) : bz_V l ad K 73 mX4_plug 6 (some (.int (-1))) σ 0 [some (.ref (ad 54)), some (.int (nI a)), some (.int y), some (.int z), none, none] [] σ := by
  refine bz_iload_n dX4_plug_0 rfl ?_
  refine bz_cS1I (z := 0) mv_X4_isSlot ws_X4_isSlot lk_X4_156 dX4_plug_1 (by exact m_isSlot ha) (by omega) rfl (Nat.le_of_ble_eq_true rfl) (Nat.le_of_ble_eq_true rfl) ?_
  refine bz_if_eq (tgt := 21) dX4_plug_4 rfl (fun q => absurd q (by decide)) (fun _ => ?_)
  refine bz_iload_n dX4_plug_7 rfl ?_
  refine bz_cS1I (z := 0) mv_X4_isSlot ws_X4_isSlot lk_X4_156 dX4_plug_8 (by exact m_isSlotF h) (by omega) rfl (Nat.le_of_ble_eq_true rfl) (Nat.le_of_ble_eq_true rfl) ?_
  refine bz_if_eq (tgt := 21) dX4_plug_11 rfl (fun _ => ?_) (fun q => absurd (by decide) q)
  refine bz_iconst dX4_plug_21 kc_iconst_m1 ?_
  refine bz_iret dX4_plug_22 rfl rfl rfl
theorem y_plug_3 {a b : Nat} {z : Int32} (ha : a < 8) (hb : b < 8) (h : z < 0 ∨ nI 8 ≤ z) : bz_V l ad K 73 mX4_plug 6 (some (.int (-1))) σ 0 [some (.ref (ad 54)), some (.int (nI a)), some (.int (nI b)), some (.int z), none, none] [] σ := by
  refine bz_iload_n dX4_plug_0 rfl ?_
  refine bz_cS1I (z := 0) mv_X4_isSlot ws_X4_isSlot lk_X4_156 dX4_plug_1 (by exact m_isSlot ha) (by omega) rfl (Nat.le_of_ble_eq_true rfl) (Nat.le_of_ble_eq_true rfl) ?_
  refine bz_if_eq (tgt := 21) dX4_plug_4 rfl (fun q => absurd q (by decide)) (fun _ => ?_)
  refine bz_iload_n dX4_plug_7 rfl ?_
  refine bz_cS1I (z := 0) mv_X4_isSlot ws_X4_isSlot lk_X4_156 dX4_plug_8 (by exact m_isSlot hb) (by omega) rfl (Nat.le_of_ble_eq_true rfl) (Nat.le_of_ble_eq_true rfl) ?_
  refine bz_if_eq (tgt := 21) dX4_plug_11 rfl (fun q => absurd q (by decide)) (fun _ => ?_)
  refine bz_iload_n dX4_plug_14 rfl ?_
  refine bz_cS1I (z := 0) mv_X4_isSlot ws_X4_isSlot lk_X4_156 dX4_plug_15 (by exact m_isSlotF h) (by omega) rfl (Nat.le_of_ble_eq_true rfl) (Nat.le_of_ble_eq_true rfl) ?_
  refine bz_if_ne (tgt := 23) dX4_plug_18 rfl (fun q => absurd (by decide) q) (fun _ => ?_)
  refine bz_iconst dX4_plug_21 kc_iconst_m1 ?_
  refine bz_iret dX4_plug_22 rfl rfl rfl
theorem y_times {to a b : Nat} (hT : mz_T σ.2.1) (hFl : fl_F σ) (ht : to < 8) (ha : a < 8) (hb : b < 8) (hf : ¬ (¬ dgz (fun j => σ.1 59 (30 * a + j)) 30 < 0 ∧ ¬ dgz (fun j => σ.1 59 (30 * b + j)) 30 < 0 ∧ ¬ dgz (fun j => σ.1 59 (30 * a + j)) 30 + dgz (fun j => σ.1 59 (30 * b + j)) 30 ≤ nI 6)) :
    ∃ σ2, bz_V l ad K 73 mX4_times 3 (some (.int (hz_r (mt_s (fun j => σ.1 59 (30 * a + j)) (fun j => σ.1 59 (30 * b + j)))))) σ2 0 [some (.ref (ad 54)), some (.int (nI to)), some (.int (nI a)), some (.int (nI b))] [] σ ∧ bz_mk σ σ2 to (mt_s (fun j => σ.1 59 (30 * a + j)) (fun j => σ.1 59 (30 * b + j))) := by
  obtain ⟨σ2, hV, hk⟩ := m_keepR (l := l) (ad := ad) (K := K) (σ0 := σ) (σ := bz_setJ σ 66 (mt_up (σ.1 66) 0 (mt_s (fun j => σ.1 59 (30 * a + j)) (fun j => σ.1 59 (30 * b + j))) 30)) (R := mt_s (fun j => σ.1 59 (30 * a + j)) (fun j => σ.1 59 (30 * b + j))) ht (bz_mr_set hFl (by omega)) (fun j hj => by rw [bz_setJ_at]; have := mt_up_in (f := σ.1 66) (t := 0) (R := mt_s (fun j => σ.1 59 (30 * a + j)) (fun j => σ.1 59 (30 * b + j))) hj; rw [Nat.zero_add] at this; exact this)
  refine ⟨σ2, ?_, hk⟩
  refine bz_iload_n dX4_times_0 rfl ?_
  refine bz_cS1I (z := 0) mv_X4_isSlot ws_X4_isSlot lk_X4_156 dX4_times_1 (by exact m_isSlot ht) (by omega) rfl (Nat.le_of_ble_eq_true rfl) (Nat.le_of_ble_eq_true rfl) ?_
  refine bz_if_eq (tgt := 21) dX4_times_4 rfl (fun q => absurd q (by decide)) (fun _ => ?_)
  refine bz_iload_n dX4_times_7 rfl ?_
  refine bz_cS1I (z := 0) mv_X4_isSlot ws_X4_isSlot lk_X4_156 dX4_times_8 (by exact m_isSlot ha) (by omega) rfl (Nat.le_of_ble_eq_true rfl) (Nat.le_of_ble_eq_true rfl) ?_
  refine bz_if_eq (tgt := 21) dX4_times_11 rfl (fun q => absurd q (by decide)) (fun _ => ?_)
  refine bz_iload_n dX4_times_14 rfl ?_
  refine bz_cS1I (z := 0) mv_X4_isSlot ws_X4_isSlot lk_X4_156 dX4_times_15 (by exact m_isSlot hb) (by omega) rfl (Nat.le_of_ble_eq_true rfl) (Nat.le_of_ble_eq_true rfl) ?_
  refine bz_if_ne (tgt := 23) dX4_times_18 rfl (fun _ => ?_) (fun q => absurd q (by decide))
  have fin : bz_V l ad K 73 mX4_times 3 (some (.int (hz_r (mt_s (fun j => σ.1 59 (30 * a + j)) (fun j => σ.1 59 (30 * b + j)))))) σ2 58 [some (.ref (ad 54)), some (.int (nI to)), some (.int (nI a)), some (.int (nI b))] [] σ := by
    refine bz_aload_n dX4_times_58 rfl ?_
    refine bz_aload_n dX4_times_59 rfl ?_
    refine bz_getf fl_X4_23 dX4_times_60 rfl rfl (by omega) ?_
    refine bz_bipush dX4_times_63 kc_bipush_30 ?_
    refine bz_iload_n dX4_times_65 rfl ?_
    first | refine bz_imulN dX4_times_66 ?_ | refine bz_imul dX4_times_66 ?_
    refine bz_aload_n dX4_times_67 rfl ?_
    refine bz_getf fl_X4_23 dX4_times_68 rfl rfl (by omega) ?_
    refine bz_bipush dX4_times_71 kc_bipush_30 ?_
    refine bz_iload_n dX4_times_73 rfl ?_
    first | refine bz_imulN dX4_times_74 ?_ | refine bz_imul dX4_times_74 ?_
    refine bz_aload_n dX4_times_75 rfl ?_
    refine bz_getf fl_X4_44 dX4_times_76 rfl rfl (by omega) ?_
    refine bz_iconst dX4_times_79 kc_iconst_0 ?_
    refine bz_cV6U (z := 10) mv_X4_multiply mi_X4_multiply lk_X4_97 dX4_times_80 (by exact m_multiply (by exact hT) rfl rfl rfl (by omega) (by omega) (by omega) (by omega) (by omega) (by omega) (fun _ _ => rfl) (fun _ _ => rfl) (by omega) (by omega)) (by omega) rfl (by omega) rfl rfl rfl (Nat.le_of_ble_eq_true rfl) (Nat.le_of_ble_eq_true rfl) ?_
    refine bz_aload_n dX4_times_83 rfl ?_
    refine bz_iload_n dX4_times_84 rfl ?_
    refine bz_cV1I (z := 1) mv_X4_keep mi_X4_keep lk_X4_165 dX4_times_85 (by exact hV) (by omega) rfl (by omega) rfl rfl rfl (Nat.le_of_ble_eq_true rfl) (Nat.le_of_ble_eq_true rfl) ?_
    refine bz_iret dX4_times_88 rfl rfl rfl
  refine bz_aload_n dX4_times_23 rfl ?_
  refine bz_iload_n dX4_times_24 rfl ?_
  refine bz_cV1I (z := 2) mv_X4_degreeOf mi_X4_degreeOf lk_X4_168 dX4_times_25 (by exact m_degreeOf hT ha) (by omega) rfl (by omega) rfl rfl rfl (Nat.le_of_ble_eq_true rfl) (Nat.le_of_ble_eq_true rfl) ?_
  refine bz_if_lt (tgt := 58) dX4_times_28 rfl (fun h1 => ?_) (fun h1 => ?_)
  · exact fin
  · refine bz_aload_n dX4_times_31 rfl ?_
    refine bz_iload_n dX4_times_32 rfl ?_
    refine bz_cV1I (z := 2) mv_X4_degreeOf mi_X4_degreeOf lk_X4_168 dX4_times_33 (by exact m_degreeOf hT hb) (by omega) rfl (by omega) rfl rfl rfl (Nat.le_of_ble_eq_true rfl) (Nat.le_of_ble_eq_true rfl) ?_
    refine bz_if_lt (tgt := 58) dX4_times_36 rfl (fun h2 => ?_) (fun h2 => ?_)
    · exact fin
    · refine bz_aload_n dX4_times_39 rfl ?_
      refine bz_iload_n dX4_times_40 rfl ?_
      refine bz_cV1I (z := 2) mv_X4_degreeOf mi_X4_degreeOf lk_X4_168 dX4_times_41 (by exact m_degreeOf hT ha) (by omega) rfl (by omega) rfl rfl rfl (Nat.le_of_ble_eq_true rfl) (Nat.le_of_ble_eq_true rfl) ?_
      refine bz_aload_n dX4_times_44 rfl ?_
      refine bz_iload_n dX4_times_45 rfl ?_
      refine bz_cV1I (z := 2) mv_X4_degreeOf mi_X4_degreeOf lk_X4_168 dX4_times_46 (by exact m_degreeOf hT hb) (by omega) rfl (by omega) rfl rfl rfl (Nat.le_of_ble_eq_true rfl) (Nat.le_of_ble_eq_true rfl) ?_
      refine bz_iadd dX4_times_49 ?_
      refine bz_bipush dX4_times_50 kc_bipush_6 ?_
      refine bz_icmp_le (tgt := 58) dX4_times_52 rfl (fun h3 => ?_) (fun h3 => ?_)
      · exact fin
      · exact absurd ⟨h1, h2, h3⟩ hf
theorem y_times_f {to a b : Nat} (hT : mz_T σ.2.1) (ht : to < 8) (ha : a < 8) (hb : b < 8) (hf : ¬ dgz (fun j => σ.1 59 (30 * a + j)) 30 < 0 ∧ ¬ dgz (fun j => σ.1 59 (30 * b + j)) 30 < 0 ∧ ¬ dgz (fun j => σ.1 59 (30 * a + j)) 30 + dgz (fun j => σ.1 59 (30 * b + j)) 30 ≤ nI 6) :
    bz_V l ad K 73 mX4_times 3 (some (.int (-4))) σ 0 [some (.ref (ad 54)), some (.int (nI to)), some (.int (nI a)), some (.int (nI b))] [] σ := by
  refine bz_iload_n dX4_times_0 rfl ?_
  refine bz_cS1I (z := 0) mv_X4_isSlot ws_X4_isSlot lk_X4_156 dX4_times_1 (by exact m_isSlot ht) (by omega) rfl (Nat.le_of_ble_eq_true rfl) (Nat.le_of_ble_eq_true rfl) ?_
  refine bz_if_eq (tgt := 21) dX4_times_4 rfl (fun q => absurd q (by decide)) (fun _ => ?_)
  refine bz_iload_n dX4_times_7 rfl ?_
  refine bz_cS1I (z := 0) mv_X4_isSlot ws_X4_isSlot lk_X4_156 dX4_times_8 (by exact m_isSlot ha) (by omega) rfl (Nat.le_of_ble_eq_true rfl) (Nat.le_of_ble_eq_true rfl) ?_
  refine bz_if_eq (tgt := 21) dX4_times_11 rfl (fun q => absurd q (by decide)) (fun _ => ?_)
  refine bz_iload_n dX4_times_14 rfl ?_
  refine bz_cS1I (z := 0) mv_X4_isSlot ws_X4_isSlot lk_X4_156 dX4_times_15 (by exact m_isSlot hb) (by omega) rfl (Nat.le_of_ble_eq_true rfl) (Nat.le_of_ble_eq_true rfl) ?_
  refine bz_if_ne (tgt := 23) dX4_times_18 rfl (fun _ => ?_) (fun q => absurd q (by decide))
  refine bz_aload_n dX4_times_23 rfl ?_
  refine bz_iload_n dX4_times_24 rfl ?_
  refine bz_cV1I (z := 2) mv_X4_degreeOf mi_X4_degreeOf lk_X4_168 dX4_times_25 (by exact m_degreeOf hT ha) (by omega) rfl (by omega) rfl rfl rfl (Nat.le_of_ble_eq_true rfl) (Nat.le_of_ble_eq_true rfl) ?_
  refine bz_if_lt (tgt := 58) dX4_times_28 rfl (fun q => absurd q (hf.1)) (fun _ => ?_)
  refine bz_aload_n dX4_times_31 rfl ?_
  refine bz_iload_n dX4_times_32 rfl ?_
  refine bz_cV1I (z := 2) mv_X4_degreeOf mi_X4_degreeOf lk_X4_168 dX4_times_33 (by exact m_degreeOf hT hb) (by omega) rfl (by omega) rfl rfl rfl (Nat.le_of_ble_eq_true rfl) (Nat.le_of_ble_eq_true rfl) ?_
  refine bz_if_lt (tgt := 58) dX4_times_36 rfl (fun q => absurd q (hf.2.1)) (fun _ => ?_)
  refine bz_aload_n dX4_times_39 rfl ?_
  refine bz_iload_n dX4_times_40 rfl ?_
  refine bz_cV1I (z := 2) mv_X4_degreeOf mi_X4_degreeOf lk_X4_168 dX4_times_41 (by exact m_degreeOf hT ha) (by omega) rfl (by omega) rfl rfl rfl (Nat.le_of_ble_eq_true rfl) (Nat.le_of_ble_eq_true rfl) ?_
  refine bz_aload_n dX4_times_44 rfl ?_
  refine bz_iload_n dX4_times_45 rfl ?_
  refine bz_cV1I (z := 2) mv_X4_degreeOf mi_X4_degreeOf lk_X4_168 dX4_times_46 (by exact m_degreeOf hT hb) (by omega) rfl (by omega) rfl rfl rfl (Nat.le_of_ble_eq_true rfl) (Nat.le_of_ble_eq_true rfl) ?_
  refine bz_iadd dX4_times_49 ?_
  refine bz_bipush dX4_times_50 kc_bipush_6 ?_
  refine bz_icmp_le (tgt := 58) dX4_times_52 rfl (fun q => absurd q (hf.2.2)) (fun _ => ?_)
  refine bz_bipush dX4_times_55 kc_bipush_m4 ?_
  refine bz_iret dX4_times_57 rfl rfl rfl
end MA
