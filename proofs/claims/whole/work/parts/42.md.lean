/-! the reference: value, images, counts -/
theorem mt_i3 : ∀ i, i < 7 → ∀ j, j < 7 → ∀ k, k < 7 → 6 < i + j + k ∨ (mt_key i + mt_key j + mt_key k < 672 ∧ mt_bk (mt_key i + mt_key j + mt_key k) = xt_i3 i j k) := by decide +kernel
section ME
variable {l : Launch} {ad : Nat → Nat} {K : bz_K} {σ σ0 σ' : bz_S} {r : Option Value}
theorem y_v3 {s : Nat} {x y z : Int32} {T : Int64} {i j : Nat} (hT : mz_T σ.2.1) (hs : s < 8) (hij : i + j ≤ 6)
    (kk : ∀ x10 x11, bz_V l ad K 73 mX4_value 3 r σ' 160 [some (.ref (ad 54)), some (.int (nI s)), some (.int x), some (.int y), some (.int z), some (.long T), none, some (.int (nI i)), some (.int (nI j)), some (.int (nI (7 - i - j))), x10, x11] [] σ) :
    ∀ (m k : Nat) (acc : Int64) (x10 x11 : Option Value), k + m = 7 - i - j → acc + zsum (wk_v (fun j => σ.1 59 (30 * s + j)) x.toInt64 y.toInt64 z.toInt64 i j) k m = T →
      bz_V l ad K 73 mX4_value 3 r σ' 78 [some (.ref (ad 54)), some (.int (nI s)), some (.int x), some (.int y), some (.int z), some (.long acc), none, some (.int (nI i)), some (.int (nI j)), some (.int (nI k)), x10, x11] [] σ := by
  intro m
  induction m with
  | zero =>
    intro k acc x10 x11 hk hs2
    obtain rfl : k = 7 - i - j := by omega
    obtain rfl := zsum_end hs2
    refine bz_iload dX4_value_78 rfl ?_
    refine bz_iload dX4_value_80 rfl ?_
    first | refine bz_iaddN dX4_value_82 ?_ | refine bz_iadd dX4_value_82 ?_
    refine bz_iload dX4_value_83 rfl ?_
    first | refine bz_iaddN dX4_value_85 ?_ | refine bz_iadd dX4_value_85 ?_
    refine bz_bipush dX4_value_86 kc_bipush_6 ?_
    refine bz_icmp_gtN (tgt := 160) dX4_value_88 rfl (by omega) (by omega) (fun _ => ?_) (fun q => absurd q (by omega))
    exact kk _ _
  | succ m ih =>
    intro k acc x10 x11 hk hs2
    have hs3 := zsum_step hs2
    have hi3 := (mt_i3 i (by omega) j (by omega) k (by omega)).resolve_left (by omega)
    have hl3 := (xt_i3_ok (i := i) (j := j) (k := k) (by omega)).2.1
    refine bz_iload dX4_value_78 rfl ?_
    refine bz_iload dX4_value_80 rfl ?_
    first | refine bz_iaddN dX4_value_82 ?_ | refine bz_iadd dX4_value_82 ?_
    refine bz_iload dX4_value_83 rfl ?_
    first | refine bz_iaddN dX4_value_85 ?_ | refine bz_iadd dX4_value_85 ?_
    refine bz_bipush dX4_value_86 kc_bipush_6 ?_
    refine bz_icmp_gtN (tgt := 160) dX4_value_88 rfl (by omega) (by omega) (fun q => absurd q (by omega)) (fun _ => ?_)
    refine bz_aload_n dX4_value_91 rfl ?_
    refine bz_getf fl_X4_23 dX4_value_92 rfl rfl (by omega) ?_
    refine bz_bipush dX4_value_95 kc_bipush_30 ?_
    refine bz_iload_n dX4_value_97 rfl ?_
    first | refine bz_imulN dX4_value_98 ?_ | refine bz_imul dX4_value_98 ?_
    refine bz_aload_n dX4_value_99 rfl ?_
    refine bz_getf fl_X4_16 dX4_value_100 rfl rfl (by omega) ?_
    refine bz_iload dX4_value_103 rfl ?_
    refine bz_cS1I (z := 0) mv_X4_key ws_X4_key lk_X4_87 dX4_value_105 (by exact m_key (by omega)) (by omega) rfl (Nat.le_of_ble_eq_true rfl) (Nat.le_of_ble_eq_true rfl) ?_
    refine bz_iload dX4_value_108 rfl ?_
    refine bz_cS1I (z := 0) mv_X4_key ws_X4_key lk_X4_87 dX4_value_110 (by exact m_key (by omega)) (by omega) rfl (Nat.le_of_ble_eq_true rfl) (Nat.le_of_ble_eq_true rfl) ?_
    first | refine bz_iaddN dX4_value_113 ?_ | refine bz_iadd dX4_value_113 ?_
    refine bz_iload dX4_value_114 rfl ?_
    refine bz_cS1I (z := 0) mv_X4_key ws_X4_key lk_X4_87 dX4_value_116 (by exact m_key (by omega)) (by omega) rfl (Nat.le_of_ble_eq_true rfl) (Nat.le_of_ble_eq_true rfl) ?_
    first | refine bz_iaddN dX4_value_119 ?_ | refine bz_iadd dX4_value_119 ?_
    refine bz_iaload dX4_value_120 rfl (by omega) hi3.1 ?_
    refine bz_topi (y := nI (xt_i3 i j k)) ((hT.2.2 _ hi3.1).trans (by rw [hi3.2])) ?_
    first | refine bz_iaddN dX4_value_121 ?_ | refine bz_iadd dX4_value_121 ?_
    refine bz_laload dX4_value_122 rfl (by omega) (by omega) ?_
    refine bz_lst10 dX4_value_123 (by decide) rfl ?_
    refine bz_lload dX4_value_125 rfl ?_
    refine bz_lload dX4_value_127 rfl ?_
    refine bz_iload_n dX4_value_129 rfl ?_
    refine bz_iload dX4_value_130 rfl ?_
    refine bz_cS2L (z := 3) mv_X4_power ws_X4_power lk_X4_179 dX4_value_132 (by exact m_power (by omega)) (by omega) rfl (Nat.le_of_ble_eq_true rfl) (Nat.le_of_ble_eq_true rfl) ?_
    refine bz_lmul dX4_value_135 ?_
    refine bz_iload_n dX4_value_136 rfl ?_
    refine bz_iload dX4_value_137 rfl ?_
    refine bz_cS2L (z := 3) mv_X4_power ws_X4_power lk_X4_179 dX4_value_139 (by exact m_power (by omega)) (by omega) rfl (Nat.le_of_ble_eq_true rfl) (Nat.le_of_ble_eq_true rfl) ?_
    refine bz_lmul dX4_value_142 ?_
    refine bz_iload dX4_value_143 rfl ?_
    refine bz_iload dX4_value_145 rfl ?_
    refine bz_cS2L (z := 3) mv_X4_power ws_X4_power lk_X4_179 dX4_value_147 (by exact m_power (by omega)) (by omega) rfl (Nat.le_of_ble_eq_true rfl) (Nat.le_of_ble_eq_true rfl) ?_
    refine bz_lmul dX4_value_150 ?_
    refine bz_ladd dX4_value_151 ?_
    refine bz_lst5 dX4_value_152 (by decide) rfl ?_
    first | refine bz_iinc9N dX4_value_154 (by decide) rfl ?_ | refine bz_iinc9 dX4_value_154 rfl (by decide) rfl ?_
    refine bz_goto (tgt := 78) dX4_value_157 rfl ?_
    exact ih (k + 1) _ _ _ (by omega) hs3
theorem y_v2 {s : Nat} {x y z : Int32} {T : Int64} {i : Nat} (hT : mz_T σ.2.1) (hs : s < 8) (hi : i ≤ 6)
    (kk : ∀ x9 x10 x11, bz_V l ad K 73 mX4_value 3 r σ' 166 [some (.ref (ad 54)), some (.int (nI s)), some (.int x), some (.int y), some (.int z), some (.long T), none, some (.int (nI i)), some (.int (nI (7 - i))), x9, x10, x11] [] σ) :
    ∀ (m j : Nat) (acc : Int64) (x9 x10 x11 : Option Value), j + m = 7 - i → acc + zsum (wk_v2 (fun j => σ.1 59 (30 * s + j)) x.toInt64 y.toInt64 z.toInt64 i) j m = T →
      bz_V l ad K 73 mX4_value 3 r σ' 65 [some (.ref (ad 54)), some (.int (nI s)), some (.int x), some (.int y), some (.int z), some (.long acc), none, some (.int (nI i)), some (.int (nI j)), x9, x10, x11] [] σ := by
  intro m
  induction m with
  | zero =>
    intro j acc x9 x10 x11 hj hs2
    obtain rfl : j = 7 - i := by omega
    obtain rfl := zsum_end hs2
    refine bz_iload dX4_value_65 rfl ?_
    refine bz_iload dX4_value_67 rfl ?_
    first | refine bz_iaddN dX4_value_69 ?_ | refine bz_iadd dX4_value_69 ?_
    refine bz_bipush dX4_value_70 kc_bipush_6 ?_
    refine bz_icmp_gtN (tgt := 166) dX4_value_72 rfl (by omega) (by omega) (fun _ => ?_) (fun q => absurd q (by omega))
    exact kk _ _ _
  | succ m ih =>
    intro j acc x9 x10 x11 hj hs2
    have hs3 := zsum_step hs2
    refine bz_iload dX4_value_65 rfl ?_
    refine bz_iload dX4_value_67 rfl ?_
    first | refine bz_iaddN dX4_value_69 ?_ | refine bz_iadd dX4_value_69 ?_
    refine bz_bipush dX4_value_70 kc_bipush_6 ?_
    refine bz_icmp_gtN (tgt := 166) dX4_value_72 rfl (by omega) (by omega) (fun q => absurd q (by omega)) (fun _ => ?_)
    refine bz_iconst dX4_value_75 kc_iconst_0 ?_
    refine bz_ist9 dX4_value_76 (by decide) rfl ?_
    refine y_v3 (T := acc + wk_v2 (fun j => σ.1 59 (30 * s + j)) x.toInt64 y.toInt64 z.toInt64 i j) hT hs (by omega) (fun x10 x11 => ?_) (7 - i - j) 0 acc x10 x11 (Nat.zero_add _) rfl
    first | refine bz_iinc8N dX4_value_160 (by decide) rfl ?_ | refine bz_iinc8 dX4_value_160 rfl (by decide) rfl ?_
    refine bz_goto (tgt := 65) dX4_value_163 rfl ?_
    exact ih (j + 1) _ _ _ _ (by omega) hs3
theorem y_v1 {s : Nat} {x y z : Int32} {T : Int64} (hT : mz_T σ.2.1) (hs : s < 8) :
    ∀ (m i : Nat) (acc : Int64) (x8 x9 x10 x11 : Option Value), i + m = 7 → acc + zsum (wk_v1 (fun j => σ.1 59 (30 * s + j)) x.toInt64 y.toInt64 z.toInt64) i m = T →
      bz_V l ad K 73 mX4_value 3 (some (.long T)) σ 55 [some (.ref (ad 54)), some (.int (nI s)), some (.int x), some (.int y), some (.int z), some (.long acc), none, some (.int (nI i)), x8, x9, x10, x11] [] σ := by
  intro m
  induction m with
  | zero =>
    intro i acc x8 x9 x10 x11 hi hs2
    obtain rfl : i = 7 := by omega
    obtain rfl := zsum_end hs2
    refine bz_iload dX4_value_55 rfl ?_
    refine bz_bipush dX4_value_57 kc_bipush_6 ?_
    refine bz_icmp_gtN (tgt := 172) dX4_value_59 rfl (by omega) (by omega) (fun _ => ?_) (fun q => absurd q (by omega))
    refine bz_lload dX4_value_172 rfl ?_
    refine bz_lret dX4_value_174 rfl rfl rfl
  | succ m ih =>
    intro i acc x8 x9 x10 x11 hi hs2
    have hs3 := zsum_step hs2
    refine bz_iload dX4_value_55 rfl ?_
    refine bz_bipush dX4_value_57 kc_bipush_6 ?_
    refine bz_icmp_gtN (tgt := 172) dX4_value_59 rfl (by omega) (by omega) (fun q => absurd q (by omega)) (fun _ => ?_)
    refine bz_iconst dX4_value_62 kc_iconst_0 ?_
    refine bz_ist8 dX4_value_63 (by decide) rfl ?_
    refine y_v2 (T := acc + wk_v1 (fun j => σ.1 59 (30 * s + j)) x.toInt64 y.toInt64 z.toInt64 i) hT hs (by omega) (fun x9 x10 x11 => ?_) (7 - i) 0 acc x9 x10 x11 (Nat.zero_add _) rfl
    first | refine bz_iinc7N dX4_value_166 (by decide) rfl ?_ | refine bz_iinc7 dX4_value_166 rfl (by decide) rfl ?_
    refine bz_goto (tgt := 55) dX4_value_169 rfl ?_
    exact ih (i + 1) _ _ _ _ _ (by omega) hs3
theorem y_value {s : Nat} {x y z : Int32} (hT : mz_T σ.2.1) (hs : s < 8) (hx : ¬ x < -9 ∧ ¬ nI 9 < x) (hy : ¬ y < -9 ∧ ¬ nI 9 < y) (hz : ¬ z < -9 ∧ ¬ nI 9 < z) :
    bz_V l ad K 73 mX4_value 3 (some (.long (wk_val (fun j => σ.1 59 (30 * s + j)) x.toInt64 y.toInt64 z.toInt64))) σ 0 [some (.ref (ad 54)), some (.int (nI s)), some (.int x), some (.int y), some (.int z), none, none, none, none, none, none, none] [] σ := by
  refine bz_iload_n dX4_value_0 rfl ?_
  refine bz_cS1I (z := 0) mv_X4_isSlot ws_X4_isSlot lk_X4_156 dX4_value_1 (by exact m_isSlot hs) (by omega) rfl (Nat.le_of_ble_eq_true rfl) (Nat.le_of_ble_eq_true rfl) ?_
  refine bz_if_ne (tgt := 11) dX4_value_4 rfl (fun _ => ?_) (fun q => absurd q (by decide))
  refine bz_iload_n dX4_value_11 rfl ?_
  refine bz_bipush dX4_value_12 kc_bipush_m9 ?_
  refine bz_bipush dX4_value_14 kc_bipush_9 ?_
  refine bz_cS3I (z := 0) mv_X4_in ws_X4_in lk_X4_101 dX4_value_16 (by exact m_in hx.1 hx.2) (by omega) rfl (Nat.le_of_ble_eq_true rfl) (Nat.le_of_ble_eq_true rfl) ?_
  refine bz_if_eq (tgt := 45) dX4_value_19 rfl (fun q => absurd q (by decide)) (fun _ => ?_)
  refine bz_iload_n dX4_value_22 rfl ?_
  refine bz_bipush dX4_value_23 kc_bipush_m9 ?_
  refine bz_bipush dX4_value_25 kc_bipush_9 ?_
  refine bz_cS3I (z := 0) mv_X4_in ws_X4_in lk_X4_101 dX4_value_27 (by exact m_in hy.1 hy.2) (by omega) rfl (Nat.le_of_ble_eq_true rfl) (Nat.le_of_ble_eq_true rfl) ?_
  refine bz_if_eq (tgt := 45) dX4_value_30 rfl (fun q => absurd q (by decide)) (fun _ => ?_)
  refine bz_iload dX4_value_33 rfl ?_
  refine bz_bipush dX4_value_35 kc_bipush_m9 ?_
  refine bz_bipush dX4_value_37 kc_bipush_9 ?_
  refine bz_cS3I (z := 0) mv_X4_in ws_X4_in lk_X4_101 dX4_value_39 (by exact m_in hz.1 hz.2) (by omega) rfl (Nat.le_of_ble_eq_true rfl) (Nat.le_of_ble_eq_true rfl) ?_
  refine bz_if_ne (tgt := 49) dX4_value_42 rfl (fun _ => ?_) (fun q => absurd q (by decide))
  refine bz_lconst dX4_value_49 kc_lconst_0 ?_
  refine bz_lst5 dX4_value_50 (by decide) rfl ?_
  refine bz_iconst dX4_value_52 kc_iconst_0 ?_
  refine bz_ist7 dX4_value_53 (by decide) rfl ?_
  exact y_v1 hT hs 7 0 0 none none none none rfl (Int64.zero_add _)
theorem y_value_1 {x1 x y z : Int32} (h : x1 < 0 ∨ nI 8 ≤ x1) : bz_V l ad K 73 mX4_value 3 (some (.long (-4000000000000000001))) σ 0 [some (.ref (ad 54)), some (.int x1), some (.int x), some (.int y), some (.int z), none, none, none, none, none, none, none] [] σ := by
  refine bz_iload_n dX4_value_0 rfl ?_
  refine bz_cS1I (z := 0) mv_X4_isSlot ws_X4_isSlot lk_X4_156 dX4_value_1 (by exact m_isSlotF h) (by omega) rfl (Nat.le_of_ble_eq_true rfl) (Nat.le_of_ble_eq_true rfl) ?_
  refine bz_if_ne (tgt := 11) dX4_value_4 rfl (fun q => absurd (by decide) q) (fun _ => ?_)
  refine bz_ldc2 kl_X4_171 dX4_value_7 ?_
  refine bz_lret dX4_value_10 rfl rfl rfl
theorem y_value_2 {s : Nat} {x y z : Int32} (hs : s < 8) (h : ¬ ((¬ x < -9 ∧ ¬ nI 9 < x) ∧ (¬ y < -9 ∧ ¬ nI 9 < y) ∧ (¬ z < -9 ∧ ¬ nI 9 < z))) : bz_V l ad K 73 mX4_value 3 (some (.long (-4000000000000000002))) σ 0 [some (.ref (ad 54)), some (.int (nI s)), some (.int x), some (.int y), some (.int z), none, none, none, none, none, none, none] [] σ := by
  have od : ∀ w : Int32, ¬ (¬ w < -9 ∧ ¬ nI 9 < w) → w < -9 ∨ nI 9 < w := fun w q => by
    by_cases a : w < -9
    · exact Or.inl a
    · by_cases b : nI 9 < w
      · exact Or.inr b
      · exact absurd ⟨a, b⟩ q
  refine bz_iload_n dX4_value_0 rfl ?_
  refine bz_cS1I (z := 0) mv_X4_isSlot ws_X4_isSlot lk_X4_156 dX4_value_1 (by exact m_isSlot hs) (by omega) rfl (Nat.le_of_ble_eq_true rfl) (Nat.le_of_ble_eq_true rfl) ?_
  refine bz_if_ne (tgt := 11) dX4_value_4 rfl (fun _ => ?_) (fun q => absurd q (by decide))
  by_cases hx : ¬ x < -9 ∧ ¬ nI 9 < x
  · refine bz_iload_n dX4_value_11 rfl ?_
    refine bz_bipush dX4_value_12 kc_bipush_m9 ?_
    refine bz_bipush dX4_value_14 kc_bipush_9 ?_
    refine bz_cS3I (z := 0) mv_X4_in ws_X4_in lk_X4_101 dX4_value_16 (by exact m_in hx.1 hx.2) (by omega) rfl (Nat.le_of_ble_eq_true rfl) (Nat.le_of_ble_eq_true rfl) ?_
    refine bz_if_eq (tgt := 45) dX4_value_19 rfl (fun q => absurd q (by decide)) (fun _ => ?_)
    by_cases hy : ¬ y < -9 ∧ ¬ nI 9 < y
    · refine bz_iload_n dX4_value_22 rfl ?_
      refine bz_bipush dX4_value_23 kc_bipush_m9 ?_
      refine bz_bipush dX4_value_25 kc_bipush_9 ?_
      refine bz_cS3I (z := 0) mv_X4_in ws_X4_in lk_X4_101 dX4_value_27 (by exact m_in hy.1 hy.2) (by omega) rfl (Nat.le_of_ble_eq_true rfl) (Nat.le_of_ble_eq_true rfl) ?_
      refine bz_if_eq (tgt := 45) dX4_value_30 rfl (fun q => absurd q (by decide)) (fun _ => ?_)
      refine bz_iload dX4_value_33 rfl ?_
      refine bz_bipush dX4_value_35 kc_bipush_m9 ?_
      refine bz_bipush dX4_value_37 kc_bipush_9 ?_
      refine bz_cS3I (z := 0) mv_X4_in ws_X4_in lk_X4_101 dX4_value_39 (by exact m_inF (od z (fun q => h ⟨hx, hy, q⟩))) (by omega) rfl (Nat.le_of_ble_eq_true rfl) (Nat.le_of_ble_eq_true rfl) ?_
      refine bz_if_ne (tgt := 49) dX4_value_42 rfl (fun q => absurd (by decide) q) (fun _ => ?_)
      refine bz_ldc2 kl_X4_173 dX4_value_45 ?_
      refine bz_lret dX4_value_48 rfl rfl rfl
    · refine bz_iload_n dX4_value_22 rfl ?_
      refine bz_bipush dX4_value_23 kc_bipush_m9 ?_
      refine bz_bipush dX4_value_25 kc_bipush_9 ?_
      refine bz_cS3I (z := 0) mv_X4_in ws_X4_in lk_X4_101 dX4_value_27 (by exact m_inF (od y hy)) (by omega) rfl (Nat.le_of_ble_eq_true rfl) (Nat.le_of_ble_eq_true rfl) ?_
      refine bz_if_eq (tgt := 45) dX4_value_30 rfl (fun _ => ?_) (fun q => absurd (by decide) q)
      refine bz_ldc2 kl_X4_173 dX4_value_45 ?_
      refine bz_lret dX4_value_48 rfl rfl rfl
  · refine bz_iload_n dX4_value_11 rfl ?_
    refine bz_bipush dX4_value_12 kc_bipush_m9 ?_
    refine bz_bipush dX4_value_14 kc_bipush_9 ?_
    refine bz_cS3I (z := 0) mv_X4_in ws_X4_in lk_X4_101 dX4_value_16 (by exact m_inF (od x hx)) (by omega) rfl (Nat.le_of_ble_eq_true rfl) (Nat.le_of_ble_eq_true rfl) ?_
    refine bz_if_eq (tgt := 45) dX4_value_19 rfl (fun _ => ?_) (fun q => absurd (by decide) q)
    refine bz_ldc2 kl_X4_173 dX4_value_45 ?_
    refine bz_lret dX4_value_48 rfl rfl rfl
theorem y_im_loop {k : Nat} (hk : k < 2) : ∀ (m i : Nat), i + m = 240 → bz_V l ad K 73 mX4_image 2 (some (.int (nI 1))) (bz_upI (bz_setJ σ 71 (mt_up (σ.1 71) (240 * k) (σ.1 59) 240)) 72 k (nI 1)) 14 [some (.ref (ad 54)), some (.int (nI k)), some (.int (nI i))] [] (bz_setJ σ 71 (mt_up (σ.1 71) (240 * k) (σ.1 59) i)) := by
  intro m
  induction m with
  | zero =>
    intro i hi
    obtain rfl : i = 240 := by omega
    refine bz_iload_n dX4_image_14 rfl ?_
    refine bz_sipush dX4_image_15 kc_sipush_240 ?_
    refine bz_icmp_geN (tgt := 45) dX4_image_18 rfl (by omega) (by omega) (fun _ => ?_) (fun q => absurd q (by omega))
    refine bz_aload_n dX4_image_45 rfl ?_
    refine bz_getf fl_X4_62 dX4_image_46 rfl rfl (by omega) ?_
    refine bz_iload_n dX4_image_49 rfl ?_
    refine bz_iconst dX4_image_50 kc_iconst_1 ?_
    refine bz_bastore dX4_image_51 rfl (by omega) hk rfl ?_
    refine bz_iconst dX4_image_52 kc_iconst_1 ?_
    refine bz_iret dX4_image_53 rfl rfl rfl
  | succ m ih =>
    intro i hi
    refine bz_iload_n dX4_image_14 rfl ?_
    refine bz_sipush dX4_image_15 kc_sipush_240 ?_
    refine bz_icmp_geN (tgt := 45) dX4_image_18 rfl (by omega) (by omega) (fun q => absurd q (by omega)) (fun _ => ?_)
    refine bz_aload_n dX4_image_21 rfl ?_
    refine bz_getf fl_X4_59 dX4_image_22 rfl rfl (by omega) ?_
    refine bz_sipush dX4_image_25 kc_sipush_240 ?_
    refine bz_iload_n dX4_image_28 rfl ?_
    first | refine bz_imulN dX4_image_29 ?_ | refine bz_imul dX4_image_29 ?_
    refine bz_iload_n dX4_image_30 rfl ?_
    first | refine bz_iaddN dX4_image_31 ?_ | refine bz_iadd dX4_image_31 ?_
    refine bz_aload_n dX4_image_32 rfl ?_
    refine bz_getf fl_X4_23 dX4_image_33 rfl rfl (by omega) ?_
    refine bz_iload_n dX4_image_36 rfl ?_
    refine bz_laload dX4_image_37 rfl (by omega) (by omega) ?_
    refine bz_topl (y := σ.1 59 i) (by rw [bz_setJ_ne (by omega)]) ?_
    refine bz_lastore dX4_image_38 rfl (by omega) (by omega) ?_
    first | refine bz_iinc2N dX4_image_39 (by decide) rfl ?_ | refine bz_iinc2 dX4_image_39 rfl (by decide) rfl ?_
    refine bz_goto (tgt := 14) dX4_image_42 rfl ?_
    refine bz_st (by rw [bz_upJ_set, mt_up_s rfl]) ?_
    exact ih (i + 1) (by omega)
theorem y_image {k : Nat} (hk : k < 2) : bz_V l ad K 73 mX4_image 2 (some (.int (nI 1))) (bz_upI (bz_setJ σ 71 (mt_up (σ.1 71) (240 * k) (σ.1 59) 240)) 72 k (nI 1)) 0 [some (.ref (ad 54)), some (.int (nI k)), none] [] σ := by
  refine bz_iload_n dX4_image_0 rfl ?_
  refine bz_iconst dX4_image_1 kc_iconst_0 ?_
  refine bz_iconst dX4_image_2 kc_iconst_1 ?_
  refine bz_cS3I (z := 0) mv_X4_in ws_X4_in lk_X4_101 dX4_image_3 (by exact m_inN (Nat.zero_le k) (by omega) (by omega)) (by omega) rfl (Nat.le_of_ble_eq_true rfl) (Nat.le_of_ble_eq_true rfl) ?_
  refine bz_if_ne (tgt := 12) dX4_image_6 rfl (fun _ => ?_) (fun q => absurd q (by decide))
  refine bz_iconst dX4_image_12 kc_iconst_0 ?_
  refine bz_ist2 dX4_image_13 (by decide) rfl ?_
  refine bz_st (by rw [bz_setJ_id (mt_up_0 _ (240 * k) (σ.1 59))]) (y_im_loop hk 240 0 rfl)
theorem y_image_1 {x : Int32} (h : x < 0 ∨ nI 2 ≤ x) : bz_V l ad K 73 mX4_image 2 (some (.int (-2))) σ 0 [some (.ref (ad 54)), some (.int x), none] [] σ := by
  refine bz_iload_n dX4_image_0 rfl ?_
  refine bz_iconst dX4_image_1 kc_iconst_0 ?_
  refine bz_iconst dX4_image_2 kc_iconst_1 ?_
  refine bz_cS3I (z := 0) mv_X4_in ws_X4_in lk_X4_101 dX4_image_3 (by exact m_inF (m_lt (N := 1) (by decide) h)) (by omega) rfl (Nat.le_of_ble_eq_true rfl) (Nat.le_of_ble_eq_true rfl) ?_
  refine bz_if_ne (tgt := 12) dX4_image_6 rfl (fun q => absurd (by decide) q) (fun _ => ?_)
  refine bz_bipush dX4_image_9 kc_bipush_m2 ?_
  refine bz_iret dX4_image_11 rfl rfl rfl
theorem y_rs_loop {k : Nat} (hk : k < 2) : ∀ (m i : Nat), i + m = 240 → bz_V l ad K 73 mX4_restore 2 (some (.int (nI 1))) (bz_setJ σ 59 (bz_upto (σ.1 59) (fun i => σ.1 71 (240 * k + i)) 240)) 26 [some (.ref (ad 54)), some (.int (nI k)), some (.int (nI i))] [] (bz_setJ σ 59 (bz_upto (σ.1 59) (fun i => σ.1 71 (240 * k + i)) i)) := by
  intro m
  induction m with
  | zero =>
    intro i hi
    obtain rfl : i = 240 := by omega
    refine bz_iload_n dX4_restore_26 rfl ?_
    refine bz_sipush dX4_restore_27 kc_sipush_240 ?_
    refine bz_icmp_geN (tgt := 57) dX4_restore_30 rfl (by omega) (by omega) (fun _ => ?_) (fun q => absurd q (by omega))
    refine bz_iconst dX4_restore_57 kc_iconst_1 ?_
    refine bz_iret dX4_restore_58 rfl rfl rfl
  | succ m ih =>
    intro i hi
    refine bz_iload_n dX4_restore_26 rfl ?_
    refine bz_sipush dX4_restore_27 kc_sipush_240 ?_
    refine bz_icmp_geN (tgt := 57) dX4_restore_30 rfl (by omega) (by omega) (fun q => absurd q (by omega)) (fun _ => ?_)
    refine bz_aload_n dX4_restore_33 rfl ?_
    refine bz_getf fl_X4_23 dX4_restore_34 rfl rfl (by omega) ?_
    refine bz_iload_n dX4_restore_37 rfl ?_
    refine bz_aload_n dX4_restore_38 rfl ?_
    refine bz_getf fl_X4_59 dX4_restore_39 rfl rfl (by omega) ?_
    refine bz_sipush dX4_restore_42 kc_sipush_240 ?_
    refine bz_iload_n dX4_restore_45 rfl ?_
    first | refine bz_imulN dX4_restore_46 ?_ | refine bz_imul dX4_restore_46 ?_
    refine bz_iload_n dX4_restore_47 rfl ?_
    first | refine bz_iaddN dX4_restore_48 ?_ | refine bz_iadd dX4_restore_48 ?_
    refine bz_laload dX4_restore_49 rfl (by omega) (by omega) ?_
    refine bz_topl (y := σ.1 71 (240 * k + i)) (by rw [bz_setJ_ne (by omega)]) ?_
    refine bz_lastore dX4_restore_50 rfl (by omega) (by omega) ?_
    first | refine bz_iinc2N dX4_restore_51 (by decide) rfl ?_ | refine bz_iinc2 dX4_restore_51 rfl (by decide) rfl ?_
    refine bz_goto (tgt := 26) dX4_restore_54 rfl ?_
    refine bz_st (by rw [bz_upJ_set, bz_upto_s (F := fun i => σ.1 71 (240 * k + i)) rfl]) ?_
    exact ih (i + 1) (by omega)
theorem y_restore {k : Nat} (hk : k < 2) (hi : ¬ σ.2.1 72 k = 0) : bz_V l ad K 73 mX4_restore 2 (some (.int (nI 1))) (bz_setJ σ 59 (bz_upto (σ.1 59) (fun i => σ.1 71 (240 * k + i)) 240)) 0 [some (.ref (ad 54)), some (.int (nI k)), none] [] σ := by
  refine bz_iload_n dX4_restore_0 rfl ?_
  refine bz_iconst dX4_restore_1 kc_iconst_0 ?_
  refine bz_iconst dX4_restore_2 kc_iconst_1 ?_
  refine bz_cS3I (z := 0) mv_X4_in ws_X4_in lk_X4_101 dX4_restore_3 (by exact m_inN (Nat.zero_le k) (by omega) (by omega)) (by omega) rfl (Nat.le_of_ble_eq_true rfl) (Nat.le_of_ble_eq_true rfl) ?_
  refine bz_if_ne (tgt := 12) dX4_restore_6 rfl (fun _ => ?_) (fun q => absurd q (by decide))
  refine bz_aload_n dX4_restore_12 rfl ?_
  refine bz_getf fl_X4_62 dX4_restore_13 rfl rfl (by omega) ?_
  refine bz_iload_n dX4_restore_16 rfl ?_
  refine bz_baload dX4_restore_17 rfl (by omega) hk ?_
  refine bz_if_ne (tgt := 24) dX4_restore_18 rfl (fun _ => ?_) (fun q => absurd q (hi))
  refine bz_iconst dX4_restore_24 kc_iconst_0 ?_
  refine bz_ist2 dX4_restore_25 (by decide) rfl ?_
  refine bz_st (by rw [bz_setJ_id (bz_upto_0 _ (fun i => σ.1 71 (240 * k + i)))]) (y_rs_loop hk 240 0 rfl)
theorem y_restore_s {k : Nat} (hk : k < 2) (hi : σ.2.1 72 k = 0) : bz_V l ad K 73 mX4_restore 2 (some (.int (-3))) σ 0 [some (.ref (ad 54)), some (.int (nI k)), none] [] σ := by
  refine bz_iload_n dX4_restore_0 rfl ?_
  refine bz_iconst dX4_restore_1 kc_iconst_0 ?_
  refine bz_iconst dX4_restore_2 kc_iconst_1 ?_
  refine bz_cS3I (z := 0) mv_X4_in ws_X4_in lk_X4_101 dX4_restore_3 (by exact m_inN (Nat.zero_le k) (by omega) (by omega)) (by omega) rfl (Nat.le_of_ble_eq_true rfl) (Nat.le_of_ble_eq_true rfl) ?_
  refine bz_if_ne (tgt := 12) dX4_restore_6 rfl (fun _ => ?_) (fun q => absurd q (by decide))
  refine bz_aload_n dX4_restore_12 rfl ?_
  refine bz_getf fl_X4_62 dX4_restore_13 rfl rfl (by omega) ?_
  refine bz_iload_n dX4_restore_16 rfl ?_
  refine bz_baload dX4_restore_17 rfl (by omega) hk ?_
  refine bz_if_ne (tgt := 24) dX4_restore_18 rfl (fun q => absurd (hi) q) (fun _ => ?_)
  refine bz_bipush dX4_restore_21 kc_bipush_m3 ?_
  refine bz_iret dX4_restore_23 rfl rfl rfl
theorem y_restore_1 {x : Int32} (h : x < 0 ∨ nI 2 ≤ x) : bz_V l ad K 73 mX4_restore 2 (some (.int (-2))) σ 0 [some (.ref (ad 54)), some (.int x), none] [] σ := by
  refine bz_iload_n dX4_restore_0 rfl ?_
  refine bz_iconst dX4_restore_1 kc_iconst_0 ?_
  refine bz_iconst dX4_restore_2 kc_iconst_1 ?_
  refine bz_cS3I (z := 0) mv_X4_in ws_X4_in lk_X4_101 dX4_restore_3 (by exact m_inF (m_lt (N := 1) (by decide) h)) (by omega) rfl (Nat.le_of_ble_eq_true rfl) (Nat.le_of_ble_eq_true rfl) ?_
  refine bz_if_ne (tgt := 12) dX4_restore_6 rfl (fun q => absurd (by decide) q) (fun _ => ?_)
  refine bz_bipush dX4_restore_9 kc_bipush_m2 ?_
  refine bz_iret dX4_restore_11 rfl rfl rfl
/-- counting from above: how many of a degree, and the least -/
def od_n (d : Nat) : Nat → Nat → Nat
  | _, 0 => 0
  | a, m + 1 => od_n d (a + 1) m + (if xt_deg a = d then 1 else 0)
def od_l (d : Nat) : Nat → Nat → Nat
  | _, 0 => 30
  | a, m + 1 => if xt_deg a = d then a else od_l d (a + 1) m
theorem od_ok : ∀ d, d < 7 → od_n d 0 30 = xp_start (d + 1) - xp_start d ∧ od_l d 0 30 = xp_start d := by decide +kernel
theorem y_od_body (hT : mz_T σ.2.1) {d a m : Nat} {x2 : Int32} (hd : d < 7) (ha : a < 30) (kk : bz_V l ad K 73 mX4_ofDegree 0 r σ' 54 [some (.ref (ad 54)), some (.int (nI d)), some (.int x2), some (.int (nI (od_n d a (m + 1)))), some (.int (nI (od_l d a (m + 1)))), some (.int (nI a))] [] σ) : bz_V l ad K 73 mX4_ofDegree 0 r σ' 10 [some (.ref (ad 54)), some (.int (nI d)), some (.int x2), some (.int (nI (od_n d (a + 1) m))), some (.int (nI (od_l d (a + 1) m))), some (.int (nI a))] [] σ := by
  have hd6 := xt_deg6 a ha
  have e1 : od_n d a (m + 1) = od_n d (a + 1) m + (if xt_deg a = d then 1 else 0) := rfl
  have e2 : od_l d a (m + 1) = if xt_deg a = d then a else od_l d (a + 1) m := rfl
  rw [e1, e2] at kk
  refine bz_iload dX4_ofDegree_10 rfl ?_
  refine bz_if_lt (tgt := 60) dX4_ofDegree_12 rfl (fun q => absurd q (nI_pos (by omega))) (fun _ => ?_)
  refine bz_iload_n dX4_ofDegree_15 rfl ?_
  refine bz_aload_n dX4_ofDegree_16 rfl ?_
  refine bz_getf fl_X4_13 dX4_ofDegree_17 rfl rfl (by omega) ?_
  refine bz_iload dX4_ofDegree_20 rfl ?_
  refine bz_iaload dX4_ofDegree_22 rfl (by omega) (by omega) ?_
  refine bz_topi (hT.2.1 a ha) ?_
  refine bz_iload_n dX4_ofDegree_23 rfl ?_
  refine bz_icmp_neN (tgt := 31) dX4_ofDegree_24 rfl (by omega) (by omega) (fun h => ?_) (fun h => ?_)
  · rw [if_neg h, if_neg h] at kk
    refine bz_iconst dX4_ofDegree_31 kc_iconst_0 ?_
    first | refine bz_iaddN dX4_ofDegree_32 ?_ | refine bz_iadd dX4_ofDegree_32 ?_
    refine bz_ist3 dX4_ofDegree_33 (by decide) rfl ?_
    refine bz_aload_n dX4_ofDegree_34 rfl ?_
    refine bz_getf fl_X4_13 dX4_ofDegree_35 rfl rfl (by omega) ?_
    refine bz_iload dX4_ofDegree_38 rfl ?_
    refine bz_iaload dX4_ofDegree_40 rfl (by omega) (by omega) ?_
    refine bz_topi (hT.2.1 a ha) ?_
    refine bz_iload_n dX4_ofDegree_41 rfl ?_
    refine bz_icmp_neN (tgt := 50) dX4_ofDegree_42 rfl (by omega) (by omega) (fun _ => ?_) (fun q => absurd q (by omega))
    refine bz_iload dX4_ofDegree_50 rfl ?_
    refine bz_ist4 dX4_ofDegree_52 (by decide) rfl ?_
    exact kk
  · rw [if_pos h, if_pos h] at kk
    refine bz_iconst dX4_ofDegree_27 kc_iconst_1 ?_
    refine bz_goto (tgt := 32) dX4_ofDegree_28 rfl ?_
    first | refine bz_iaddN dX4_ofDegree_32 ?_ | refine bz_iadd dX4_ofDegree_32 ?_
    refine bz_ist3 dX4_ofDegree_33 (by decide) rfl ?_
    refine bz_aload_n dX4_ofDegree_34 rfl ?_
    refine bz_getf fl_X4_13 dX4_ofDegree_35 rfl rfl (by omega) ?_
    refine bz_iload dX4_ofDegree_38 rfl ?_
    refine bz_iaload dX4_ofDegree_40 rfl (by omega) (by omega) ?_
    refine bz_topi (hT.2.1 a ha) ?_
    refine bz_iload_n dX4_ofDegree_41 rfl ?_
    refine bz_icmp_neN (tgt := 50) dX4_ofDegree_42 rfl (by omega) (by omega) (fun q => absurd q (by omega)) (fun _ => ?_)
    refine bz_iload dX4_ofDegree_45 rfl ?_
    refine bz_goto (tgt := 52) dX4_ofDegree_47 rfl ?_
    refine bz_ist4 dX4_ofDegree_52 (by decide) rfl ?_
    exact kk
theorem y_od_loop (hT : mz_T σ.2.1) {d : Nat} {x2 : Int32} (hd : d < 7) (kk : ∀ x5, bz_V l ad K 73 mX4_ofDegree 0 r σ' 60 [some (.ref (ad 54)), some (.int (nI d)), some (.int x2), some (.int (nI (od_n d 0 30))), some (.int (nI (od_l d 0 30))), some (.int x5)] [] σ) : ∀ (a m : Nat), a + m = 29 → bz_V l ad K 73 mX4_ofDegree 0 r σ' 10 [some (.ref (ad 54)), some (.int (nI d)), some (.int x2), some (.int (nI (od_n d (a + 1) m))), some (.int (nI (od_l d (a + 1) m))), some (.int (nI a))] [] σ := by
  intro a
  induction a with
  | zero =>
    intro m hm
    refine y_od_body hT hd (by omega) ?_
    refine bz_iinc5 dX4_ofDegree_54 rfl (by decide) rfl ?_
    refine bz_goto (tgt := 10) dX4_ofDegree_57 rfl ?_
    refine bz_iload dX4_ofDegree_10 rfl ?_
    refine bz_if_lt (tgt := 60) dX4_ofDegree_12 rfl (fun _ => ?_) (fun q => absurd (by decide) q)
    rw [show m + 1 = 30 by omega]
    exact kk _
  | succ a ih =>
    intro m hm
    refine y_od_body hT hd (by omega) ?_
    first | refine bz_idec5N dX4_ofDegree_54 (by decide) rfl ?_ | refine bz_iinc5 dX4_ofDegree_54 rfl (by decide) rfl ?_
    refine bz_goto (tgt := 10) dX4_ofDegree_57 rfl ?_
    exact ih (m + 1) (by omega)
theorem m_ofDegree0 (hT : mz_T σ.2.1) {d : Nat} (hd : d < 7) : bz_V l ad K 73 mX4_ofDegree 0 (some (.int (nI (xp_start (d + 1) - xp_start d)))) σ 0 [some (.ref (ad 54)), some (.int (nI d)), some (.int (nI 0)), none, none, none] [] σ := by
  have hok := od_ok d hd
  refine bz_iconst dX4_ofDegree_0 kc_iconst_0 ?_
  refine bz_ist3 dX4_ofDegree_1 (by decide) rfl ?_
  refine bz_bipush dX4_ofDegree_2 kc_bipush_30 ?_
  refine bz_ist4 dX4_ofDegree_4 (by decide) rfl ?_
  refine bz_bipush dX4_ofDegree_6 kc_bipush_29 ?_
  refine bz_ist5 dX4_ofDegree_8 (by decide) rfl ?_
  refine y_od_loop hT hd (fun x5 => ?_) 29 0 rfl
  refine bz_iload_n dX4_ofDegree_60 rfl ?_
  refine bz_if_eq (tgt := 69) dX4_ofDegree_61 rfl (fun _ => ?_) (fun q => absurd (by decide) q)
  refine bz_iload_n dX4_ofDegree_69 rfl ?_
  refine bz_iret dX4_ofDegree_70 rfl ?_ ?_
  · rw [hok.1]
  · rfl
theorem m_ofDegree1 (hT : mz_T σ.2.1) {d : Nat} (hd : d < 7) : bz_V l ad K 73 mX4_ofDegree 0 (some (.int (nI (xp_start d)))) σ 0 [some (.ref (ad 54)), some (.int (nI d)), some (.int (nI 1)), none, none, none] [] σ := by
  have hok := od_ok d hd
  refine bz_iconst dX4_ofDegree_0 kc_iconst_0 ?_
  refine bz_ist3 dX4_ofDegree_1 (by decide) rfl ?_
  refine bz_bipush dX4_ofDegree_2 kc_bipush_30 ?_
  refine bz_ist4 dX4_ofDegree_4 (by decide) rfl ?_
  refine bz_bipush dX4_ofDegree_6 kc_bipush_29 ?_
  refine bz_ist5 dX4_ofDegree_8 (by decide) rfl ?_
  refine y_od_loop hT hd (fun x5 => ?_) 29 0 rfl
  refine bz_iload_n dX4_ofDegree_60 rfl ?_
  refine bz_if_eq (tgt := 69) dX4_ofDegree_61 rfl (fun q => absurd q (by decide)) (fun _ => ?_)
  refine bz_iload dX4_ofDegree_64 rfl ?_
  refine bz_goto (tgt := 70) dX4_ofDegree_66 rfl ?_
  refine bz_iret dX4_ofDegree_70 rfl ?_ ?_
  · rw [hok.2]
  · rfl
theorem y_ct_loop (hT : mz_T σ.2.1) : ∀ (m i acc : Nat), i + m = 8 → nsum (fun s => if dgz (fun j => σ.1 59 (30 * s + j)) 30 < 0 then 0 else 1) i = acc → bz_V l ad K 73 mX4_count 2 (some (.int (nI (nsum (fun s => if dgz (fun j => σ.1 59 (30 * s + j)) 30 < 0 then 0 else 1) 8)))) σ 8 [some (.ref (ad 54)), some (.int (nI 0)), some (.int (nI acc)), some (.int (nI i))] [] σ := by
  intro m
  induction m with
  | zero =>
    intro i acc hi ha
    obtain rfl : i = 8 := by omega
    refine bz_iload_n dX4_count_8 rfl ?_
    refine bz_bipush dX4_count_9 kc_bipush_8 ?_
    refine bz_icmp_geN (tgt := 36) dX4_count_11 rfl (by omega) (by omega) (fun _ => ?_) (fun q => absurd q (by omega))
    refine bz_iload_n dX4_count_36 rfl ?_
    refine bz_iret dX4_count_37 rfl ?_ ?_
    · rw [ha]
    · rfl
  | succ m ih =>
    intro i acc hi ha
    refine bz_iload_n dX4_count_8 rfl ?_
    refine bz_bipush dX4_count_9 kc_bipush_8 ?_
    refine bz_icmp_geN (tgt := 36) dX4_count_11 rfl (by omega) (by omega) (fun q => absurd q (by omega)) (fun _ => ?_)
    refine bz_iload_n dX4_count_14 rfl ?_
    refine bz_aload_n dX4_count_15 rfl ?_
    refine bz_iload_n dX4_count_16 rfl ?_
    refine bz_cV1I (z := 2) mv_X4_degreeOf mi_X4_degreeOf lk_X4_168 dX4_count_17 (by exact m_degreeOf (by exact hT) (by omega)) (by omega) rfl (by omega) rfl rfl rfl (Nat.le_of_ble_eq_true rfl) (Nat.le_of_ble_eq_true rfl) ?_
    refine bz_if_lt (tgt := 27) dX4_count_20 rfl (fun h => ?_) (fun h => ?_)
    · refine bz_iconst dX4_count_27 kc_iconst_0 ?_
      first | refine bz_iaddN dX4_count_28 ?_ | refine bz_iadd dX4_count_28 ?_
      refine bz_ist2 dX4_count_29 (by decide) rfl ?_
      first | refine bz_iinc3N dX4_count_30 (by decide) rfl ?_ | refine bz_iinc3 dX4_count_30 rfl (by decide) rfl ?_
      refine bz_goto (tgt := 8) dX4_count_33 rfl ?_
      exact ih (i + 1) acc (by omega) (by rw [nsum, ha, if_pos h, Nat.add_zero])
    · refine bz_iconst dX4_count_23 kc_iconst_1 ?_
      refine bz_goto (tgt := 28) dX4_count_24 rfl ?_
      first | refine bz_iaddN dX4_count_28 ?_ | refine bz_iadd dX4_count_28 ?_
      refine bz_ist2 dX4_count_29 (by decide) rfl ?_
      first | refine bz_iinc3N dX4_count_30 (by decide) rfl ?_ | refine bz_iinc3 dX4_count_30 rfl (by decide) rfl ?_
      refine bz_goto (tgt := 8) dX4_count_33 rfl ?_
      exact ih (i + 1) (acc + 1) (by omega) (by rw [nsum, ha, if_neg h])
theorem y_count_0 (hT : mz_T σ.2.1) : bz_V l ad K 73 mX4_count 2 (some (.int (nI (nsum (fun s => if dgz (fun j => σ.1 59 (30 * s + j)) 30 < 0 then 0 else 1) 8)))) σ 0 [some (.ref (ad 54)), some (.int (nI 0)), none, none] [] σ := by
  refine bz_iload_n dX4_count_0 rfl ?_
  refine bz_if_ne (tgt := 38) dX4_count_1 rfl (fun q => absurd (by decide) q) (fun _ => ?_)
  refine bz_iconst dX4_count_4 kc_iconst_0 ?_
  refine bz_ist2 dX4_count_5 (by decide) rfl ?_
  refine bz_iconst dX4_count_6 kc_iconst_0 ?_
  refine bz_ist3 dX4_count_7 (by decide) rfl ?_
  exact y_ct_loop hT 8 0 0 rfl rfl
theorem y_count_1 : bz_V l ad K 73 mX4_count 2 (some (.int (nI ((if σ.2.1 72 0 = 0 then 0 else 1) + (if σ.2.1 72 1 = 0 then 0 else 2))))) σ 0 [some (.ref (ad 54)), some (.int (nI 1)), none, none] [] σ := by
  refine bz_iload_n dX4_count_0 rfl ?_
  refine bz_if_ne (tgt := 38) dX4_count_1 rfl (fun _ => ?_) (fun q => absurd q (by decide))
  refine bz_iload_n dX4_count_38 rfl ?_
  refine bz_iconst dX4_count_39 kc_iconst_1 ?_
  refine bz_icmp_ne (tgt := 73) dX4_count_40 rfl (fun q => absurd (by decide) q) (fun _ => ?_)
  refine bz_aload_n dX4_count_43 rfl ?_
  refine bz_getf fl_X4_62 dX4_count_44 rfl rfl (by omega) ?_
  refine bz_iconst dX4_count_47 kc_iconst_0 ?_
  refine bz_baload dX4_count_48 rfl (by omega) (by omega) ?_
  have fin : ∀ x : Nat, x = (if σ.2.1 72 0 = 0 then 0 else 1) → bz_V l ad K 73 mX4_count 2 (some (.int (nI ((if σ.2.1 72 0 = 0 then 0 else 1) + (if σ.2.1 72 1 = 0 then 0 else 2))))) σ 57 [some (.ref (ad 54)), some (.int (nI 1)), none, none] [.int (nI x)] σ := by
    intro x hx
    refine bz_aload_n dX4_count_57 rfl ?_
    refine bz_getf fl_X4_62 dX4_count_58 rfl rfl (by omega) ?_
    refine bz_iconst dX4_count_61 kc_iconst_1 ?_
    refine bz_baload dX4_count_62 rfl (by omega) (by omega) ?_
    refine bz_if_eq (tgt := 70) dX4_count_63 rfl (fun h => ?_) (fun h => ?_)
    · refine bz_iconst dX4_count_70 kc_iconst_0 ?_
      first | refine bz_iaddN dX4_count_71 ?_ | refine bz_iadd dX4_count_71 ?_
      refine bz_iret dX4_count_72 rfl ?_ ?_
      · rw [hx, if_pos h]
      · rfl
    · refine bz_iconst dX4_count_66 kc_iconst_2 ?_
      refine bz_goto (tgt := 71) dX4_count_67 rfl ?_
      first | refine bz_iaddN dX4_count_71 ?_ | refine bz_iadd dX4_count_71 ?_
      refine bz_iret dX4_count_72 rfl ?_ ?_
      · rw [hx, if_neg h]
      · rfl
  refine bz_if_eq (tgt := 56) dX4_count_49 rfl (fun h => ?_) (fun h => ?_)
  · refine bz_iconst dX4_count_56 kc_iconst_0 ?_
    exact fin 0 (by rw [if_pos h])
  · refine bz_iconst dX4_count_52 kc_iconst_1 ?_
    refine bz_goto (tgt := 57) dX4_count_53 rfl ?_
    exact fin 1 (by rw [if_neg h])
theorem y_count_10 (hT : mz_T σ.2.1) {d : Nat} (hd : d ≤ 6) : bz_V l ad K 73 mX4_count 2 (some (.int (nI (xp_start (d + 1) - xp_start d)))) σ 0 [some (.ref (ad 54)), some (.int (nI (10 + d))), none, none] [] σ := by
  refine bz_iload_n dX4_count_0 rfl ?_
  refine bz_if_ne (tgt := 38) dX4_count_1 rfl (fun _ => ?_) (fun q => absurd q (nI_ne0 (by omega) (by omega)))
  refine bz_iload_n dX4_count_38 rfl ?_
  refine bz_iconst dX4_count_39 kc_iconst_1 ?_
  refine bz_icmp_neN (tgt := 73) dX4_count_40 rfl (by omega) (by omega) (fun _ => ?_) (fun q => absurd q (by omega))
  refine bz_iload_n dX4_count_73 rfl ?_
  refine bz_bipush dX4_count_74 kc_bipush_10 ?_
  refine bz_bipush dX4_count_76 kc_bipush_16 ?_
  refine bz_cS3I (z := 0) mv_X4_in ws_X4_in lk_X4_101 dX4_count_78 (by exact m_inN (by omega) (by omega) (by omega)) (by omega) rfl (Nat.le_of_ble_eq_true rfl) (Nat.le_of_ble_eq_true rfl) ?_
  refine bz_if_eq (tgt := 96) dX4_count_81 rfl (fun q => absurd q (by decide)) (fun _ => ?_)
  refine bz_aload_n dX4_count_84 rfl ?_
  refine bz_iload_n dX4_count_85 rfl ?_
  refine bz_bipush dX4_count_86 kc_bipush_10 ?_
  refine bz_isubN dX4_count_88 (by omega) ?_
  refine bz_topi (y := nI d) (by rw [Nat.add_sub_cancel_left]) ?_
  refine bz_iconst dX4_count_89 kc_iconst_0 ?_
  refine bz_cV2I (z := 3) mv_X4_ofDegree mi_X4_ofDegree lk_X4_196 dX4_count_90 (by exact m_ofDegree0 hT (by omega)) (by omega) rfl (by omega) rfl rfl rfl (Nat.le_of_ble_eq_true rfl) (Nat.le_of_ble_eq_true rfl) ?_
  refine bz_goto (tgt := 121) dX4_count_93 rfl ?_
  refine bz_iret dX4_count_121 rfl rfl rfl
theorem y_count_20 (hT : mz_T σ.2.1) {d : Nat} (hd : d ≤ 6) : bz_V l ad K 73 mX4_count 2 (some (.int (nI (xp_start d)))) σ 0 [some (.ref (ad 54)), some (.int (nI (20 + d))), none, none] [] σ := by
  refine bz_iload_n dX4_count_0 rfl ?_
  refine bz_if_ne (tgt := 38) dX4_count_1 rfl (fun _ => ?_) (fun q => absurd q (nI_ne0 (by omega) (by omega)))
  refine bz_iload_n dX4_count_38 rfl ?_
  refine bz_iconst dX4_count_39 kc_iconst_1 ?_
  refine bz_icmp_neN (tgt := 73) dX4_count_40 rfl (by omega) (by omega) (fun _ => ?_) (fun q => absurd q (by omega))
  refine bz_iload_n dX4_count_73 rfl ?_
  refine bz_bipush dX4_count_74 kc_bipush_10 ?_
  refine bz_bipush dX4_count_76 kc_bipush_16 ?_
  refine bz_cS3I (z := 0) mv_X4_in ws_X4_in lk_X4_101 dX4_count_78 (by exact m_inF (Or.inr ((nI_ltI (by omega) (by omega)).mpr (by omega)))) (by omega) rfl (Nat.le_of_ble_eq_true rfl) (Nat.le_of_ble_eq_true rfl) ?_
  refine bz_if_eq (tgt := 96) dX4_count_81 rfl (fun _ => ?_) (fun q => absurd (by decide) q)
  refine bz_iload_n dX4_count_96 rfl ?_
  refine bz_bipush dX4_count_97 kc_bipush_20 ?_
  refine bz_bipush dX4_count_99 kc_bipush_26 ?_
  refine bz_cS3I (z := 0) mv_X4_in ws_X4_in lk_X4_101 dX4_count_101 (by exact m_inN (by omega) (by omega) (by omega)) (by omega) rfl (Nat.le_of_ble_eq_true rfl) (Nat.le_of_ble_eq_true rfl) ?_
  refine bz_if_eq (tgt := 119) dX4_count_104 rfl (fun q => absurd q (by decide)) (fun _ => ?_)
  refine bz_aload_n dX4_count_107 rfl ?_
  refine bz_iload_n dX4_count_108 rfl ?_
  refine bz_bipush dX4_count_109 kc_bipush_20 ?_
  refine bz_isubN dX4_count_111 (by omega) ?_
  refine bz_topi (y := nI d) (by rw [Nat.add_sub_cancel_left]) ?_
  refine bz_iconst dX4_count_112 kc_iconst_1 ?_
  refine bz_cV2I (z := 3) mv_X4_ofDegree mi_X4_ofDegree lk_X4_196 dX4_count_113 (by exact m_ofDegree1 hT (by omega)) (by omega) rfl (by omega) rfl rfl rfl (Nat.le_of_ble_eq_true rfl) (Nat.le_of_ble_eq_true rfl) ?_
  refine bz_goto (tgt := 121) dX4_count_116 rfl ?_
  refine bz_iret dX4_count_121 rfl rfl rfl
theorem y_count_o {x : Int32} (h0 : ¬ x = 0) (h1 : ¬ x = nI 1) (h2 : x < nI 10 ∨ nI 16 < x) (h3 : x < nI 20 ∨ nI 26 < x) : bz_V l ad K 73 mX4_count 2 (some (.int (-2))) σ 0 [some (.ref (ad 54)), some (.int x), none, none] [] σ := by
  refine bz_iload_n dX4_count_0 rfl ?_
  refine bz_if_ne (tgt := 38) dX4_count_1 rfl (fun _ => ?_) (fun q => absurd q (h0))
  refine bz_iload_n dX4_count_38 rfl ?_
  refine bz_iconst dX4_count_39 kc_iconst_1 ?_
  refine bz_icmp_ne (tgt := 73) dX4_count_40 rfl (fun _ => ?_) (fun q => absurd q (h1))
  refine bz_iload_n dX4_count_73 rfl ?_
  refine bz_bipush dX4_count_74 kc_bipush_10 ?_
  refine bz_bipush dX4_count_76 kc_bipush_16 ?_
  refine bz_cS3I (z := 0) mv_X4_in ws_X4_in lk_X4_101 dX4_count_78 (by exact m_inF h2) (by omega) rfl (Nat.le_of_ble_eq_true rfl) (Nat.le_of_ble_eq_true rfl) ?_
  refine bz_if_eq (tgt := 96) dX4_count_81 rfl (fun _ => ?_) (fun q => absurd (by decide) q)
  refine bz_iload_n dX4_count_96 rfl ?_
  refine bz_bipush dX4_count_97 kc_bipush_20 ?_
  refine bz_bipush dX4_count_99 kc_bipush_26 ?_
  refine bz_cS3I (z := 0) mv_X4_in ws_X4_in lk_X4_101 dX4_count_101 (by exact m_inF h3) (by omega) rfl (Nat.le_of_ble_eq_true rfl) (Nat.le_of_ble_eq_true rfl) ?_
  refine bz_if_eq (tgt := 119) dX4_count_104 rfl (fun _ => ?_) (fun q => absurd (by decide) q)
  refine bz_bipush dX4_count_119 kc_bipush_m2 ?_
  refine bz_iret dX4_count_121 rfl rfl rfl
end ME
