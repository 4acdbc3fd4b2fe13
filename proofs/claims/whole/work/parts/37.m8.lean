/-! the reference: its calls -/
def bz_mr (σ σ2 : bz_S) : Prop := (∀ j, j < 58 ∨ j = 59 ∨ 70 < j → σ2.1 j = σ.1 j) ∧ (∀ i, i < 3600 → σ2.1 58 i = σ.1 58 i) ∧ (∀ j, j ≠ 61 → j ≠ 62 → σ2.2.1 j = σ.2.1 j) ∧ fl_F σ2
def bz_mk (σ σ2 : bz_S) (to : Nat) (R : Nat → Int64) : Prop := (∀ j, j < 58 ∨ 70 < j → σ2.1 j = σ.1 j) ∧ (∀ i, i < 3600 → σ2.1 58 i = σ.1 58 i) ∧ (∀ j, j ≠ 61 → j ≠ 62 → σ2.2.1 j = σ.2.1 j) ∧ fl_F σ2 ∧ ∀ j, σ2.1 59 j = if zwA R 100000 then mt_up (σ.1 59) (30 * to) R 30 j else σ.1 59 j
theorem bz_mr_rf {σ : bz_S} (h : fl_F σ) : bz_mr σ σ := ⟨fun _ _ => rfl, fun _ _ => rfl, fun _ _ _ => rfl, h⟩
theorem bz_mr_tr {a b c : bz_S} (h2 : bz_mr b c) (h1 : bz_mr a b) : bz_mr a c := ⟨fun j q => (h2.1 j q).trans (h1.1 j q), fun i q => (h2.2.1 i q).trans (h1.2.1 i q), fun j q1 q2 => (h2.2.2.1 j q1 q2).trans (h1.2.2.1 j q1 q2), h2.2.2.2⟩
theorem bz_mr_lf {σ σ2 : bz_S} (h : bz_lf σ σ2) : bz_mr σ σ2 := ⟨fun j q => h.1 j (by omega), h.2.1, h.2.2.1, h.2.2.2⟩
theorem bz_mr_set {σ : bz_S} {k : Nat} {f : Nat → Int64} (hF : fl_F σ) (h : k = 60 ∨ (63 ≤ k ∧ k ≤ 70)) : bz_mr σ (bz_setJ σ k f) := ⟨fun j q => bz_setJ_ne (by omega), fun i _ => by rw [bz_setJ_ne (by omega)], fun _ _ _ => rfl, fl_F_eq (bz_setJ_ne (by omega)) rfl hF⟩
theorem mz_mr {σ σ2 : bz_S} (h : bz_mr σ σ2) (hT : mz_T σ.2.1) : mz_T σ2.2.1 := ⟨fun i hi => by rw [h.2.2.1 55 (by omega) (by omega)]; exact hT.1 i hi, fun i hi => by rw [h.2.2.1 56 (by omega) (by omega)]; exact hT.2.1 i hi, fun i hi => by rw [h.2.2.1 57 (by omega) (by omega)]; exact hT.2.2 i hi⟩
theorem bz_mr_mt {σ σ2 : bz_S} (h : bz_mt σ σ2) (h1 : σ2.2.2 = nI 1) (hD : fl_D σ2 30 0) : bz_mr σ σ2 := ⟨fun j q => h.1 j (by omega), h.2.1, h.2.2, Or.inr ⟨h1, hD⟩⟩
theorem bz_mr_mf {σ σ2 : bz_S} (h : bz_mf σ σ2) (hF : fl_F σ) : bz_mr σ σ2 := ⟨fun j _ => by rw [h.1], fun i _ => by rw [h.1], h.2.2, fl_F_eq (by rw [h.1]) h.2.1 hF⟩
section M9
variable {l : Launch} {ad : Nat → Nat} {K : bz_K} {σ σ0 σ' : bz_S} {r : Option Value}
theorem m_keepR {to : Nat} {R : Nat → Int64} (hto : to < 8) (hx : bz_mr σ0 σ) (hR : ∀ j, j < 30 → σ.1 66 j = R j) : ∃ σ2, bz_V l ad K 73 mX4_keep 0 (some (.int (hz_r R))) σ2 0 [some (.ref (ad 54)), some (.int (nI to)), none] [] σ ∧ bz_mk σ0 σ2 to R := by
  refine ⟨kp_s σ to, ?_, ?_⟩
  · rw [← hz_r_congr hR]
    exact m_keep hto
  · unfold kp_s
    have e59 : σ.1 59 = σ0.1 59 := hx.1 59 (by omega)
    by_cases q : zwA (σ.1 66) 100000
    · rw [if_pos q]
      refine ⟨fun j z => by rw [bz_setJ_ne (by omega), hx.1 j (by omega)], fun i z => by rw [bz_setJ_ne (by omega), hx.2.1 i z], hx.2.2.1, fl_F_eq (bz_setJ_ne (by omega)) rfl hx.2.2.2, fun j => ?_⟩
      rw [if_pos ((zwA_congr hR).mp q), bz_setJ_at, e59]
      unfold mt_up
      by_cases z : 30 * to ≤ j ∧ j < 30 * to + 30
      · rw [if_pos z, if_pos z, hR _ (by omega)]
      · rw [if_neg z, if_neg z]
    · rw [if_neg q]
      refine ⟨fun j z => hx.1 j (by omega), hx.2.1, hx.2.2.1, hx.2.2.2, fun j => ?_⟩
      rw [if_neg (fun z => q ((zwA_congr hR).mpr z)), e59]
theorem y_part (hT : mz_T σ.2.1) {a k : Nat} (ha : a < 30) (hk : k < 6) : bz_V l ad K 73 mX4_part 2 (some (.int (nI (xp_part a k)))) σ 0 [some (.ref (ad 54)), some (.int (nI a)), some (.int (nI k))] [] σ := by
  refine bz_iload_n dX4_part_0 rfl ?_
  refine bz_cS1I (z := 0) mv_X4_isPartition ws_X4_isPartition lk_X4_116 dX4_part_1 (by exact m_isPart ha) (by omega) rfl (Nat.le_of_ble_eq_true rfl) (Nat.le_of_ble_eq_true rfl) ?_
  refine bz_if_ne (tgt := 9) dX4_part_4 rfl (fun _ => ?_) (fun q => absurd q (by decide))
  refine bz_iload_n dX4_part_9 rfl ?_
  refine bz_iconst dX4_part_10 kc_iconst_0 ?_
  refine bz_iconst dX4_part_11 kc_iconst_5 ?_
  refine bz_cS3I (z := 0) mv_X4_in ws_X4_in lk_X4_101 dX4_part_12 (by exact m_inN (Nat.zero_le k) (by omega) (by omega)) (by omega) rfl (Nat.le_of_ble_eq_true rfl) (Nat.le_of_ble_eq_true rfl) ?_
  refine bz_if_eq (tgt := 27) dX4_part_15 rfl (fun q => absurd q (by decide)) (fun _ => ?_)
  refine bz_aload_n dX4_part_18 rfl ?_
  refine bz_iload_n dX4_part_19 rfl ?_
  refine bz_iload_n dX4_part_20 rfl ?_
  refine bz_cV2I (z := 0) mv_X4_partOf mi_X4_partOf lk_X4_91 dX4_part_21 (by exact m_partOf hT ha hk) (by omega) rfl (by omega) rfl rfl rfl (Nat.le_of_ble_eq_true rfl) (Nat.le_of_ble_eq_true rfl) ?_
  refine bz_goto (tgt := 29) dX4_part_24 rfl ?_
  refine bz_iret dX4_part_29 rfl rfl rfl
theorem y_part_u {x y : Int32} (h : x < 0 ∨ nI 30 ≤ x) : bz_V l ad K 73 mX4_part 2 (some (.int (-1))) σ 0 [some (.ref (ad 54)), some (.int x), some (.int y)] [] σ := by
  refine bz_iload_n dX4_part_0 rfl ?_
  refine bz_cS1I (z := 0) mv_X4_isPartition ws_X4_isPartition lk_X4_116 dX4_part_1 (by exact m_isPartF h) (by omega) rfl (Nat.le_of_ble_eq_true rfl) (Nat.le_of_ble_eq_true rfl) ?_
  refine bz_if_ne (tgt := 9) dX4_part_4 rfl (fun q => absurd (by decide) q) (fun _ => ?_)
  refine bz_iconst dX4_part_7 kc_iconst_m1 ?_
  refine bz_iret dX4_part_8 rfl rfl rfl
theorem y_part_o {a : Nat} {y : Int32} (ha : a < 30) (h : y < 0 ∨ nI 6 ≤ y) : bz_V l ad K 73 mX4_part 2 (some (.int (-2))) σ 0 [some (.ref (ad 54)), some (.int (nI a)), some (.int y)] [] σ := by
  refine bz_iload_n dX4_part_0 rfl ?_
  refine bz_cS1I (z := 0) mv_X4_isPartition ws_X4_isPartition lk_X4_116 dX4_part_1 (by exact m_isPart ha) (by omega) rfl (Nat.le_of_ble_eq_true rfl) (Nat.le_of_ble_eq_true rfl) ?_
  refine bz_if_ne (tgt := 9) dX4_part_4 rfl (fun _ => ?_) (fun q => absurd q (by decide))
  refine bz_iload_n dX4_part_9 rfl ?_
  refine bz_iconst dX4_part_10 kc_iconst_0 ?_
  refine bz_iconst dX4_part_11 kc_iconst_5 ?_
  refine bz_cS3I (z := 0) mv_X4_in ws_X4_in lk_X4_101 dX4_part_12 (by exact m_inF (m_lt (N := 5) (by decide) h)) (by omega) rfl (Nat.le_of_ble_eq_true rfl) (Nat.le_of_ble_eq_true rfl) ?_
  refine bz_if_eq (tgt := 27) dX4_part_15 rfl (fun _ => ?_) (fun q => absurd (by decide) q)
  refine bz_bipush dX4_part_27 kc_bipush_m2 ?_
  refine bz_iret dX4_part_29 rfl rfl rfl
theorem mt_bk1 : ∀ a, a < 30 → xt_deg a * mt_key 1 < 672 ∧ mt_bk (xt_deg a * mt_key 1) = xt_end a - 1 ∧ xt_end a - 1 < 30 := by decide +kernel
def yt_ab (a w : Nat) : Nat := match w with
  | 0 => xt_deg a
  | 1 => xt_len a
  | 2 => xt_conj a
  | 3 => xt_z a
  | _ => fl_cnt a (xt_end a - 1)
theorem y_about {a w : Nat} (hT : mz_T σ.2.1) (hF : fl_F σ) (ha : a < 30) (hw : w < 5) : ∃ σ2, bz_V l ad K 73 mX4_about 4 (some (.int (nI (yt_ab a w)))) σ2 0 [some (.ref (ad 54)), some (.int (nI a)), some (.int (nI w))] [] σ ∧ bz_mr σ σ2 := by
  have hb := mt_bk1 a ha
  match w, hw with
  | 0, _ =>
    refine ⟨σ, ?_, bz_mr_rf hF⟩
    refine bz_iload_n dX4_about_0 rfl ?_
    refine bz_cS1I (z := 0) mv_X4_isPartition ws_X4_isPartition lk_X4_116 dX4_about_1 (by exact m_isPart ha) (by omega) rfl (Nat.le_of_ble_eq_true rfl) (Nat.le_of_ble_eq_true rfl) ?_
    refine bz_if_ne (tgt := 9) dX4_about_4 rfl (fun _ => ?_) (fun q => absurd q (by decide))
    refine bz_iload_n dX4_about_9 rfl ?_
    refine bz_tblIn (tgt := 44) dX4_about_10 (by decide) (by decide) rfl rfl ?_
    refine bz_aload_n dX4_about_44 rfl ?_
    refine bz_getf fl_X4_13 dX4_about_45 rfl rfl (by omega) ?_
    refine bz_iload_n dX4_about_48 rfl ?_
    refine bz_iaload dX4_about_49 rfl (by omega) (by omega) ?_
    refine bz_topi (hT.2.1 a ha) ?_
    refine bz_iret dX4_about_50 rfl rfl rfl
  | 1, _ =>
    refine ⟨σ, ?_, bz_mr_rf hF⟩
    refine bz_iload_n dX4_about_0 rfl ?_
    refine bz_cS1I (z := 0) mv_X4_isPartition ws_X4_isPartition lk_X4_116 dX4_about_1 (by exact m_isPart ha) (by omega) rfl (Nat.le_of_ble_eq_true rfl) (Nat.le_of_ble_eq_true rfl) ?_
    refine bz_if_ne (tgt := 9) dX4_about_4 rfl (fun _ => ?_) (fun q => absurd q (by decide))
    refine bz_iload_n dX4_about_9 rfl ?_
    refine bz_tblIn (tgt := 51) dX4_about_10 (by decide) (by decide) rfl rfl ?_
    refine bz_aload_n dX4_about_51 rfl ?_
    refine bz_iload_n dX4_about_52 rfl ?_
    refine bz_cV1I (z := 2) mv_X4_lengthOf mi_X4_lengthOf lk_X4_94 dX4_about_53 (by exact m_lengthOf hT ha) (by omega) rfl (by omega) rfl rfl rfl (Nat.le_of_ble_eq_true rfl) (Nat.le_of_ble_eq_true rfl) ?_
    refine bz_iret dX4_about_56 rfl rfl rfl
  | 2, _ =>
    refine ⟨σ, ?_, bz_mr_rf hF⟩
    refine bz_iload_n dX4_about_0 rfl ?_
    refine bz_cS1I (z := 0) mv_X4_isPartition ws_X4_isPartition lk_X4_116 dX4_about_1 (by exact m_isPart ha) (by omega) rfl (Nat.le_of_ble_eq_true rfl) (Nat.le_of_ble_eq_true rfl) ?_
    refine bz_if_ne (tgt := 9) dX4_about_4 rfl (fun _ => ?_) (fun q => absurd q (by decide))
    refine bz_iload_n dX4_about_9 rfl ?_
    refine bz_tblIn (tgt := 57) dX4_about_10 (by decide) (by decide) rfl rfl ?_
    refine bz_aload_n dX4_about_57 rfl ?_
    refine bz_iload_n dX4_about_58 rfl ?_
    refine bz_cV1I (z := 4) mv_X4_conjugate mi_X4_conjugate lk_X4_126 dX4_about_59 (by exact m_conjugate hT ha) (by omega) rfl (by omega) rfl rfl rfl (Nat.le_of_ble_eq_true rfl) (Nat.le_of_ble_eq_true rfl) ?_
    refine bz_iret dX4_about_62 rfl rfl rfl
  | 3, _ =>
    refine ⟨σ, ?_, bz_mr_rf hF⟩
    refine bz_iload_n dX4_about_0 rfl ?_
    refine bz_cS1I (z := 0) mv_X4_isPartition ws_X4_isPartition lk_X4_116 dX4_about_1 (by exact m_isPart ha) (by omega) rfl (Nat.le_of_ble_eq_true rfl) (Nat.le_of_ble_eq_true rfl) ?_
    refine bz_if_ne (tgt := 9) dX4_about_4 rfl (fun _ => ?_) (fun q => absurd q (by decide))
    refine bz_iload_n dX4_about_9 rfl ?_
    refine bz_tblIn (tgt := 63) dX4_about_10 (by decide) (by decide) rfl rfl ?_
    refine bz_aload_n dX4_about_63 rfl ?_
    refine bz_iload_n dX4_about_64 rfl ?_
    refine bz_cV1I (z := 2) mv_X4_z mi_X4_z lk_X4_129 dX4_about_65 (by exact m_z hT ha) (by omega) rfl (by omega) rfl rfl rfl (Nat.le_of_ble_eq_true rfl) (Nat.le_of_ble_eq_true rfl) ?_
    refine bz_iret dX4_about_68 rfl rfl rfl
  | 4, _ =>
    obtain ⟨σ2, hV, hm⟩ := m_fillings (l := l) (ad := ad) (K := K) hT ha hb.2.2
    refine ⟨σ2, ?_, bz_mr_mf hm hF⟩
    refine bz_iload_n dX4_about_0 rfl ?_
    refine bz_cS1I (z := 0) mv_X4_isPartition ws_X4_isPartition lk_X4_116 dX4_about_1 (by exact m_isPart ha) (by omega) rfl (Nat.le_of_ble_eq_true rfl) (Nat.le_of_ble_eq_true rfl) ?_
    refine bz_if_ne (tgt := 9) dX4_about_4 rfl (fun _ => ?_) (fun q => absurd q (by decide))
    refine bz_iload_n dX4_about_9 rfl ?_
    refine bz_tblIn (tgt := 69) dX4_about_10 (by decide) (by decide) rfl rfl ?_
    refine bz_aload_n dX4_about_69 rfl ?_
    refine bz_iload_n dX4_about_70 rfl ?_
    refine bz_aload_n dX4_about_71 rfl ?_
    refine bz_getf fl_X4_16 dX4_about_72 rfl rfl (by omega) ?_
    refine bz_aload_n dX4_about_75 rfl ?_
    refine bz_getf fl_X4_13 dX4_about_76 rfl rfl (by omega) ?_
    refine bz_iload_n dX4_about_79 rfl ?_
    refine bz_iaload dX4_about_80 rfl (by omega) (by omega) ?_
    refine bz_topi (hT.2.1 a ha) ?_
    refine bz_iconst dX4_about_81 kc_iconst_1 ?_
    refine bz_cS1I (z := 0) mv_X4_key ws_X4_key lk_X4_87 dX4_about_82 (by exact m_key (by omega)) (by omega) rfl (Nat.le_of_ble_eq_true rfl) (Nat.le_of_ble_eq_true rfl) ?_
    first | refine bz_imulN dX4_about_85 ?_ | refine bz_imul dX4_about_85 ?_
    refine bz_iaload dX4_about_86 rfl (by omega) hb.1 ?_
    refine bz_topi (y := nI (xt_end a - 1)) ((hT.2.2 _ hb.1).trans (by rw [hb.2.1])) ?_
    refine bz_cV2I (z := 4) mv_X4_fillings mi_X4_fillings lk_X4_113 dX4_about_87 (by exact hV) (by omega) rfl (by omega) rfl rfl rfl (Nat.le_of_ble_eq_true rfl) (Nat.le_of_ble_eq_true rfl) ?_
    refine bz_iret dX4_about_90 rfl rfl rfl
  | n + 5, hw => exact absurd hw (by omega)
theorem y_about_u {x y : Int32} (h : x < 0 ∨ nI 30 ≤ x) : bz_V l ad K 73 mX4_about 4 (some (.int (-1))) σ 0 [some (.ref (ad 54)), some (.int x), some (.int y)] [] σ := by
  refine bz_iload_n dX4_about_0 rfl ?_
  refine bz_cS1I (z := 0) mv_X4_isPartition ws_X4_isPartition lk_X4_116 dX4_about_1 (by exact m_isPartF h) (by omega) rfl (Nat.le_of_ble_eq_true rfl) (Nat.le_of_ble_eq_true rfl) ?_
  refine bz_if_ne (tgt := 9) dX4_about_4 rfl (fun q => absurd (by decide) q) (fun _ => ?_)
  refine bz_iconst dX4_about_7 kc_iconst_m1 ?_
  refine bz_iret dX4_about_8 rfl rfl rfl
theorem y_about_o {a : Nat} {y : Int32} (ha : a < 30) (h : y < 0 ∨ nI 5 ≤ y) : bz_V l ad K 73 mX4_about 4 (some (.int (-2))) σ 0 [some (.ref (ad 54)), some (.int (nI a)), some (.int y)] [] σ := by
  refine bz_iload_n dX4_about_0 rfl ?_
  refine bz_cS1I (z := 0) mv_X4_isPartition ws_X4_isPartition lk_X4_116 dX4_about_1 (by exact m_isPart ha) (by omega) rfl (Nat.le_of_ble_eq_true rfl) (Nat.le_of_ble_eq_true rfl) ?_
  refine bz_if_ne (tgt := 9) dX4_about_4 rfl (fun _ => ?_) (fun q => absurd q (by decide))
  refine bz_iload_n dX4_about_9 rfl ?_
  refine bz_tblOut (tgt := 91) dX4_about_10 (bz_out (N := 4) (by decide) h (by decide)) rfl ?_
  refine bz_bipush dX4_about_91 kc_bipush_m2 ?_
  refine bz_iret dX4_about_93 rfl rfl rfl
theorem y_kostka (hT : mz_T σ.2.1) (hF : fl_F σ) {a b : Nat} (ha : a < 30) (hb : b < 30) : ∃ σ2, bz_V l ad K 73 mX4_kostka 4 (some (.int (nI (fl_cnt a b)))) σ2 0 [some (.ref (ad 54)), some (.int (nI a)), some (.int (nI b))] [] σ ∧ bz_mr σ σ2 := by
  obtain ⟨σ2, hV, hm⟩ := m_fillings (l := l) (ad := ad) (K := K) hT ha hb
  refine ⟨σ2, ?_, bz_mr_mf hm hF⟩
  refine bz_iload_n dX4_kostka_0 rfl ?_
  refine bz_cS1I (z := 0) mv_X4_isPartition ws_X4_isPartition lk_X4_116 dX4_kostka_1 (by exact m_isPart ha) (by omega) rfl (Nat.le_of_ble_eq_true rfl) (Nat.le_of_ble_eq_true rfl) ?_
  refine bz_if_eq (tgt := 23) dX4_kostka_4 rfl (fun q => absurd q (by decide)) (fun _ => ?_)
  refine bz_iload_n dX4_kostka_7 rfl ?_
  refine bz_cS1I (z := 0) mv_X4_isPartition ws_X4_isPartition lk_X4_116 dX4_kostka_8 (by exact m_isPart hb) (by omega) rfl (Nat.le_of_ble_eq_true rfl) (Nat.le_of_ble_eq_true rfl) ?_
  refine bz_if_eq (tgt := 23) dX4_kostka_11 rfl (fun q => absurd q (by decide)) (fun _ => ?_)
  refine bz_aload_n dX4_kostka_14 rfl ?_
  refine bz_iload_n dX4_kostka_15 rfl ?_
  refine bz_iload_n dX4_kostka_16 rfl ?_
  refine bz_cV2I (z := 4) mv_X4_fillings mi_X4_fillings lk_X4_113 dX4_kostka_17 (by exact hV) (by omega) rfl (by omega) rfl rfl rfl (Nat.le_of_ble_eq_true rfl) (Nat.le_of_ble_eq_true rfl) ?_
  refine bz_goto (tgt := 24) dX4_kostka_20 rfl ?_
  refine bz_iret dX4_kostka_24 rfl rfl rfl
theorem y_kostka_1 {x y : Int32} (h : x < 0 ∨ nI 30 ≤ x) : bz_V l ad K 73 mX4_kostka 4 (some (.int (-1))) σ 0 [some (.ref (ad 54)), some (.int x), some (.int y)] [] σ := by
  refine bz_iload_n dX4_kostka_0 rfl ?_
  refine bz_cS1I (z := 0) mv_X4_isPartition ws_X4_isPartition lk_X4_116 dX4_kostka_1 (by exact m_isPartF h) (by omega) rfl (Nat.le_of_ble_eq_true rfl) (Nat.le_of_ble_eq_true rfl) ?_
  refine bz_if_eq (tgt := 23) dX4_kostka_4 rfl (fun _ => ?_) (fun q => absurd (by decide) q)
  refine bz_iconst dX4_kostka_23 kc_iconst_m1 ?_
  refine bz_iret dX4_kostka_24 rfl rfl rfl
theorem y_kostka_2 {a : Nat} {y : Int32} (ha : a < 30) (h : y < 0 ∨ nI 30 ≤ y) : bz_V l ad K 73 mX4_kostka 4 (some (.int (-1))) σ 0 [some (.ref (ad 54)), some (.int (nI a)), some (.int y)] [] σ := by
  refine bz_iload_n dX4_kostka_0 rfl ?_
  refine bz_cS1I (z := 0) mv_X4_isPartition ws_X4_isPartition lk_X4_116 dX4_kostka_1 (by exact m_isPart ha) (by omega) rfl (Nat.le_of_ble_eq_true rfl) (Nat.le_of_ble_eq_true rfl) ?_
  refine bz_if_eq (tgt := 23) dX4_kostka_4 rfl (fun q => absurd q (by decide)) (fun _ => ?_)
  refine bz_iload_n dX4_kostka_7 rfl ?_
  refine bz_cS1I (z := 0) mv_X4_isPartition ws_X4_isPartition lk_X4_116 dX4_kostka_8 (by exact m_isPartF h) (by omega) rfl (Nat.le_of_ble_eq_true rfl) (Nat.le_of_ble_eq_true rfl) ?_
  refine bz_if_eq (tgt := 23) dX4_kostka_11 rfl (fun _ => ?_) (fun q => absurd (by decide) q)
  refine bz_iconst dX4_kostka_23 kc_iconst_m1 ?_
  refine bz_iret dX4_kostka_24 rfl rfl rfl
theorem y_above_1 {x y : Int32} (h : x < 0 ∨ nI 30 ≤ x) : bz_V l ad K 73 mX4_above 3 (some (.int (-1))) σ 0 [some (.ref (ad 54)), some (.int x), some (.int y), none, none, none] [] σ := by
  refine bz_iload_n dX4_above_0 rfl ?_
  refine bz_cS1I (z := 0) mv_X4_isPartition ws_X4_isPartition lk_X4_116 dX4_above_1 (by exact m_isPartF h) (by omega) rfl (Nat.le_of_ble_eq_true rfl) (Nat.le_of_ble_eq_true rfl) ?_
  refine bz_if_eq (tgt := 14) dX4_above_4 rfl (fun _ => ?_) (fun q => absurd (by decide) q)
  refine bz_iconst dX4_above_14 kc_iconst_m1 ?_
  refine bz_iret dX4_above_15 rfl rfl rfl
theorem y_above_2 {a : Nat} {y : Int32} (ha : a < 30) (h : y < 0 ∨ nI 30 ≤ y) : bz_V l ad K 73 mX4_above 3 (some (.int (-1))) σ 0 [some (.ref (ad 54)), some (.int (nI a)), some (.int y), none, none, none] [] σ := by
  refine bz_iload_n dX4_above_0 rfl ?_
  refine bz_cS1I (z := 0) mv_X4_isPartition ws_X4_isPartition lk_X4_116 dX4_above_1 (by exact m_isPart ha) (by omega) rfl (Nat.le_of_ble_eq_true rfl) (Nat.le_of_ble_eq_true rfl) ?_
  refine bz_if_eq (tgt := 14) dX4_above_4 rfl (fun q => absurd q (by decide)) (fun _ => ?_)
  refine bz_iload_n dX4_above_7 rfl ?_
  refine bz_cS1I (z := 0) mv_X4_isPartition ws_X4_isPartition lk_X4_116 dX4_above_8 (by exact m_isPartF h) (by omega) rfl (Nat.le_of_ble_eq_true rfl) (Nat.le_of_ble_eq_true rfl) ?_
  refine bz_if_ne (tgt := 16) dX4_above_11 rfl (fun q => absurd (by decide) q) (fun _ => ?_)
  refine bz_iconst dX4_above_14 kc_iconst_m1 ?_
  refine bz_iret dX4_above_15 rfl rfl rfl
theorem y_character_1 {x y : Int32} (h : x < 0 ∨ nI 30 ≤ x) : bz_V l ad K 73 mX4_character 6 (some (.int (-1))) σ 0 [some (.ref (ad 54)), some (.int x), some (.int y)] [] σ := by
  refine bz_iload_n dX4_character_0 rfl ?_
  refine bz_cS1I (z := 0) mv_X4_isPartition ws_X4_isPartition lk_X4_116 dX4_character_1 (by exact m_isPartF h) (by omega) rfl (Nat.le_of_ble_eq_true rfl) (Nat.le_of_ble_eq_true rfl) ?_
  refine bz_if_eq (tgt := 14) dX4_character_4 rfl (fun _ => ?_) (fun q => absurd (by decide) q)
  refine bz_iconst dX4_character_14 kc_iconst_m1 ?_
  refine bz_iret dX4_character_15 rfl rfl rfl
theorem y_character_2 {a : Nat} {y : Int32} (ha : a < 30) (h : y < 0 ∨ nI 30 ≤ y) : bz_V l ad K 73 mX4_character 6 (some (.int (-1))) σ 0 [some (.ref (ad 54)), some (.int (nI a)), some (.int y)] [] σ := by
  refine bz_iload_n dX4_character_0 rfl ?_
  refine bz_cS1I (z := 0) mv_X4_isPartition ws_X4_isPartition lk_X4_116 dX4_character_1 (by exact m_isPart ha) (by omega) rfl (Nat.le_of_ble_eq_true rfl) (Nat.le_of_ble_eq_true rfl) ?_
  refine bz_if_eq (tgt := 14) dX4_character_4 rfl (fun q => absurd q (by decide)) (fun _ => ?_)
  refine bz_iload_n dX4_character_7 rfl ?_
  refine bz_cS1I (z := 0) mv_X4_isPartition ws_X4_isPartition lk_X4_116 dX4_character_8 (by exact m_isPartF h) (by omega) rfl (Nat.le_of_ble_eq_true rfl) (Nat.le_of_ble_eq_true rfl) ?_
  refine bz_if_ne (tgt := 16) dX4_character_11 rfl (fun q => absurd (by decide) q) (fun _ => ?_)
  refine bz_iconst dX4_character_14 kc_iconst_m1 ?_
  refine bz_iret dX4_character_15 rfl rfl rfl
/-- above, place by place -/
def yt_is (a b : Nat) : Nat → Nat
  | 0 => if xt_deg a = xt_deg b then 1 else 0
  | k + 1 => if yt_is a b k = 0 then 0 else if 0 ≤ xt_ahead a b (k + 1) then 1 else 0
theorem yt_is01 (a b : Nat) : ∀ k, yt_is a b k = 0 ∨ yt_is a b k = 1
  | 0 => by
    unfold yt_is
    by_cases q : xt_deg a = xt_deg b
    · rw [if_pos q]; exact Or.inr rfl
    · rw [if_neg q]; exact Or.inl rfl
  | k + 1 => by
    unfold yt_is
    by_cases q : yt_is a b k = 0
    · rw [if_pos q]; exact Or.inl rfl
    · rw [if_neg q]
      by_cases z : 0 ≤ xt_ahead a b (k + 1)
      · rw [if_pos z]; exact Or.inr rfl
      · rw [if_neg z]; exact Or.inl rfl
theorem yt_is_ok : ∀ a, a < 30 → ∀ b, b < 30 → yt_is a b 6 = xt_above a b := by decide +kernel
theorem y_ab_loop (hT : mz_T σ.2.1) {a b : Nat} (ha : a < 30) (hb : b < 30) : ∀ (m k : Nat), k + m = 6 → bz_V l ad K 73 mX4_above 3 (some (.int (nI (xt_above a b)))) σ 43 [some (.ref (ad 54)), some (.int (nI a)), some (.int (nI b)), some (.int (Int32.ofInt (xt_ahead a b k))), some (.int (nI (yt_is a b k))), some (.int (nI k))] [] σ := by
  intro m
  induction m with
  | zero =>
    intro k hk
    obtain rfl : k = 6 := by omega
    rw [← yt_is_ok a ha b hb]
    refine bz_iload dX4_above_43 rfl ?_
    refine bz_bipush dX4_above_45 kc_bipush_6 ?_
    refine bz_icmp_geN (tgt := 90) dX4_above_47 rfl (by omega) (by omega) (fun _ => ?_) (fun q => absurd q (by omega))
    refine bz_iload dX4_above_90 rfl ?_
    rcases yt_is01 a b 6 with q | q
    · rw [q]
      refine bz_if_eq (tgt := 99) dX4_above_92 rfl (fun _ => ?_) (fun q => absurd (by decide) q)
      refine bz_iconst dX4_above_99 kc_iconst_0 ?_
      refine bz_iret dX4_above_100 rfl rfl rfl
    · rw [q]
      refine bz_if_eq (tgt := 99) dX4_above_92 rfl (fun q => absurd q (by decide)) (fun _ => ?_)
      refine bz_iconst dX4_above_95 kc_iconst_1 ?_
      refine bz_goto (tgt := 100) dX4_above_96 rfl ?_
      refine bz_iret dX4_above_100 rfl rfl rfl
  | succ m ih =>
    intro k hk
    have h6 : k < 6 := by omega
    have hp1 := xt_part6 a ha k h6
    have hp2 := xt_part6 b hb k h6
    have hbd := xt_ahead_b a ha b hb (k + 1) (by omega)
    have hih := ih (k + 1) (by omega)
    have e : yt_is a b (k + 1) = if yt_is a b k = 0 then 0 else if 0 ≤ xt_ahead a b (k + 1) then 1 else 0 := rfl
    rw [e] at hih
    refine bz_iload dX4_above_43 rfl ?_
    refine bz_bipush dX4_above_45 kc_bipush_6 ?_
    refine bz_icmp_geN (tgt := 90) dX4_above_47 rfl (by omega) (by omega) (fun q => absurd q (by omega)) (fun _ => ?_)
    refine bz_iload_n dX4_above_50 rfl ?_
    refine bz_aload_n dX4_above_51 rfl ?_
    refine bz_iload_n dX4_above_52 rfl ?_
    refine bz_iload dX4_above_53 rfl ?_
    refine bz_cV2I (z := 0) mv_X4_partOf mi_X4_partOf lk_X4_91 dX4_above_55 (by exact m_partOf (by exact hT) ha h6) (by omega) rfl (by omega) rfl rfl rfl (Nat.le_of_ble_eq_true rfl) (Nat.le_of_ble_eq_true rfl) ?_
    refine bz_aload_n dX4_above_58 rfl ?_
    refine bz_iload_n dX4_above_59 rfl ?_
    refine bz_iload dX4_above_60 rfl ?_
    refine bz_cV2I (z := 0) mv_X4_partOf mi_X4_partOf lk_X4_91 dX4_above_62 (by exact m_partOf (by exact hT) hb h6) (by omega) rfl (by omega) rfl rfl rfl (Nat.le_of_ble_eq_true rfl) (Nat.le_of_ble_eq_true rfl) ?_
    refine bz_isub dX4_above_65 ?_
    refine bz_iadd dX4_above_66 ?_
    refine bz_topi (y := Int32.ofInt (xt_ahead a b (k + 1))) (by rw [i32_sub _ _ (by omega) (by omega), xt_ahead, Int32.ofInt_add]) ?_
    refine bz_ist3 dX4_above_67 (by decide) rfl ?_
    refine bz_iload dX4_above_68 rfl ?_
    rcases yt_is01 a b k with q | q
    · rw [if_pos q] at hih
      rw [q]
      refine bz_if_eq (tgt := 81) dX4_above_70 rfl (fun _ => ?_) (fun q => absurd (by decide) q)
      refine bz_iconst dX4_above_81 kc_iconst_0 ?_
      refine bz_ist4 dX4_above_82 (by decide) rfl ?_
      first | refine bz_iinc5N dX4_above_84 (by decide) rfl ?_ | refine bz_iinc5 dX4_above_84 rfl (by decide) rfl ?_
      refine bz_goto (tgt := 43) dX4_above_87 rfl ?_
      exact hih
    · rw [if_neg (by omega)] at hih
      rw [q]
      refine bz_if_eq (tgt := 81) dX4_above_70 rfl (fun q => absurd q (by decide)) (fun _ => ?_)
      refine bz_iload_n dX4_above_73 rfl ?_
      refine bz_if_lt (tgt := 81) dX4_above_74 rfl (fun h => ?_) (fun h => ?_)
      · rw [if_neg (fun z => absurd h (Int32.not_lt.mpr ((i32_ge _ hbd.1 hbd.2).mpr z)))] at hih
        refine bz_iconst dX4_above_81 kc_iconst_0 ?_
        refine bz_ist4 dX4_above_82 (by decide) rfl ?_
        first | refine bz_iinc5N dX4_above_84 (by decide) rfl ?_ | refine bz_iinc5 dX4_above_84 rfl (by decide) rfl ?_
        refine bz_goto (tgt := 43) dX4_above_87 rfl ?_
        exact hih
      · rw [if_pos ((i32_ge _ hbd.1 hbd.2).mp (Int32.not_lt.mp h))] at hih
        refine bz_iconst dX4_above_77 kc_iconst_1 ?_
        refine bz_goto (tgt := 82) dX4_above_78 rfl ?_
        refine bz_ist4 dX4_above_82 (by decide) rfl ?_
        first | refine bz_iinc5N dX4_above_84 (by decide) rfl ?_ | refine bz_iinc5 dX4_above_84 rfl (by decide) rfl ?_
        refine bz_goto (tgt := 43) dX4_above_87 rfl ?_
        exact hih
theorem y_above (hT : mz_T σ.2.1) {a b : Nat} (ha : a < 30) (hb : b < 30) : bz_V l ad K 73 mX4_above 3 (some (.int (nI (xt_above a b)))) σ 0 [some (.ref (ad 54)), some (.int (nI a)), some (.int (nI b)), none, none, none] [] σ := by
  have h1 := xt_deg6 a ha
  have h2 := xt_deg6 b hb
  refine bz_iload_n dX4_above_0 rfl ?_
  refine bz_cS1I (z := 0) mv_X4_isPartition ws_X4_isPartition lk_X4_116 dX4_above_1 (by exact m_isPart ha) (by omega) rfl (Nat.le_of_ble_eq_true rfl) (Nat.le_of_ble_eq_true rfl) ?_
  refine bz_if_eq (tgt := 14) dX4_above_4 rfl (fun q => absurd q (by decide)) (fun _ => ?_)
  refine bz_iload_n dX4_above_7 rfl ?_
  refine bz_cS1I (z := 0) mv_X4_isPartition ws_X4_isPartition lk_X4_116 dX4_above_8 (by exact m_isPart hb) (by omega) rfl (Nat.le_of_ble_eq_true rfl) (Nat.le_of_ble_eq_true rfl) ?_
  refine bz_if_ne (tgt := 16) dX4_above_11 rfl (fun _ => ?_) (fun q => absurd q (by decide))
  refine bz_iconst dX4_above_16 kc_iconst_0 ?_
  refine bz_ist3 dX4_above_17 (by decide) rfl ?_
  refine bz_aload_n dX4_above_18 rfl ?_
  refine bz_getf fl_X4_13 dX4_above_19 rfl rfl (by omega) ?_
  refine bz_iload_n dX4_above_22 rfl ?_
  refine bz_iaload dX4_above_23 rfl (by omega) (by omega) ?_
  refine bz_topi (hT.2.1 a ha) ?_
  refine bz_aload_n dX4_above_24 rfl ?_
  refine bz_getf fl_X4_13 dX4_above_25 rfl rfl (by omega) ?_
  refine bz_iload_n dX4_above_28 rfl ?_
  refine bz_iaload dX4_above_29 rfl (by omega) (by omega) ?_
  refine bz_topi (hT.2.1 b hb) ?_
  have hl := y_ab_loop (l := l) (ad := ad) (K := K) hT ha hb 6 0 rfl
  refine bz_icmp_neN (tgt := 37) dX4_above_30 rfl (by omega) (by omega) (fun h => ?_) (fun h => ?_)
  · rw [show yt_is a b 0 = 0 by unfold yt_is; rw [if_neg h]] at hl
    refine bz_iconst dX4_above_37 kc_iconst_0 ?_
    refine bz_ist4 dX4_above_38 (by decide) rfl ?_
    refine bz_iconst dX4_above_40 kc_iconst_0 ?_
    refine bz_ist5 dX4_above_41 (by decide) rfl ?_
    exact hl
  · rw [show yt_is a b 0 = 1 by unfold yt_is; rw [if_pos h]] at hl
    refine bz_iconst dX4_above_33 kc_iconst_1 ?_
    refine bz_goto (tgt := 38) dX4_above_34 rfl ?_
    refine bz_ist4 dX4_above_38 (by decide) rfl ?_
    refine bz_iconst dX4_above_40 kc_iconst_0 ?_
    refine bz_ist5 dX4_above_41 (by decide) rfl ?_
    exact hl
theorem y_character {a b : Nat} {F : Nat → Int64} (hT : mz_T σ.2.1) (hM : mz_M σ) (hFl : fl_F σ) (ha : a < 30) (hb : b < 30) (hF : fc_from 2 (fun j => cm 4 a j) F) : ∃ σ2, bz_V l ad K 73 mX4_character 6 (some (.int ((zsum (fun j => F j * cm 3 b j) 0 30).toInt32 + nI 1000))) σ2 0 [some (.ref (ad 54)), some (.int (nI a)), some (.int (nI b))] [] σ ∧ bz_mr σ σ2 := by
  obtain ⟨s1, hV1, hm1, hf1, hD1⟩ := m_layTableaux (l := l) (ad := ad) (K := K) hT hFl
  have hr1 := bz_mr_mt hm1 hf1 hD1
  have hM1 : mz_M s1 := mM_lf hr1.2.1 hM
  obtain ⟨s2, hV2, hl2⟩ := m_scalarOf (l := l) (ad := ad) (K := K) (σ := s1) (kf := 58) (lf := 4500) (fF := 30 * (30 * 4 + a) + 0) (kg := 58) (lg := 4500) (fG := 30 * (30 * 3 + b) + 0) (w := fun j => cm 4 a j) (g := fun j => cm 3 b j) (F := F) (mz_mr hr1 hT) hM1 hr1.2.2.2 rfl (by omega) (by omega) (by omega) (fun j hj => by rw [Nat.add_zero]; exact cm_4 hD1 ha hj) rfl (by omega) (by omega) (by omega) hF (fun σ2 h2 j hj => by rw [Nat.add_zero]; exact mM_lf h2.2.1 hM1 3 (by omega) b hb j hj)
  refine ⟨s2, ?_, bz_mr_tr (bz_mr_lf hl2) hr1⟩
  refine bz_iload_n dX4_character_0 rfl ?_
  refine bz_cS1I (z := 0) mv_X4_isPartition ws_X4_isPartition lk_X4_116 dX4_character_1 (by exact m_isPart ha) (by omega) rfl (Nat.le_of_ble_eq_true rfl) (Nat.le_of_ble_eq_true rfl) ?_
  refine bz_if_eq (tgt := 14) dX4_character_4 rfl (fun q => absurd q (by decide)) (fun _ => ?_)
  refine bz_iload_n dX4_character_7 rfl ?_
  refine bz_cS1I (z := 0) mv_X4_isPartition ws_X4_isPartition lk_X4_116 dX4_character_8 (by exact m_isPart hb) (by omega) rfl (Nat.le_of_ble_eq_true rfl) (Nat.le_of_ble_eq_true rfl) ?_
  refine bz_if_ne (tgt := 16) dX4_character_11 rfl (fun _ => ?_) (fun q => absurd q (by decide))
  refine bz_aload_n dX4_character_16 rfl ?_
  refine bz_cV0U (z := 2) mv_X4_layTableaux mi_X4_layTableaux lk_X4_134 dX4_character_17 (by exact hV1) (by omega) rfl (by omega) rfl rfl rfl (Nat.le_of_ble_eq_true rfl) (Nat.le_of_ble_eq_true rfl) ?_
  refine bz_aload_n dX4_character_20 rfl ?_
  refine bz_aload_n dX4_character_21 rfl ?_
  refine bz_getf fl_X4_19 dX4_character_22 rfl rfl (by omega) ?_
  refine bz_iconst dX4_character_25 kc_iconst_4 ?_
  refine bz_iload_n dX4_character_26 rfl ?_
  refine bz_iconst dX4_character_27 kc_iconst_0 ?_
  refine bz_cS3I (z := 0) mv_X4_at ws_X4_at lk_X4_75 dX4_character_28 (by exact m_at) (by omega) rfl (Nat.le_of_ble_eq_true rfl) (Nat.le_of_ble_eq_true rfl) ?_
  refine bz_aload_n dX4_character_31 rfl ?_
  refine bz_getf fl_X4_19 dX4_character_32 rfl rfl (by omega) ?_
  refine bz_iconst dX4_character_35 kc_iconst_3 ?_
  refine bz_iload_n dX4_character_36 rfl ?_
  refine bz_iconst dX4_character_37 kc_iconst_0 ?_
  refine bz_cS3I (z := 0) mv_X4_at ws_X4_at lk_X4_75 dX4_character_38 (by exact m_at) (by omega) rfl (Nat.le_of_ble_eq_true rfl) (Nat.le_of_ble_eq_true rfl) ?_
  refine bz_cV4L (z := 3) mv_X4_scalarOf mi_X4_scalarOf lk_X4_148 dX4_character_41 (by exact hV2) (by omega) rfl (by omega) rfl rfl rfl (Nat.le_of_ble_eq_true rfl) (Nat.le_of_ble_eq_true rfl) ?_
  refine bz_l2i dX4_character_44 ?_
  refine bz_sipush dX4_character_45 kc_sipush_1000 ?_
  refine bz_iadd dX4_character_48 ?_
  refine bz_iret dX4_character_49 rfl rfl rfl
theorem y_put {to base a : Nat} {y : Int32} (hT : mz_T σ.2.1) (hM : mz_M σ) (hFl : fl_F σ) (ht : to < 8) (hbs : base < 5) (ha : a < 30) (h1 : ¬ y < -1000) (h2 : ¬ nI 1000 < y) : ∃ σ2, bz_V l ad K 73 mX4_put 5 (some (.int (hz_r (fun j => y.toInt64 * cm base a j)))) σ2 0 [some (.ref (ad 54)), some (.int (nI to)), some (.int (nI base)), some (.int (nI a)), some (.int y)] [] σ ∧ bz_mk σ σ2 to (fun j => y.toInt64 * cm base a j) := by
  have key : ∀ s1, bz_mr σ s1 → (∀ j, j < 30 → mm s1 base a j = cm base a j) → ∃ σ2, bz_V l ad K 73 mX4_put 5 (some (.int (hz_r (fun j => y.toInt64 * cm base a j)))) σ2 51 [some (.ref (ad 54)), some (.int (nI to)), some (.int (nI base)), some (.int (nI a)), some (.int y)] [] s1 ∧ bz_mk σ σ2 to (fun j => y.toInt64 * cm base a j) := by
    intro s1 hr hm
    have hr2 : bz_mr σ (bz_setJ s1 66 (bz_upto (s1.1 66) (fun _ => 0) 30)) := bz_mr_tr (bz_mr_set hr.2.2.2 (by omega)) hr
    have hr3 : bz_mr σ (bz_setJ (bz_setJ s1 66 (bz_upto (s1.1 66) (fun _ => 0) 30)) 66 (bz_upto ((bz_setJ s1 66 (bz_upto (s1.1 66) (fun _ => 0) 30)).1 66) (fun b => (bz_setJ s1 66 (bz_upto (s1.1 66) (fun _ => 0) 30)).1 66 b + y.toInt64 * (bz_setJ s1 66 (bz_upto (s1.1 66) (fun _ => 0) 30)).1 58 (30 * (30 * base + a) + b)) 30)) := bz_mr_tr (bz_mr_set hr2.2.2.2 (by omega)) hr2
    obtain ⟨σ2, hV, hk⟩ := m_keepR (l := l) (ad := ad) (K := K) ht hr3 (R := fun j => y.toInt64 * cm base a j) (fun j hj => by
      rw [bz_setJ_at, bz_upto_lt hj, bz_setJ_at, bz_upto_lt hj, Int64.zero_add, bz_setJ_ne (by omega)]
      exact congrArg (fun z => y.toInt64 * z) (hm j hj))
    refine ⟨σ2, ?_, hk⟩
    refine bz_aload_n dX4_put_51 rfl ?_
    refine bz_cV0U (z := 1) mv_X4_clearWork mi_X4_clearWork lk_X4_159 dX4_put_52 (by exact m_clearWork) (by omega) rfl (by omega) rfl rfl rfl (Nat.le_of_ble_eq_true rfl) (Nat.le_of_ble_eq_true rfl) ?_
    refine bz_aload_n dX4_put_55 rfl ?_
    refine bz_iload_n dX4_put_56 rfl ?_
    refine bz_iload_n dX4_put_57 rfl ?_
    refine bz_iload dX4_put_58 rfl ?_
    refine bz_i2l dX4_put_60 ?_
    refine bz_cV3U (z := 1) mv_X4_addMember mi_X4_addMember lk_X4_162 dX4_put_61 (by exact m_addMember hbs ha) (by omega) rfl (by omega) rfl rfl rfl (Nat.le_of_ble_eq_true rfl) (Nat.le_of_ble_eq_true rfl) ?_
    refine bz_aload_n dX4_put_64 rfl ?_
    refine bz_iload_n dX4_put_65 rfl ?_
    refine bz_cV1I (z := 1) mv_X4_keep mi_X4_keep lk_X4_165 dX4_put_66 (by exact hV) (by omega) rfl (by omega) rfl rfl rfl (Nat.le_of_ble_eq_true rfl) (Nat.le_of_ble_eq_true rfl) ?_
    refine bz_iret dX4_put_69 rfl rfl rfl
  have pre : ∀ {s2 : bz_S}, bz_V l ad K 73 mX4_put 5 (some (.int (hz_r (fun j => y.toInt64 * cm base a j)))) s2 42 [some (.ref (ad 54)), some (.int (nI to)), some (.int (nI base)), some (.int (nI a)), some (.int y)] [] σ → bz_V l ad K 73 mX4_put 5 (some (.int (hz_r (fun j => y.toInt64 * cm base a j)))) s2 0 [some (.ref (ad 54)), some (.int (nI to)), some (.int (nI base)), some (.int (nI a)), some (.int y)] [] σ := by
    intro s2 k
    refine bz_iload_n dX4_put_0 rfl ?_
    refine bz_cS1I (z := 0) mv_X4_isSlot ws_X4_isSlot lk_X4_156 dX4_put_1 (by exact m_isSlot ht) (by omega) rfl (Nat.le_of_ble_eq_true rfl) (Nat.le_of_ble_eq_true rfl) ?_
    refine bz_if_eq (tgt := 23) dX4_put_4 rfl (fun q => absurd q (by decide)) (fun _ => ?_)
    refine bz_iload_n dX4_put_7 rfl ?_
    refine bz_iconst dX4_put_8 kc_iconst_0 ?_
    refine bz_iconst dX4_put_9 kc_iconst_4 ?_
    refine bz_cS3I (z := 0) mv_X4_in ws_X4_in lk_X4_101 dX4_put_10 (by exact m_inN (Nat.zero_le base) (by omega) (by omega)) (by omega) rfl (Nat.le_of_ble_eq_true rfl) (Nat.le_of_ble_eq_true rfl) ?_
    refine bz_if_eq (tgt := 23) dX4_put_13 rfl (fun q => absurd q (by decide)) (fun _ => ?_)
    refine bz_iload_n dX4_put_16 rfl ?_
    refine bz_cS1I (z := 0) mv_X4_isPartition ws_X4_isPartition lk_X4_116 dX4_put_17 (by exact m_isPart ha) (by omega) rfl (Nat.le_of_ble_eq_true rfl) (Nat.le_of_ble_eq_true rfl) ?_
    refine bz_if_ne (tgt := 25) dX4_put_20 rfl (fun _ => ?_) (fun q => absurd q (by decide))
    refine bz_iload dX4_put_25 rfl ?_
    refine bz_sipush dX4_put_27 kc_sipush_m1000 ?_
    refine bz_sipush dX4_put_30 kc_sipush_1000 ?_
    refine bz_cS3I (z := 0) mv_X4_in ws_X4_in lk_X4_101 dX4_put_33 (by exact m_in h1 h2) (by omega) rfl (Nat.le_of_ble_eq_true rfl) (Nat.le_of_ble_eq_true rfl) ?_
    refine bz_if_ne (tgt := 42) dX4_put_36 rfl (fun _ => ?_) (fun q => absurd q (by decide))
    exact k
  by_cases hb4 : base = 4
  · subst hb4
    obtain ⟨s1, hV1, hm1, hf1, hD1⟩ := m_layTableaux (l := l) (ad := ad) (K := K) hT hFl
    obtain ⟨σ2, hV, hk⟩ := key s1 (bz_mr_mt hm1 hf1 hD1) (fun j hj => cm_4 hD1 ha hj)
    refine ⟨σ2, pre ?_, hk⟩
    refine bz_iload_n dX4_put_42 rfl ?_
    refine bz_iconst dX4_put_43 kc_iconst_4 ?_
    refine bz_icmp_ne (tgt := 51) dX4_put_44 rfl (fun q => absurd (by decide) q) (fun _ => ?_)
    refine bz_aload_n dX4_put_47 rfl ?_
    refine bz_cV0U (z := 2) mv_X4_layTableaux mi_X4_layTableaux lk_X4_134 dX4_put_48 (by exact hV1) (by omega) rfl (by omega) rfl rfl rfl (Nat.le_of_ble_eq_true rfl) (Nat.le_of_ble_eq_true rfl) ?_
    exact hV
  · obtain ⟨σ2, hV, hk⟩ := key σ (bz_mr_rf hFl) (fun j hj => hM base (by omega) a ha j hj)
    refine ⟨σ2, pre ?_, hk⟩
    refine bz_iload_n dX4_put_42 rfl ?_
    refine bz_iconst dX4_put_43 kc_iconst_4 ?_
    refine bz_icmp_neN (tgt := 51) dX4_put_44 rfl (by omega) (by omega) (fun _ => ?_) (fun q => absurd q (by omega))
    exact hV
theorem y_put_1 {x1 x2 x3 y : Int32} (h : x1 < 0 ∨ nI 8 ≤ x1) : bz_V l ad K 73 mX4_put 5 (some (.int (-1))) σ 0 [some (.ref (ad 54)), some (.int x1), some (.int x2), some (.int x3), some (.int y)] [] σ := by
  refine bz_iload_n dX4_put_0 rfl ?_
  refine bz_cS1I (z := 0) mv_X4_isSlot ws_X4_isSlot lk_X4_156 dX4_put_1 (by exact m_isSlotF h) (by omega) rfl (Nat.le_of_ble_eq_true rfl) (Nat.le_of_ble_eq_true rfl) ?_
  refine bz_if_eq (tgt := 23) dX4_put_4 rfl (fun _ => ?_) (fun q => absurd (by decide) q)
  refine bz_iconst dX4_put_23 kc_iconst_m1 ?_
  refine bz_iret dX4_put_24 rfl rfl rfl
theorem y_put_2 {to : Nat} {x2 x3 y : Int32} (ht : to < 8) (h : x2 < 0 ∨ nI 5 ≤ x2) : bz_V l ad K 73 mX4_put 5 (some (.int (-1))) σ 0 [some (.ref (ad 54)), some (.int (nI to)), some (.int x2), some (.int x3), some (.int y)] [] σ := by
  refine bz_iload_n dX4_put_0 rfl ?_
  refine bz_cS1I (z := 0) mv_X4_isSlot ws_X4_isSlot lk_X4_156 dX4_put_1 (by exact m_isSlot ht) (by omega) rfl (Nat.le_of_ble_eq_true rfl) (Nat.le_of_ble_eq_true rfl) ?_
  refine bz_if_eq (tgt := 23) dX4_put_4 rfl (fun q => absurd q (by decide)) (fun _ => ?_)
  refine bz_iload_n dX4_put_7 rfl ?_
  refine bz_iconst dX4_put_8 kc_iconst_0 ?_
  refine bz_iconst dX4_put_9 kc_iconst_4 ?_
  refine bz_cS3I (z := 0) mv_X4_in ws_X4_in lk_X4_101 dX4_put_10 (by exact m_inF (m_lt (N := 4) (by decide) h)) (by omega) rfl (Nat.le_of_ble_eq_true rfl) (Nat.le_of_ble_eq_true rfl) ?_
  refine bz_if_eq (tgt := 23) dX4_put_13 rfl (fun _ => ?_) (fun q => absurd (by decide) q)
  refine bz_iconst dX4_put_23 kc_iconst_m1 ?_
  refine bz_iret dX4_put_24 rfl rfl rfl
theorem y_put_3 {to base : Nat} {x3 y : Int32} (ht : to < 8) (hbs : base < 5) (h : x3 < 0 ∨ nI 30 ≤ x3) : bz_V l ad K 73 mX4_put 5 (some (.int (-1))) σ 0 [some (.ref (ad 54)), some (.int (nI to)), some (.int (nI base)), some (.int x3), some (.int y)] [] σ := by
  refine bz_iload_n dX4_put_0 rfl ?_
  refine bz_cS1I (z := 0) mv_X4_isSlot ws_X4_isSlot lk_X4_156 dX4_put_1 (by exact m_isSlot ht) (by omega) rfl (Nat.le_of_ble_eq_true rfl) (Nat.le_of_ble_eq_true rfl) ?_
  refine bz_if_eq (tgt := 23) dX4_put_4 rfl (fun q => absurd q (by decide)) (fun _ => ?_)
  refine bz_iload_n dX4_put_7 rfl ?_
  refine bz_iconst dX4_put_8 kc_iconst_0 ?_
  refine bz_iconst dX4_put_9 kc_iconst_4 ?_
  refine bz_cS3I (z := 0) mv_X4_in ws_X4_in lk_X4_101 dX4_put_10 (by exact m_inN (Nat.zero_le base) (by omega) (by omega)) (by omega) rfl (Nat.le_of_ble_eq_true rfl) (Nat.le_of_ble_eq_true rfl) ?_
  refine bz_if_eq (tgt := 23) dX4_put_13 rfl (fun q => absurd q (by decide)) (fun _ => ?_)
  refine bz_iload_n dX4_put_16 rfl ?_
  refine bz_cS1I (z := 0) mv_X4_isPartition ws_X4_isPartition lk_X4_116 dX4_put_17 (by exact m_isPartF h) (by omega) rfl (Nat.le_of_ble_eq_true rfl) (Nat.le_of_ble_eq_true rfl) ?_
  refine bz_if_ne (tgt := 25) dX4_put_20 rfl (fun q => absurd (by decide) q) (fun _ => ?_)
  refine bz_iconst dX4_put_23 kc_iconst_m1 ?_
  refine bz_iret dX4_put_24 rfl rfl rfl
theorem y_put_4 {to base a : Nat} {y : Int32} (ht : to < 8) (hbs : base < 5) (ha : a < 30) (h : y < -1000 ∨ nI 1000 < y) : bz_V l ad K 73 mX4_put 5 (some (.int (-2))) σ 0 [some (.ref (ad 54)), some (.int (nI to)), some (.int (nI base)), some (.int (nI a)), some (.int y)] [] σ := by
  refine bz_iload_n dX4_put_0 rfl ?_
  refine bz_cS1I (z := 0) mv_X4_isSlot ws_X4_isSlot lk_X4_156 dX4_put_1 (by exact m_isSlot ht) (by omega) rfl (Nat.le_of_ble_eq_true rfl) (Nat.le_of_ble_eq_true rfl) ?_
  refine bz_if_eq (tgt := 23) dX4_put_4 rfl (fun q => absurd q (by decide)) (fun _ => ?_)
  refine bz_iload_n dX4_put_7 rfl ?_
  refine bz_iconst dX4_put_8 kc_iconst_0 ?_
  refine bz_iconst dX4_put_9 kc_iconst_4 ?_
  refine bz_cS3I (z := 0) mv_X4_in ws_X4_in lk_X4_101 dX4_put_10 (by exact m_inN (Nat.zero_le base) (by omega) (by omega)) (by omega) rfl (Nat.le_of_ble_eq_true rfl) (Nat.le_of_ble_eq_true rfl) ?_
  refine bz_if_eq (tgt := 23) dX4_put_13 rfl (fun q => absurd q (by decide)) (fun _ => ?_)
  refine bz_iload_n dX4_put_16 rfl ?_
  refine bz_cS1I (z := 0) mv_X4_isPartition ws_X4_isPartition lk_X4_116 dX4_put_17 (by exact m_isPart ha) (by omega) rfl (Nat.le_of_ble_eq_true rfl) (Nat.le_of_ble_eq_true rfl) ?_
  refine bz_if_ne (tgt := 25) dX4_put_20 rfl (fun _ => ?_) (fun q => absurd q (by decide))
  refine bz_iload dX4_put_25 rfl ?_
  refine bz_sipush dX4_put_27 kc_sipush_m1000 ?_
  refine bz_sipush dX4_put_30 kc_sipush_1000 ?_
  refine bz_cS3I (z := 0) mv_X4_in ws_X4_in lk_X4_101 dX4_put_33 (by exact m_inF h) (by omega) rfl (Nat.le_of_ble_eq_true rfl) (Nat.le_of_ble_eq_true rfl) ?_
  refine bz_if_ne (tgt := 42) dX4_put_36 rfl (fun q => absurd (by decide) q) (fun _ => ?_)
  refine bz_bipush dX4_put_39 kc_bipush_m2 ?_
  refine bz_iret dX4_put_41 rfl rfl rfl
end M9
