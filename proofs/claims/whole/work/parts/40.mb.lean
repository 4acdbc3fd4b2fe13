/-! the reference: strip, meet -/
/-- rows 58 (tableaux), 63 to 65, and 68 alone have changed -/
def bz_me (σ σ2 : bz_S) : Prop := (∀ j, j < 58 ∨ (58 < j ∧ j < 63) ∨ (65 < j ∧ j ≠ 68) → σ2.1 j = σ.1 j) ∧ (∀ i, i < 3600 → σ2.1 58 i = σ.1 58 i) ∧ (∀ j, j ≠ 61 → j ≠ 62 → σ2.2.1 j = σ.2.1 j) ∧ fl_F σ2
theorem bz_me_mr {σ σ2 : bz_S} (h : bz_me σ σ2) : bz_mr σ σ2 := ⟨fun j q => h.1 j (by omega), h.2.1, h.2.2.1, h.2.2.2⟩
def me_m (F : Nat → Int64) (c : Nat) : Int64 := F c * (nI (xt_z c)).toInt64 / 720
def me_r (A B : Nat → Int64) (b : Nat) : Int64 := zsum (fun c => me_m A c * me_m B c * (nI (720 / xt_z c)).toInt64 * cm 3 c b) 0 30
section MC
variable {l : Launch} {ad : Nat → Nat} {K : bz_K} {σ σ0 σ' : bz_S} {r : Option Value}
theorem y_strip {to a b : Nat} {F : Nat → Int64} (hT : mz_T σ.2.1) (hM : mz_M σ) (hFl : fl_F σ) (ht : to < 8) (ha : a < 8) (hb : b < 8) (hF : fc_from 2 (fun j => σ.1 59 (30 * b + j)) F) : ∃ σ2, bz_V l ad K 73 mX4_strip 6 (some (.int (hz_r (sp_r (fun j => σ.1 59 (30 * a + j)) F)))) σ2 0 [some (.ref (ad 54)), some (.int (nI to)), some (.int (nI a)), some (.int (nI b)), none, none, none, none] [] σ ∧ bz_mk σ σ2 to (sp_r (fun j => σ.1 59 (30 * a + j)) F) := by
  obtain ⟨s1, hV1, hl1, h1, h11⟩ := m_layFound (l := l) (ad := ad) (K := K) (base := 2) (kf := 59) (lf := 240) (fF := 30 * b) hT hM hFl (by omega) rfl (by omega) (by omega) (by omega) (fun _ _ => rfl) hF
  obtain ⟨hf1, hD1⟩ := h11 (Or.inl rfl)
  obtain ⟨σ2, hV, hk⟩ := y_sp_loop (l := l) (ad := ad) (K := K) (σ := σ) (a := a) (b := b) (A := fun j => σ.1 59 (30 * a + j)) (F := F) (s0 := s1) (mz_lf hl1 hT) ht ha (bz_mr_lf hl1) hD1 (fun j hj => by rw [hl1.1 59 (by omega)]) h1 30 0 (bz_setJ s1 66 (bz_upto (s1.1 66) (fun _ => 0) 30)) none none none rfl (bz_mw_set (by omega)) (fun b hb => by rw [bz_setJ_at, bz_upto_lt hb]; rfl)
  refine ⟨σ2, ?_, hk⟩
  refine bz_iload_n dX4_strip_0 rfl ?_
  refine bz_cS1I (z := 0) mv_X4_isSlot ws_X4_isSlot lk_X4_156 dX4_strip_1 (by exact m_isSlot ht) (by omega) rfl (Nat.le_of_ble_eq_true rfl) (Nat.le_of_ble_eq_true rfl) ?_
  refine bz_if_eq (tgt := 21) dX4_strip_4 rfl (fun q => absurd q (by decide)) (fun _ => ?_)
  refine bz_iload_n dX4_strip_7 rfl ?_
  refine bz_cS1I (z := 0) mv_X4_isSlot ws_X4_isSlot lk_X4_156 dX4_strip_8 (by exact m_isSlot ha) (by omega) rfl (Nat.le_of_ble_eq_true rfl) (Nat.le_of_ble_eq_true rfl) ?_
  refine bz_if_eq (tgt := 21) dX4_strip_11 rfl (fun q => absurd q (by decide)) (fun _ => ?_)
  refine bz_iload_n dX4_strip_14 rfl ?_
  refine bz_cS1I (z := 0) mv_X4_isSlot ws_X4_isSlot lk_X4_156 dX4_strip_15 (by exact m_isSlot hb) (by omega) rfl (Nat.le_of_ble_eq_true rfl) (Nat.le_of_ble_eq_true rfl) ?_
  refine bz_if_ne (tgt := 23) dX4_strip_18 rfl (fun _ => ?_) (fun q => absurd q (by decide))
  refine bz_aload_n dX4_strip_23 rfl ?_
  refine bz_aload_n dX4_strip_24 rfl ?_
  refine bz_getf fl_X4_23 dX4_strip_25 rfl rfl (by omega) ?_
  refine bz_bipush dX4_strip_28 kc_bipush_30 ?_
  refine bz_iload_n dX4_strip_30 rfl ?_
  first | refine bz_imulN dX4_strip_31 ?_ | refine bz_imul dX4_strip_31 ?_
  refine bz_iconst dX4_strip_32 kc_iconst_2 ?_
  refine bz_cV3U (z := 1) mv_X4_layFound mi_X4_layFound lk_X4_144 dX4_strip_33 (by exact hV1) (by omega) rfl (by omega) rfl rfl rfl (Nat.le_of_ble_eq_true rfl) (Nat.le_of_ble_eq_true rfl) ?_
  refine bz_aload_n dX4_strip_36 rfl ?_
  refine bz_cV0U (z := 1) mv_X4_clearWork mi_X4_clearWork lk_X4_159 dX4_strip_37 (by exact m_clearWork) (by omega) rfl (by omega) rfl rfl rfl (Nat.le_of_ble_eq_true rfl) (Nat.le_of_ble_eq_true rfl) ?_
  refine bz_iconst dX4_strip_40 kc_iconst_0 ?_
  refine bz_ist4 dX4_strip_41 (by decide) rfl ?_
  exact hV
theorem m_lm_loop {s : Nat} {F : Nat → Int64} {s0 : bz_S} (hT : mz_T s0.2.1) (hF : ∀ j, j < 30 → s0.1 64 j = F j) : ∀ (m c : Nat), c + m = 30 → bz_V l ad K 73 mX4_layMet 5 none (bz_setJ s0 68 (bz_upto (s0.1 68) (me_m F) 30)) 15 [some (.ref (ad 54)), some (.int (nI s)), some (.int (nI c))] [] (bz_setJ s0 68 (bz_upto (s0.1 68) (me_m F) c)) := by
  intro m
  induction m with
  | zero =>
    intro c hc
    obtain rfl : c = 30 := by omega
    refine bz_iload_n dX4_layMet_15 rfl ?_
    refine bz_bipush dX4_layMet_16 kc_bipush_30 ?_
    refine bz_icmp_geN (tgt := 50) dX4_layMet_18 rfl (by omega) (by omega) (fun _ => ?_) (fun q => absurd q (by omega))
    refine bz_vret dX4_layMet_50 rfl rfl
  | succ m ih =>
    intro c hc
    have h30 : c < 30 := by omega
    refine bz_iload_n dX4_layMet_15 rfl ?_
    refine bz_bipush dX4_layMet_16 kc_bipush_30 ?_
    refine bz_icmp_geN (tgt := 50) dX4_layMet_18 rfl (by omega) (by omega) (fun q => absurd q (by omega)) (fun _ => ?_)
    refine bz_aload_n dX4_layMet_21 rfl ?_
    refine bz_getf fl_X4_50 dX4_layMet_22 rfl rfl (by omega) ?_
    refine bz_iload_n dX4_layMet_25 rfl ?_
    refine bz_aload_n dX4_layMet_26 rfl ?_
    refine bz_getf fl_X4_38 dX4_layMet_27 rfl rfl (by omega) ?_
    refine bz_iload_n dX4_layMet_30 rfl ?_
    refine bz_laload dX4_layMet_31 rfl (by omega) (by omega) ?_
    refine bz_topl (y := F c) (by rw [bz_setJ_ne (by omega)]; exact hF c h30) ?_
    refine bz_aload_n dX4_layMet_32 rfl ?_
    refine bz_iload_n dX4_layMet_33 rfl ?_
    refine bz_cV1I (z := 2) mv_X4_z mi_X4_z lk_X4_129 dX4_layMet_34 (by exact m_z (by exact hT) h30) (by omega) rfl (by omega) rfl rfl rfl (Nat.le_of_ble_eq_true rfl) (Nat.le_of_ble_eq_true rfl) ?_
    refine bz_i2l dX4_layMet_37 ?_
    refine bz_lmul dX4_layMet_38 ?_
    refine bz_ldc2 kl_X4_132 dX4_layMet_39 ?_
    refine bz_ldiv dX4_layMet_42 (by decide) ?_
    refine bz_lastore dX4_layMet_43 rfl (by omega) (by omega) ?_
    first | refine bz_iinc2N dX4_layMet_44 (by decide) rfl ?_ | refine bz_iinc2 dX4_layMet_44 rfl (by decide) rfl ?_
    refine bz_goto (tgt := 15) dX4_layMet_47 rfl ?_
    refine bz_st (by rw [bz_upJ_set, bz_upto_s (F := me_m F) (x := F c * (nI (xt_z c)).toInt64 / 720) rfl]) ?_
    exact ih (c + 1) (by omega)
theorem m_layMet {s : Nat} {F : Nat → Int64} (hT : mz_T σ.2.1) (hM : mz_M σ) (hFl : fl_F σ) (hs : s < 8) (hF : fc_from 3 (fun j => σ.1 59 (30 * s + j)) F) : ∃ σ2, bz_V l ad K 73 mX4_layMet 5 none σ2 0 [some (.ref (ad 54)), some (.int (nI s)), none] [] σ ∧ bz_me σ σ2 ∧ ∀ c, c < 30 → σ2.1 68 c = me_m F c := by
  obtain ⟨s1, hV1, hl1, h1, _⟩ := m_layFound (l := l) (ad := ad) (K := K) (base := 3) (kf := 59) (lf := 240) (fF := 30 * s) hT hM hFl (by omega) rfl (by omega) (by omega) (by omega) (fun _ _ => rfl) hF
  refine ⟨bz_setJ s1 68 (bz_upto (s1.1 68) (me_m F) 30), ?_, ⟨fun j q => by rw [bz_setJ_ne (by omega)]; exact hl1.1 j (by omega), fun i q => by rw [bz_setJ_ne (by omega)]; exact hl1.2.1 i q, hl1.2.2.1, fl_F_eq (bz_setJ_ne (by omega)) rfl hl1.2.2.2⟩, fun c hc => by rw [bz_setJ_at, bz_upto_lt hc]⟩
  refine bz_aload_n dX4_layMet_0 rfl ?_
  refine bz_aload_n dX4_layMet_1 rfl ?_
  refine bz_getf fl_X4_23 dX4_layMet_2 rfl rfl (by omega) ?_
  refine bz_bipush dX4_layMet_5 kc_bipush_30 ?_
  refine bz_iload_n dX4_layMet_7 rfl ?_
  first | refine bz_imulN dX4_layMet_8 ?_ | refine bz_imul dX4_layMet_8 ?_
  refine bz_iconst dX4_layMet_9 kc_iconst_3 ?_
  refine bz_cV3U (z := 1) mv_X4_layFound mi_X4_layFound lk_X4_144 dX4_layMet_10 (by exact hV1) (by omega) rfl (by omega) rfl rfl rfl (Nat.le_of_ble_eq_true rfl) (Nat.le_of_ble_eq_true rfl) ?_
  refine bz_iconst dX4_layMet_13 kc_iconst_0 ?_
  refine bz_ist2 dX4_layMet_14 (by decide) rfl ?_
  refine bz_st (by rw [bz_setJ_id (bz_upto_0 _ (me_m F))]) (m_lm_loop (mz_lf hl1 hT) h1 30 0 rfl)
theorem y_me_1 {to a b : Nat} (kk : bz_V l ad K 73 mX4_meet 6 r σ' 58 [some (.ref (ad 54)), some (.int (nI to)), some (.int (nI a)), some (.int (nI b)), some (.int (nI 30))] [] (bz_setJ σ 67 (bz_upto (σ.1 67) (σ.1 68) 30))) : ∀ (m c : Nat), c + m = 30 → bz_V l ad K 73 mX4_meet 6 r σ' 31 [some (.ref (ad 54)), some (.int (nI to)), some (.int (nI a)), some (.int (nI b)), some (.int (nI c))] [] (bz_setJ σ 67 (bz_upto (σ.1 67) (σ.1 68) c)) := by
  intro m
  induction m with
  | zero =>
    intro c hc
    obtain rfl : c = 30 := by omega
    refine bz_iload dX4_meet_31 rfl ?_
    refine bz_bipush dX4_meet_33 kc_bipush_30 ?_
    refine bz_icmp_geN (tgt := 58) dX4_meet_35 rfl (by omega) (by omega) (fun _ => ?_) (fun q => absurd q (by omega))
    exact kk
  | succ m ih =>
    intro c hc
    refine bz_iload dX4_meet_31 rfl ?_
    refine bz_bipush dX4_meet_33 kc_bipush_30 ?_
    refine bz_icmp_geN (tgt := 58) dX4_meet_35 rfl (by omega) (by omega) (fun q => absurd q (by omega)) (fun _ => ?_)
    refine bz_aload_n dX4_meet_38 rfl ?_
    refine bz_getf fl_X4_47 dX4_meet_39 rfl rfl (by omega) ?_
    refine bz_iload dX4_meet_42 rfl ?_
    refine bz_aload_n dX4_meet_44 rfl ?_
    refine bz_getf fl_X4_50 dX4_meet_45 rfl rfl (by omega) ?_
    refine bz_iload dX4_meet_48 rfl ?_
    refine bz_laload dX4_meet_50 rfl (by omega) (by omega) ?_
    refine bz_topl (y := σ.1 68 c) (by rw [bz_setJ_ne (by omega)]) ?_
    refine bz_lastore dX4_meet_51 rfl (by omega) (by omega) ?_
    first | refine bz_iinc4N dX4_meet_52 (by decide) rfl ?_ | refine bz_iinc4 dX4_meet_52 rfl (by decide) rfl ?_
    refine bz_goto (tgt := 31) dX4_meet_55 rfl ?_
    refine bz_st (by rw [bz_upJ_set, bz_upto_s rfl]) ?_
    exact ih (c + 1) (by omega)
theorem y_dv (f : Nat → Int64) : ∀ {to a b : Nat} (kk : bz_V l ad K 73 mX4_meet 6 r σ' 146 [some (.ref (ad 54)), some (.int (nI to)), some (.int (nI a)), some (.int (nI b)), some (.int (nI 30))] [] (bz_setJ σ 66 (bz_upto (σ.1 66) (fun j => σ.1 66 j / 720) 30))) (m c : Nat), c + m = 30 → bz_V l ad K 73 mX4_meet 6 r σ' 120 [some (.ref (ad 54)), some (.int (nI to)), some (.int (nI a)), some (.int (nI b)), some (.int (nI c))] [] (bz_setJ σ 66 (bz_upto (σ.1 66) (fun j => σ.1 66 j / 720) c)) := by
  intro to a b kk m
  induction m with
  | zero =>
    intro c hc
    obtain rfl : c = 30 := by omega
    refine bz_iload dX4_meet_120 rfl ?_
    refine bz_bipush dX4_meet_122 kc_bipush_30 ?_
    refine bz_icmp_geN (tgt := 146) dX4_meet_124 rfl (by omega) (by omega) (fun _ => ?_) (fun q => absurd q (by omega))
    exact kk
  | succ m ih =>
    intro c hc
    refine bz_iload dX4_meet_120 rfl ?_
    refine bz_bipush dX4_meet_122 kc_bipush_30 ?_
    refine bz_icmp_geN (tgt := 146) dX4_meet_124 rfl (by omega) (by omega) (fun q => absurd q (by omega)) (fun _ => ?_)
    refine bz_aload_n dX4_meet_127 rfl ?_
    refine bz_getf fl_X4_44 dX4_meet_128 rfl rfl (by omega) ?_
    refine bz_iload dX4_meet_131 rfl ?_
    refine bz_dup2 dX4_meet_133 rfl rfl ?_
    refine bz_laload dX4_meet_134 rfl (by omega) (by omega) ?_
    refine bz_topl (y := σ.1 66 c) (by rw [bz_setJ_at, bz_upto_ge (Nat.le_refl c)]) ?_
    refine bz_ldc2 kl_X4_132 dX4_meet_135 ?_
    refine bz_ldiv dX4_meet_138 (by decide) ?_
    refine bz_lastore dX4_meet_139 rfl (by omega) (by omega) ?_
    first | refine bz_iinc4N dX4_meet_140 (by decide) rfl ?_ | refine bz_iinc4 dX4_meet_140 rfl (by decide) rfl ?_
    refine bz_goto (tgt := 120) dX4_meet_143 rfl ?_
    refine bz_st (by rw [bz_upJ_set, bz_upto_s rfl]) ?_
    exact ih (c + 1) (by omega)
theorem y_me_2 {to a b : Nat} {A B : Nat → Int64} {s0 : bz_S} (hT : mz_T s0.2.1) (hM : mz_M s0) (ht : to < 8) (hr0 : bz_mr σ s0) (hA : ∀ j, j < 30 → s0.1 67 j = me_m A j) (hB : ∀ j, j < 30 → s0.1 68 j = me_m B j) :
    ∀ (m c : Nat) (S : bz_S), c + m = 30 → (S.2 = s0.2 ∧ ∀ j, j ≠ 66 → S.1 j = s0.1 j) → (∀ b, b < 30 → S.1 66 b = zsum (fun c => me_m A c * me_m B c * (nI (720 / xt_z c)).toInt64 * cm 3 c b) 0 c) → ∃ σ2, bz_V l ad K 73 mX4_meet 6 (some (.int (hz_r (fun j => me_r A B j / 720)))) σ2 70 [some (.ref (ad 54)), some (.int (nI to)), some (.int (nI a)), some (.int (nI b)), some (.int (nI c))] [] S ∧ bz_mk σ σ2 to (fun j => me_r A B j / 720) := by
  intro m
  induction m with
  | zero =>
    intro c S hc hw hs
    obtain rfl : c = 30 := by omega
    have hws : bz_mw s0 S := ⟨hw.1, fun j q _ => hw.2 j q⟩
    have hrS : bz_mr σ S := bz_mr_tr (bz_mw_mr hws hr0.2.2.2) hr0
    obtain ⟨σ2, hV, hk⟩ := m_keepR (l := l) (ad := ad) (K := K) (σ0 := σ) (σ := bz_setJ S 66 (bz_upto (S.1 66) (fun j => S.1 66 j / 720) 30)) (R := fun j => me_r A B j / 720) ht (bz_mr_tr (bz_mr_set hrS.2.2.2 (by omega)) hrS) (fun j hj => by rw [bz_setJ_at, bz_upto_lt hj, hs j hj]; rfl)
    refine ⟨σ2, ?_, hk⟩
    refine bz_iload dX4_meet_70 rfl ?_
    refine bz_bipush dX4_meet_72 kc_bipush_30 ?_
    refine bz_icmp_geN (tgt := 117) dX4_meet_74 rfl (by omega) (by omega) (fun _ => ?_) (fun q => absurd q (by omega))
    refine bz_iconst dX4_meet_117 kc_iconst_0 ?_
    refine bz_ist4 dX4_meet_118 (by decide) rfl ?_
    refine bz_st (by rw [bz_setJ_id (bz_upto_0 _ (fun j => S.1 66 j / 720))]) (y_dv (fun _ => 0) ?_ 30 0 rfl)
    refine bz_aload_n dX4_meet_146 rfl ?_
    refine bz_iload_n dX4_meet_147 rfl ?_
    refine bz_cV1I (z := 1) mv_X4_keep mi_X4_keep lk_X4_165 dX4_meet_148 (by exact hV) (by omega) rfl (by omega) rfl rfl rfl (Nat.le_of_ble_eq_true rfl) (Nat.le_of_ble_eq_true rfl) ?_
    refine bz_iret dX4_meet_151 rfl rfl rfl
  | succ m ih =>
    intro c S hc hw hs
    have h30 : c < 30 := by omega
    have hz := xt_zpos c h30
    have e58 : S.1 58 = s0.1 58 := hw.2 58 (by omega)
    have hTS : mz_T S.2.1 := by rw [hw.1]; exact hT
    obtain ⟨σ2, hV, hk⟩ := ih (c + 1) (am_s S 3 c (me_m A c * me_m B c * (nI (720 / xt_z c)).toInt64)) (by omega) ⟨hw.1, fun j q => by unfold am_s; rw [bz_setJ_ne q, hw.2 j q]⟩ (fun b hb => by
      rw [am_s_66 hb, hs b hb, zsum_succ, Nat.zero_add, show mm S 3 c b = cm 3 c b by unfold mm; rw [e58]; exact hM 3 (by omega) c h30 b hb])
    refine ⟨σ2, ?_, hk⟩
    refine bz_iload dX4_meet_70 rfl ?_
    refine bz_bipush dX4_meet_72 kc_bipush_30 ?_
    refine bz_icmp_geN (tgt := 117) dX4_meet_74 rfl (by omega) (by omega) (fun q => absurd q (by omega)) (fun _ => ?_)
    refine bz_aload_n dX4_meet_77 rfl ?_
    refine bz_iconst dX4_meet_78 kc_iconst_3 ?_
    refine bz_iload dX4_meet_79 rfl ?_
    refine bz_aload_n dX4_meet_81 rfl ?_
    refine bz_getf fl_X4_47 dX4_meet_82 rfl rfl (by omega) ?_
    refine bz_iload dX4_meet_85 rfl ?_
    refine bz_laload dX4_meet_87 rfl (by omega) (by omega) ?_
    refine bz_topl (y := me_m A c) (by rw [hw.2 67 (by omega)]; exact hA c h30) ?_
    refine bz_aload_n dX4_meet_88 rfl ?_
    refine bz_getf fl_X4_50 dX4_meet_89 rfl rfl (by omega) ?_
    refine bz_iload dX4_meet_92 rfl ?_
    refine bz_laload dX4_meet_94 rfl (by omega) (by omega) ?_
    refine bz_topl (y := me_m B c) (by rw [hw.2 68 (by omega)]; exact hB c h30) ?_
    refine bz_lmul dX4_meet_95 ?_
    refine bz_sipush dX4_meet_96 kc_sipush_720 ?_
    refine bz_aload_n dX4_meet_99 rfl ?_
    refine bz_iload dX4_meet_100 rfl ?_
    refine bz_cV1I (z := 2) mv_X4_z mi_X4_z lk_X4_129 dX4_meet_102 (by exact m_z hTS h30) (by omega) rfl (by omega) rfl rfl rfl (Nat.le_of_ble_eq_true rfl) (Nat.le_of_ble_eq_true rfl) ?_
    refine bz_idivN dX4_meet_105 (by omega) hz.1 (by omega) ?_
    refine bz_i2l dX4_meet_106 ?_
    refine bz_lmul dX4_meet_107 ?_
    refine bz_cV3U (z := 1) mv_X4_addMember mi_X4_addMember lk_X4_162 dX4_meet_108 (by exact m_addMember (by omega) h30) (by omega) rfl (by omega) rfl rfl rfl (Nat.le_of_ble_eq_true rfl) (Nat.le_of_ble_eq_true rfl) ?_
    first | refine bz_iinc4N dX4_meet_111 (by decide) rfl ?_ | refine bz_iinc4 dX4_meet_111 rfl (by decide) rfl ?_
    refine bz_goto (tgt := 70) dX4_meet_114 rfl ?_
    exact hV
theorem y_meet {to a b : Nat} {A B : Nat → Int64} (hT : mz_T σ.2.1) (hM : mz_M σ) (hFl : fl_F σ) (ht : to < 8) (ha : a < 8) (hb : b < 8) (hA : fc_from 3 (fun j => σ.1 59 (30 * a + j)) A) (hB : fc_from 3 (fun j => σ.1 59 (30 * b + j)) B) : ∃ σ2, bz_V l ad K 73 mX4_meet 6 (some (.int (hz_r (fun j => me_r A B j / 720)))) σ2 0 [some (.ref (ad 54)), some (.int (nI to)), some (.int (nI a)), some (.int (nI b)), none] [] σ ∧ bz_mk σ σ2 to (fun j => me_r A B j / 720) := by
  obtain ⟨s1, hV1, hl1, h1⟩ := m_layMet (l := l) (ad := ad) (K := K) hT hM hFl ha hA
  have hr1 := bz_me_mr hl1
  have hr2 : bz_mr σ (bz_setJ s1 67 (bz_upto (s1.1 67) (s1.1 68) 30)) := bz_mr_tr (bz_mr_set hr1.2.2.2 (by omega)) hr1
  obtain ⟨s3, hV3, hl3, h3⟩ := m_layMet (l := l) (ad := ad) (K := K) (σ := bz_setJ s1 67 (bz_upto (s1.1 67) (s1.1 68) 30)) (s := b) (F := B) (mz_mr hr2 hT) (mM_lf hr2.2.1 hM) hr2.2.2.2 hb (by
    have e : (fun j => (bz_setJ s1 67 (bz_upto (s1.1 67) (s1.1 68) 30)).1 59 (30 * b + j)) = fun j => σ.1 59 (30 * b + j) := by
      funext j
      rw [hr2.1 59 (by omega)]
    rw [e]
    exact hB)
  have hr3 := bz_mr_tr (bz_me_mr hl3) hr2
  have hr4 : bz_mr σ (bz_setJ s3 66 (bz_upto (s3.1 66) (fun _ => 0) 30)) := bz_mr_tr (bz_mr_set hr3.2.2.2 (by omega)) hr3
  obtain ⟨σ2, hV, hk⟩ := y_me_2 (l := l) (ad := ad) (K := K) (σ := σ) (a := a) (b := b) (A := A) (B := B) (s0 := bz_setJ s3 66 (bz_upto (s3.1 66) (fun _ => 0) 30)) (mz_mr hr4 hT) (mM_lf hr4.2.1 hM) ht hr4 (fun j hj => by rw [bz_setJ_ne (by omega), hl3.1 67 (by omega), bz_setJ_at, bz_upto_lt hj]; exact h1 j hj) (fun j hj => by rw [bz_setJ_ne (by omega)]; exact h3 j hj) 30 0 _ rfl ⟨rfl, fun _ _ => rfl⟩ (fun b hb => by rw [bz_setJ_at, bz_upto_lt hb]; rfl)
  refine ⟨σ2, ?_, hk⟩
  refine bz_iload_n dX4_meet_0 rfl ?_
  refine bz_cS1I (z := 0) mv_X4_isSlot ws_X4_isSlot lk_X4_156 dX4_meet_1 (by exact m_isSlot ht) (by omega) rfl (Nat.le_of_ble_eq_true rfl) (Nat.le_of_ble_eq_true rfl) ?_
  refine bz_if_eq (tgt := 21) dX4_meet_4 rfl (fun q => absurd q (by decide)) (fun _ => ?_)
  refine bz_iload_n dX4_meet_7 rfl ?_
  refine bz_cS1I (z := 0) mv_X4_isSlot ws_X4_isSlot lk_X4_156 dX4_meet_8 (by exact m_isSlot ha) (by omega) rfl (Nat.le_of_ble_eq_true rfl) (Nat.le_of_ble_eq_true rfl) ?_
  refine bz_if_eq (tgt := 21) dX4_meet_11 rfl (fun q => absurd q (by decide)) (fun _ => ?_)
  refine bz_iload_n dX4_meet_14 rfl ?_
  refine bz_cS1I (z := 0) mv_X4_isSlot ws_X4_isSlot lk_X4_156 dX4_meet_15 (by exact m_isSlot hb) (by omega) rfl (Nat.le_of_ble_eq_true rfl) (Nat.le_of_ble_eq_true rfl) ?_
  refine bz_if_ne (tgt := 23) dX4_meet_18 rfl (fun _ => ?_) (fun q => absurd q (by decide))
  refine bz_aload_n dX4_meet_23 rfl ?_
  refine bz_iload_n dX4_meet_24 rfl ?_
  refine bz_cV1U (z := 1) mv_X4_layMet mi_X4_layMet lk_X4_183 dX4_meet_25 (by exact hV1) (by omega) rfl (by omega) rfl rfl rfl (Nat.le_of_ble_eq_true rfl) (Nat.le_of_ble_eq_true rfl) ?_
  refine bz_iconst dX4_meet_28 kc_iconst_0 ?_
  refine bz_ist4 dX4_meet_29 (by decide) rfl ?_
  refine bz_st (by rw [bz_setJ_id (bz_upto_0 _ (s1.1 68))]) (y_me_1 ?_ 30 0 rfl)
  refine bz_aload_n dX4_meet_58 rfl ?_
  refine bz_iload_n dX4_meet_59 rfl ?_
  refine bz_cV1U (z := 1) mv_X4_layMet mi_X4_layMet lk_X4_183 dX4_meet_60 (by exact hV3) (by omega) rfl (by omega) rfl rfl rfl (Nat.le_of_ble_eq_true rfl) (Nat.le_of_ble_eq_true rfl) ?_
  refine bz_aload_n dX4_meet_63 rfl ?_
  refine bz_cV0U (z := 1) mv_X4_clearWork mi_X4_clearWork lk_X4_159 dX4_meet_64 (by exact m_clearWork) (by omega) rfl (by omega) rfl rfl rfl (Nat.le_of_ble_eq_true rfl) (Nat.le_of_ble_eq_true rfl) ?_
  refine bz_iconst dX4_meet_67 kc_iconst_0 ?_
  refine bz_ist4 dX4_meet_68 (by decide) rfl ?_
  exact hV
end MC
