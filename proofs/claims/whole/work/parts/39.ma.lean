/-! the reference: turn, strip, meet -/
/-- rows 66 and 67 alone have changed -/
def bz_mw (σ σ2 : bz_S) : Prop := σ2.2 = σ.2 ∧ ∀ j, j ≠ 66 → j ≠ 67 → σ2.1 j = σ.1 j
theorem bz_mw_rf (σ : bz_S) : bz_mw σ σ := ⟨rfl, fun _ _ _ => rfl⟩
theorem bz_mw_tr {a b c : bz_S} (h2 : bz_mw b c) (h1 : bz_mw a b) : bz_mw a c := ⟨h2.1.trans h1.1, fun j q1 q2 => (h2.2 j q1 q2).trans (h1.2 j q1 q2)⟩
theorem bz_mw_set {σ : bz_S} {k : Nat} {f : Nat → Int64} (h : k = 66 ∨ k = 67) : bz_mw σ (bz_setJ σ k f) := ⟨rfl, fun j q1 q2 => bz_setJ_ne (by omega)⟩
theorem bz_mw_mr {σ σ2 : bz_S} (h : bz_mw σ σ2) (hF : fl_F σ) : bz_mr σ σ2 := ⟨fun j q => h.2 j (by omega) (by omega), fun i _ => by rw [h.2 58 (by omega) (by omega)], fun j _ _ => by rw [h.1], fl_F_eq (h.2 58 (by omega) (by omega)) (by rw [h.1]) hF⟩
/-- behind adding a member -/
def am_s (σ : bz_S) (B a : Nat) (t : Int64) : bz_S := bz_setJ σ 66 (bz_upto (σ.1 66) (fun b => σ.1 66 b + t * mm σ B a b) 30)
theorem am_s_66 {σ : bz_S} {B a : Nat} {t : Int64} {j : Nat} (hj : j < 30) : (am_s σ B a t).1 66 j = σ.1 66 j + t * mm σ B a j := by
  unfold am_s
  rw [bz_setJ_at, bz_upto_lt hj]
section MB
variable {l : Launch} {ad : Nat → Nat} {K : bz_K} {σ σ0 σ' : bz_S} {r : Option Value}
theorem y_tu_loop {to a : Nat} {F : Nat → Int64} {s0 : bz_S} (ht : to < 8) (hr0 : bz_mr σ s0) (hM : mz_M s0) (hF : ∀ j, j < 30 → s0.1 64 j = F j) :
    ∀ (m c : Nat) (S : bz_S), c + m = 30 → bz_mw s0 S → (∀ b, b < 30 → S.1 66 b = zsum (fun c => F c * cm 2 c b) 0 c) → ∃ σ2, bz_V l ad K 73 mX4_turn 5 (some (.int (hz_r (fun b => zsum (fun c => F c * cm 2 c b) 0 30)))) σ2 35 [some (.ref (ad 54)), some (.int (nI to)), some (.int (nI a)), some (.int (nI c))] [] S ∧ bz_mk σ σ2 to (fun b => zsum (fun c => F c * cm 2 c b) 0 30) := by
  intro m
  induction m with
  | zero =>
    intro c S hc hw hs
    obtain rfl : c = 30 := by omega
    obtain ⟨σ2, hV, hk⟩ := m_keepR (l := l) (ad := ad) (K := K) (σ0 := σ) (σ := S) ht (bz_mr_tr (bz_mw_mr hw hr0.2.2.2) hr0) hs
    refine ⟨σ2, ?_, hk⟩
    refine bz_iload_n dX4_turn_35 rfl ?_
    refine bz_bipush dX4_turn_36 kc_bipush_30 ?_
    refine bz_icmp_geN (tgt := 59) dX4_turn_38 rfl (by omega) (by omega) (fun _ => ?_) (fun q => absurd q (by omega))
    refine bz_aload_n dX4_turn_59 rfl ?_
    refine bz_iload_n dX4_turn_60 rfl ?_
    refine bz_cV1I (z := 1) mv_X4_keep mi_X4_keep lk_X4_165 dX4_turn_61 (by exact hV) (by omega) rfl (by omega) rfl rfl rfl (Nat.le_of_ble_eq_true rfl) (Nat.le_of_ble_eq_true rfl) ?_
    refine bz_iret dX4_turn_64 rfl rfl rfl
  | succ m ih =>
    intro c S hc hw hs
    have e58 : S.1 58 = s0.1 58 := hw.2 58 (by omega) (by omega)
    obtain ⟨σ2, hV, hk⟩ := ih (c + 1) (am_s S 2 c (F c)) (by omega) (bz_mw_tr (bz_mw_set (by omega)) hw) (fun b hb => by
      rw [am_s_66 hb, hs b hb, zsum_succ, Nat.zero_add, show mm S 2 c b = cm 2 c b by unfold mm; rw [e58]; exact hM 2 (by omega) c (by omega) b hb])
    refine ⟨σ2, ?_, hk⟩
    refine bz_iload_n dX4_turn_35 rfl ?_
    refine bz_bipush dX4_turn_36 kc_bipush_30 ?_
    refine bz_icmp_geN (tgt := 59) dX4_turn_38 rfl (by omega) (by omega) (fun q => absurd q (by omega)) (fun _ => ?_)
    refine bz_aload_n dX4_turn_41 rfl ?_
    refine bz_iconst dX4_turn_42 kc_iconst_2 ?_
    refine bz_iload_n dX4_turn_43 rfl ?_
    refine bz_aload_n dX4_turn_44 rfl ?_
    refine bz_getf fl_X4_38 dX4_turn_45 rfl rfl (by omega) ?_
    refine bz_iload_n dX4_turn_48 rfl ?_
    refine bz_laload dX4_turn_49 rfl (by omega) (by omega) ?_
    refine bz_topl (y := F c) (by rw [hw.2 64 (by omega) (by omega)]; exact hF c (by omega)) ?_
    refine bz_cV3U (z := 1) mv_X4_addMember mi_X4_addMember lk_X4_162 dX4_turn_50 (by exact m_addMember (by omega) (show c < 30 by omega)) (by omega) rfl (by omega) rfl rfl rfl (Nat.le_of_ble_eq_true rfl) (Nat.le_of_ble_eq_true rfl) ?_
    first | refine bz_iinc3N dX4_turn_53 (by decide) rfl ?_ | refine bz_iinc3 dX4_turn_53 rfl (by decide) rfl ?_
    refine bz_goto (tgt := 35) dX4_turn_56 rfl ?_
    exact hV
theorem y_turn {to a : Nat} {F : Nat → Int64} (hT : mz_T σ.2.1) (hM : mz_M σ) (hFl : fl_F σ) (ht : to < 8) (ha : a < 8) (hF : fc_from 1 (fun j => σ.1 59 (30 * a + j)) F) : ∃ σ2, bz_V l ad K 73 mX4_turn 5 (some (.int (hz_r (fun b => zsum (fun c => F c * cm 2 c b) 0 30)))) σ2 0 [some (.ref (ad 54)), some (.int (nI to)), some (.int (nI a)), none] [] σ ∧ bz_mk σ σ2 to (fun b => zsum (fun c => F c * cm 2 c b) 0 30) := by
  obtain ⟨s1, hV1, hl1, h1, _⟩ := m_layFound (l := l) (ad := ad) (K := K) (base := 1) (kf := 59) (lf := 240) (fF := 30 * a) hT hM hFl (by omega) rfl (by omega) (by omega) (by omega) (fun _ _ => rfl) hF
  obtain ⟨σ2, hV, hk⟩ := y_tu_loop (l := l) (ad := ad) (K := K) (σ := σ) (a := a) (s0 := s1) ht (bz_mr_lf hl1) (mM_lf hl1.2.1 hM) h1 30 0 (bz_setJ s1 66 (bz_upto (s1.1 66) (fun _ => 0) 30)) rfl (bz_mw_set (by omega)) (fun b hb => by rw [bz_setJ_at, bz_upto_lt hb]; rfl)
  refine ⟨σ2, ?_, hk⟩
  refine bz_iload_n dX4_turn_0 rfl ?_
  refine bz_cS1I (z := 0) mv_X4_isSlot ws_X4_isSlot lk_X4_156 dX4_turn_1 (by exact m_isSlot ht) (by omega) rfl (Nat.le_of_ble_eq_true rfl) (Nat.le_of_ble_eq_true rfl) ?_
  refine bz_if_eq (tgt := 14) dX4_turn_4 rfl (fun q => absurd q (by decide)) (fun _ => ?_)
  refine bz_iload_n dX4_turn_7 rfl ?_
  refine bz_cS1I (z := 0) mv_X4_isSlot ws_X4_isSlot lk_X4_156 dX4_turn_8 (by exact m_isSlot ha) (by omega) rfl (Nat.le_of_ble_eq_true rfl) (Nat.le_of_ble_eq_true rfl) ?_
  refine bz_if_ne (tgt := 16) dX4_turn_11 rfl (fun _ => ?_) (fun q => absurd q (by decide))
  refine bz_aload_n dX4_turn_16 rfl ?_
  refine bz_aload_n dX4_turn_17 rfl ?_
  refine bz_getf fl_X4_23 dX4_turn_18 rfl rfl (by omega) ?_
  refine bz_bipush dX4_turn_21 kc_bipush_30 ?_
  refine bz_iload_n dX4_turn_23 rfl ?_
  first | refine bz_imulN dX4_turn_24 ?_ | refine bz_imul dX4_turn_24 ?_
  refine bz_iconst dX4_turn_25 kc_iconst_1 ?_
  refine bz_cV3U (z := 1) mv_X4_layFound mi_X4_layFound lk_X4_144 dX4_turn_26 (by exact hV1) (by omega) rfl (by omega) rfl rfl rfl (Nat.le_of_ble_eq_true rfl) (Nat.le_of_ble_eq_true rfl) ?_
  refine bz_aload_n dX4_turn_29 rfl ?_
  refine bz_cV0U (z := 1) mv_X4_clearWork mi_X4_clearWork lk_X4_159 dX4_turn_30 (by exact m_clearWork) (by omega) rfl (by omega) rfl rfl rfl (Nat.le_of_ble_eq_true rfl) (Nat.le_of_ble_eq_true rfl) ?_
  refine bz_iconst dX4_turn_33 kc_iconst_0 ?_
  refine bz_ist3 dX4_turn_34 (by decide) rfl ?_
  exact hV
theorem y_turn_1 {x1 x2 : Int32} (h : x1 < 0 ∨ nI 8 ≤ x1) : bz_V l ad K 73 mX4_turn 5 (some (.int (-1))) σ 0 [some (.ref (ad 54)), some (.int x1), some (.int x2), none] [] σ := by
  refine bz_iload_n dX4_turn_0 rfl ?_
  refine bz_cS1I (z := 0) mv_X4_isSlot ws_X4_isSlot lk_X4_156 dX4_turn_1 (by exact m_isSlotF h) (by omega) rfl (Nat.le_of_ble_eq_true rfl) (Nat.le_of_ble_eq_true rfl) ?_
  refine bz_if_eq (tgt := 14) dX4_turn_4 rfl (fun _ => ?_) (fun q => absurd (by decide) q)
  refine bz_iconst dX4_turn_14 kc_iconst_m1 ?_
  refine bz_iret dX4_turn_15 rfl rfl rfl
theorem y_turn_2 {a : Nat} {x2 : Int32} (ha : a < 8) (h : x2 < 0 ∨ nI 8 ≤ x2) : bz_V l ad K 73 mX4_turn 5 (some (.int (-1))) σ 0 [some (.ref (ad 54)), some (.int (nI a)), some (.int x2), none] [] σ := by
  refine bz_iload_n dX4_turn_0 rfl ?_
  refine bz_cS1I (z := 0) mv_X4_isSlot ws_X4_isSlot lk_X4_156 dX4_turn_1 (by exact m_isSlot ha) (by omega) rfl (Nat.le_of_ble_eq_true rfl) (Nat.le_of_ble_eq_true rfl) ?_
  refine bz_if_eq (tgt := 14) dX4_turn_4 rfl (fun q => absurd q (by decide)) (fun _ => ?_)
  refine bz_iload_n dX4_turn_7 rfl ?_
  refine bz_cS1I (z := 0) mv_X4_isSlot ws_X4_isSlot lk_X4_156 dX4_turn_8 (by exact m_isSlotF h) (by omega) rfl (Nat.le_of_ble_eq_true rfl) (Nat.le_of_ble_eq_true rfl) ?_
  refine bz_if_ne (tgt := 16) dX4_turn_11 rfl (fun q => absurd (by decide) q) (fun _ => ?_)
  refine bz_iconst dX4_turn_14 kc_iconst_m1 ?_
  refine bz_iret dX4_turn_15 rfl rfl rfl
/-- strip: the scalar of a times s(c), and b -/
def sp_m (A F : Nat → Int64) (c : Nat) : Int64 := zsum (fun d => F d * mt_s A (fun j => cm 4 c j) d) 0 30
def sp_r (A F : Nat → Int64) (b : Nat) : Int64 := zsum (fun c => sp_m A F c * cm 4 c b) 0 30
theorem y_sp_in {x1 x2 x3 : Int32} {c : Nat} {T : Int64} (kk : bz_V l ad K 73 mX4_strip 6 r σ' 117 [some (.ref (ad 54)), some (.int x1), some (.int x2), some (.int x3), some (.int (nI c)), some (.long T), none, some (.int (nI 30))] [] σ) :
    ∀ (m d : Nat) (acc : Int64), d + m = 30 → acc + zsum (fun d => σ.1 64 d * σ.1 67 d) d m = T → bz_V l ad K 73 mX4_strip 6 r σ' 84 [some (.ref (ad 54)), some (.int x1), some (.int x2), some (.int x3), some (.int (nI c)), some (.long acc), none, some (.int (nI d))] [] σ := by
  intro m
  induction m with
  | zero =>
    intro d acc hd hs
    obtain rfl : d = 30 := by omega
    obtain rfl := zsum_end hs
    refine bz_iload dX4_strip_84 rfl ?_
    refine bz_bipush dX4_strip_86 kc_bipush_30 ?_
    refine bz_icmp_geN (tgt := 117) dX4_strip_88 rfl (by omega) (by omega) (fun _ => ?_) (fun q => absurd q (by omega))
    exact kk
  | succ m ih =>
    intro d acc hd hs
    have hs2 := zsum_step hs
    refine bz_iload dX4_strip_84 rfl ?_
    refine bz_bipush dX4_strip_86 kc_bipush_30 ?_
    refine bz_icmp_geN (tgt := 117) dX4_strip_88 rfl (by omega) (by omega) (fun q => absurd q (by omega)) (fun _ => ?_)
    refine bz_lload dX4_strip_91 rfl ?_
    refine bz_aload_n dX4_strip_93 rfl ?_
    refine bz_getf fl_X4_38 dX4_strip_94 rfl rfl (by omega) ?_
    refine bz_iload dX4_strip_97 rfl ?_
    refine bz_laload dX4_strip_99 rfl (by omega) (by omega) ?_
    refine bz_aload_n dX4_strip_100 rfl ?_
    refine bz_getf fl_X4_47 dX4_strip_101 rfl rfl (by omega) ?_
    refine bz_iload dX4_strip_104 rfl ?_
    refine bz_laload dX4_strip_106 rfl (by omega) (by omega) ?_
    refine bz_lmul dX4_strip_107 ?_
    refine bz_ladd dX4_strip_108 ?_
    refine bz_lst5 dX4_strip_109 (by decide) rfl ?_
    first | refine bz_iinc7N dX4_strip_111 (by decide) rfl ?_ | refine bz_iinc7 dX4_strip_111 rfl (by decide) rfl ?_
    refine bz_goto (tgt := 84) dX4_strip_114 rfl ?_
    exact ih (d + 1) _ (by omega) hs2
theorem y_sp_loop {to a b : Nat} {A F : Nat → Int64} {s0 : bz_S} (hT : mz_T s0.2.1) (ht : to < 8) (ha : a < 8) (hr0 : bz_mr σ s0) (hD : fl_D s0 30 0) (hA : ∀ j, j < 30 → s0.1 59 (30 * a + j) = A j) (hF : ∀ j, j < 30 → s0.1 64 j = F j) :
    ∀ (m c : Nat) (S : bz_S) (x5 x6 x7 : Option Value), c + m = 30 → bz_mw s0 S → (∀ b, b < 30 → S.1 66 b = zsum (fun c => sp_m A F c * cm 4 c b) 0 c) → ∃ σ2, bz_V l ad K 73 mX4_strip 6 (some (.int (hz_r (sp_r A F)))) σ2 43 [some (.ref (ad 54)), some (.int (nI to)), some (.int (nI a)), some (.int (nI b)), some (.int (nI c)), x5, x6, x7] [] S ∧ bz_mk σ σ2 to (sp_r A F) := by
  intro m
  induction m with
  | zero =>
    intro c S x5 x6 x7 hc hw hs
    obtain rfl : c = 30 := by omega
    obtain ⟨σ2, hV, hk⟩ := m_keepR (l := l) (ad := ad) (K := K) (σ0 := σ) (σ := S) (R := sp_r A F) ht (bz_mr_tr (bz_mw_mr hw hr0.2.2.2) hr0) hs
    refine ⟨σ2, ?_, hk⟩
    refine bz_iload dX4_strip_43 rfl ?_
    refine bz_bipush dX4_strip_45 kc_bipush_30 ?_
    refine bz_icmp_geN (tgt := 132) dX4_strip_47 rfl (by omega) (by omega) (fun _ => ?_) (fun q => absurd q (by omega))
    refine bz_aload_n dX4_strip_132 rfl ?_
    refine bz_iload_n dX4_strip_133 rfl ?_
    refine bz_cV1I (z := 1) mv_X4_keep mi_X4_keep lk_X4_165 dX4_strip_134 (by exact hV) (by omega) rfl (by omega) rfl rfl rfl (Nat.le_of_ble_eq_true rfl) (Nat.le_of_ble_eq_true rfl) ?_
    refine bz_iret dX4_strip_137 rfl rfl rfl
  | succ m ih =>
    intro c S x5 x6 x7 hc hw hs
    have h30 : c < 30 := by omega
    have e58 : S.1 58 = s0.1 58 := hw.2 58 (by omega) (by omega)
    have hTS : mz_T S.2.1 := by rw [hw.1]; exact hT
    have hmu := m_multiply (l := l) (ad := ad) (K := K) (σ := S) (kf := 59) (lf := 240) (fF := 30 * a) (kg := 58) (lg := 4500) (fG := 30 * (30 * 4 + c) + 0) (kt := 67) (lt := 30) (fT := 0) (F := A) (G := fun j => cm 4 c j) hTS rfl rfl rfl (by omega) (by omega) (by omega) (by omega) (by omega) (by omega) (fun i hi => by rw [hw.2 59 (by omega) (by omega)]; exact hA i hi) (fun i hi => by rw [e58, Nat.add_zero]; exact cm_4 hD h30 hi) (by omega) (by omega)
    generalize hS2 : bz_setJ S 67 (mt_up (S.1 67) 0 (mt_s A (fun j => cm 4 c j)) 30) = S2 at hmu
    have hw2 : bz_mw s0 S2 := by rw [← hS2]; exact bz_mw_tr (bz_mw_set (by omega)) hw
    have h67 : ∀ j, j < 30 → S2.1 67 j = mt_s A (fun j => cm 4 c j) j := fun j hj => by
      rw [← hS2, bz_setJ_at]
      have := mt_up_in (f := S.1 67) (t := 0) (R := mt_s A (fun j => cm 4 c j)) hj
      rw [Nat.zero_add] at this
      exact this
    have h66 : S2.1 66 = S.1 66 := by rw [← hS2, bz_setJ_ne (by omega)]
    have e582 : S2.1 58 = s0.1 58 := hw2.2 58 (by omega) (by omega)
    obtain ⟨σ2, hV, hk⟩ := ih (c + 1) (am_s S2 4 c (sp_m A F c)) (some (.long (sp_m A F c))) none (some (.int (nI 30))) (by omega) (bz_mw_tr (bz_mw_set (by omega)) hw2) (fun b hb => by
      rw [am_s_66 hb, h66, hs b hb, zsum_succ, Nat.zero_add, show mm S2 4 c b = cm 4 c b by unfold mm; rw [e582]; exact cm_4 hD h30 hb])
    refine ⟨σ2, ?_, hk⟩
    refine bz_iload dX4_strip_43 rfl ?_
    refine bz_bipush dX4_strip_45 kc_bipush_30 ?_
    refine bz_icmp_geN (tgt := 132) dX4_strip_47 rfl (by omega) (by omega) (fun q => absurd q (by omega)) (fun _ => ?_)
    refine bz_aload_n dX4_strip_50 rfl ?_
    refine bz_aload_n dX4_strip_51 rfl ?_
    refine bz_getf fl_X4_23 dX4_strip_52 rfl rfl (by omega) ?_
    refine bz_bipush dX4_strip_55 kc_bipush_30 ?_
    refine bz_iload_n dX4_strip_57 rfl ?_
    first | refine bz_imulN dX4_strip_58 ?_ | refine bz_imul dX4_strip_58 ?_
    refine bz_aload_n dX4_strip_59 rfl ?_
    refine bz_getf fl_X4_19 dX4_strip_60 rfl rfl (by omega) ?_
    refine bz_iconst dX4_strip_63 kc_iconst_4 ?_
    refine bz_iload dX4_strip_64 rfl ?_
    refine bz_iconst dX4_strip_66 kc_iconst_0 ?_
    refine bz_cS3I (z := 0) mv_X4_at ws_X4_at lk_X4_75 dX4_strip_67 (by exact m_at) (by omega) rfl (Nat.le_of_ble_eq_true rfl) (Nat.le_of_ble_eq_true rfl) ?_
    refine bz_aload_n dX4_strip_70 rfl ?_
    refine bz_getf fl_X4_47 dX4_strip_71 rfl rfl (by omega) ?_
    refine bz_iconst dX4_strip_74 kc_iconst_0 ?_
    refine bz_cV6U (z := 10) mv_X4_multiply mi_X4_multiply lk_X4_97 dX4_strip_75 (by exact hmu) (by omega) rfl (by omega) rfl rfl rfl (Nat.le_of_ble_eq_true rfl) (Nat.le_of_ble_eq_true rfl) ?_
    refine bz_lconst dX4_strip_78 kc_lconst_0 ?_
    refine bz_lst5 dX4_strip_79 (by decide) rfl ?_
    refine bz_iconst dX4_strip_81 kc_iconst_0 ?_
    refine bz_ist7 dX4_strip_82 (by decide) rfl ?_
    refine y_sp_in (T := sp_m A F c) ?_ 30 0 0 rfl ?_
    · refine bz_aload_n dX4_strip_117 rfl ?_
      refine bz_iconst dX4_strip_118 kc_iconst_4 ?_
      refine bz_iload dX4_strip_119 rfl ?_
      refine bz_lload dX4_strip_121 rfl ?_
      refine bz_cV3U (z := 1) mv_X4_addMember mi_X4_addMember lk_X4_162 dX4_strip_123 (by exact m_addMember (by omega) h30) (by omega) rfl (by omega) rfl rfl rfl (Nat.le_of_ble_eq_true rfl) (Nat.le_of_ble_eq_true rfl) ?_
      first | refine bz_iinc4N dX4_strip_126 (by decide) rfl ?_ | refine bz_iinc4 dX4_strip_126 rfl (by decide) rfl ?_
      refine bz_goto (tgt := 43) dX4_strip_129 rfl ?_
      exact hV
    · rw [Int64.zero_add]
      unfold sp_m
      exact zsum_congr _ _ (fun i _ hi => by rw [h67 i (by omega), hw2.2 64 (by omega) (by omega), hF i (by omega)])
end MB
