/-! the reference's constructor: layProduct, and all loops -/
def in5 (σ0 : bz_S) (a B0 : Nat) (σ : bz_S) : Prop := mz_T σ.2.1 ∧ σ.2 = σ0.2 ∧ (∀ k, k ≠ 58 → k ≠ 60 → σ.1 k = σ0.1 k) ∧ ∀ B, B < 4 → ∀ a', a' < 30 → ∀ b, b < 30 → mm σ B a' b = if a' < a ∨ (a' = a ∧ B < B0) then Int64.ofInt (mt_mem B a' b) else 0
theorem lp_idx {B a b B' a' b' : Nat} (ha : a < 30) (hb : b < 30) (ha' : a' < 30) (hb' : b' < 30) (h : 30 * (30 * B + a) + b = 30 * (30 * B' + a') + b') : B = B' ∧ a = a' ∧ b = b' := by omega
section C7
variable {l : Launch} {ad : Nat → Nat} {K : bz_K} {n : Nat} {σ σ' : bz_S}
theorem m_lp_rest (hT : mz_T σ.2.1) {B a ln last : Nat} (ha : a < 30) (hl1 : 1 ≤ ln) (hl : ln ≤ 6) {x7 : Option Value} (kk : ∀ x6, bz_V l ad K 73 mX4_layProduct 2 none σ' 68 [some (.ref (ad 54)), some (.int (nI B)), some (.int (nI a)), some (.int (nI ln)), some (.int (nI last)), some (.int (nI (rc_k a (ln - 1)))), x6, x7] [] σ) :
    ∀ (m k : Nat), k + m = ln - 1 → bz_V l ad K 73 mX4_layProduct 2 none σ' 39 [some (.ref (ad 54)), some (.int (nI B)), some (.int (nI a)), some (.int (nI ln)), some (.int (nI last)), some (.int (nI (rc_k a k))), some (.int (nI k)), x7] [] σ := by
  intro m
  induction m with
  | zero =>
    intro k hk
    obtain rfl : k = ln - 1 := by omega
    refine bz_iload dX4_layProduct_39 rfl ?_
    refine bz_iload_n dX4_layProduct_41 rfl ?_
    refine bz_iconst dX4_layProduct_42 kc_iconst_1 ?_
    refine bz_isubN dX4_layProduct_43 hl1 ?_
    refine bz_icmp_geN (tgt := 68) dX4_layProduct_44 rfl (by omega) (by omega) (fun _ => ?_) (fun q => absurd q (by omega))
    exact kk _
  | succ m ih =>
    intro k hk
    have hp := @xp_partlt a k
    refine bz_iload dX4_layProduct_39 rfl ?_
    refine bz_iload_n dX4_layProduct_41 rfl ?_
    refine bz_iconst dX4_layProduct_42 kc_iconst_1 ?_
    refine bz_isubN dX4_layProduct_43 hl1 ?_
    refine bz_icmp_geN (tgt := 68) dX4_layProduct_44 rfl (by omega) (by omega) (fun q => absurd q (by omega)) (fun _ => ?_)
    refine bz_iload dX4_layProduct_47 rfl ?_
    refine bz_aload_n dX4_layProduct_49 rfl ?_
    refine bz_iload_n dX4_layProduct_50 rfl ?_
    refine bz_iload dX4_layProduct_51 rfl ?_
    refine bz_cV2I (z := 0) mv_X4_partOf mi_X4_partOf lk_X4_91 dX4_layProduct_53 (by exact m_partOf hT ha (by omega)) (by omega) rfl (by omega) rfl rfl rfl (Nat.le_of_ble_eq_true rfl) (Nat.le_of_ble_eq_true rfl) ?_
    refine bz_cS1I (z := 0) mv_X4_key ws_X4_key lk_X4_87 dX4_layProduct_56 (by exact m_key (by omega)) (by omega) rfl (Nat.le_of_ble_eq_true rfl) (Nat.le_of_ble_eq_true rfl) ?_
    first | refine bz_iaddN dX4_layProduct_59 ?_ | refine bz_iadd dX4_layProduct_59 ?_
    refine bz_ist5 dX4_layProduct_60 (by decide) rfl ?_
    first | refine bz_iinc6N dX4_layProduct_62 (by decide) rfl ?_ | refine bz_iinc6 dX4_layProduct_62 rfl (by decide) rfl ?_
    refine bz_goto (tgt := 39) dX4_layProduct_65 rfl ?_
    exact ih (k + 1) (by omega)
theorem m_lp_single (hT : mz_T σ.2.1) {B a ln last rs : Nat} (hB : B < 4) (hla : last < 7) (kk : ∀ x7, bz_V l ad K 73 mX4_layProduct 2 none σ' 156 [some (.ref (ad 54)), some (.int (nI B)), some (.int (nI a)), some (.int (nI ln)), some (.int (nI last)), some (.int (nI rs)), some (.int (nI 30)), x7] [] (bz_setJ σ 60 (bz_upto (σ.1 60) (fun b => Int64.ofInt (lp_G B last b)) 30))) :
    ∀ (m b : Nat) (x7 : Option Value), b + m = 30 → bz_V l ad K 73 mX4_layProduct 2 none σ' 71 [some (.ref (ad 54)), some (.int (nI B)), some (.int (nI a)), some (.int (nI ln)), some (.int (nI last)), some (.int (nI rs)), some (.int (nI b)), x7] [] (bz_setJ σ 60 (bz_upto (σ.1 60) (fun b => Int64.ofInt (lp_G B last b)) b)) := by
  intro m
  induction m with
  | zero =>
    intro b x7 hb
    obtain rfl : b = 30 := by omega
    refine bz_iload dX4_layProduct_71 rfl ?_
    refine bz_bipush dX4_layProduct_73 kc_bipush_30 ?_
    refine bz_icmp_geN (tgt := 156) dX4_layProduct_75 rfl (by omega) (by omega) (fun _ => ?_) (fun q => absurd q (by omega))
    exact kk _
  | succ m ih =>
    intro b x7 hb
    have h30 : b < 30 := by omega
    have hd6 := xt_deg6 b h30
    have hp := @xp_partlt b 0
    have hl6 : xt_len b < 7 := (by decide : ∀ b, b < 30 → xt_len b < 7) b h30
    have tail : ∀ x : Nat, x = (if lp_is B last b then 1 else 0) → bz_V l ad K 73 mX4_layProduct 2 none σ' 131 [some (.ref (ad 54)), some (.int (nI B)), some (.int (nI a)), some (.int (nI ln)), some (.int (nI last)), some (.int (nI rs)), some (.int (nI b)), x7] [.int (nI x)] (bz_setJ σ 60 (bz_upto (σ.1 60) (fun b => Int64.ofInt (lp_G B last b)) b)) := by
      intro x hx
      refine bz_ist7 dX4_layProduct_131 (by decide) rfl ?_
      refine bz_aload_n dX4_layProduct_133 rfl ?_
      refine bz_getf fl_X4_26 dX4_layProduct_134 rfl rfl (by omega) ?_
      refine bz_iload dX4_layProduct_137 rfl ?_
      refine bz_iload dX4_layProduct_139 rfl ?_
      cases hi : lp_is B last b with
      | true =>
        rw [hi] at hx
        obtain rfl : x = 1 := by simpa using hx
        refine bz_if_eq (tgt := 148) dX4_layProduct_141 rfl (fun q => absurd q (by decide)) (fun _ => ?_)
        refine bz_lconst dX4_layProduct_144 kc_lconst_1 ?_
        refine bz_goto (tgt := 149) dX4_layProduct_145 rfl ?_
        refine bz_lastore dX4_layProduct_149 rfl (by omega) (by omega) ?_
        refine bz_st (σ2 := bz_setJ σ 60 (bz_upto (σ.1 60) (fun b => Int64.ofInt (lp_G B last b)) (b + 1))) (by rw [bz_upJ_set, bz_upto_s (F := fun b => Int64.ofInt (lp_G B last b)) (by show _ = Int64.ofInt (lp_G B last b); rw [lp_G, hi]; rfl)]) ?_
        first | refine bz_iinc6N dX4_layProduct_150 (by decide) rfl ?_ | refine bz_iinc6 dX4_layProduct_150 rfl (by decide) rfl ?_
        refine bz_goto (tgt := 71) dX4_layProduct_153 rfl ?_
        exact ih (b + 1) _ (by omega)
      | false =>
        rw [hi] at hx
        obtain rfl : x = 0 := by simpa using hx
        refine bz_if_eq (tgt := 148) dX4_layProduct_141 rfl (fun _ => ?_) (fun q => absurd (rfl) q)
        refine bz_lconst dX4_layProduct_148 kc_lconst_0 ?_
        refine bz_lastore dX4_layProduct_149 rfl (by omega) (by omega) ?_
        refine bz_st (σ2 := bz_setJ σ 60 (bz_upto (σ.1 60) (fun b => Int64.ofInt (lp_G B last b)) (b + 1))) (by rw [bz_upJ_set, bz_upto_s (F := fun b => Int64.ofInt (lp_G B last b)) (by show _ = Int64.ofInt (lp_G B last b); rw [lp_G, hi]; rfl)]) ?_
        first | refine bz_iinc6N dX4_layProduct_150 (by decide) rfl ?_ | refine bz_iinc6 dX4_layProduct_150 rfl (by decide) rfl ?_
        refine bz_goto (tgt := 71) dX4_layProduct_153 rfl ?_
        exact ih (b + 1) _ (by omega)
    have t1 : lp_is B last b = true → bz_V l ad K 73 mX4_layProduct 2 none σ' 126 [some (.ref (ad 54)), some (.int (nI B)), some (.int (nI a)), some (.int (nI ln)), some (.int (nI last)), some (.int (nI rs)), some (.int (nI b)), x7] [] (bz_setJ σ 60 (bz_upto (σ.1 60) (fun b => Int64.ofInt (lp_G B last b)) b)) := by
      intro h
      refine bz_iconst dX4_layProduct_126 kc_iconst_1 ?_
      refine bz_goto (tgt := 131) dX4_layProduct_127 rfl ?_
      exact tail 1 (by rw [h]; rfl)
    have t0 : lp_is B last b = false → bz_V l ad K 73 mX4_layProduct 2 none σ' 130 [some (.ref (ad 54)), some (.int (nI B)), some (.int (nI a)), some (.int (nI ln)), some (.int (nI last)), some (.int (nI rs)), some (.int (nI b)), x7] [] (bz_setJ σ 60 (bz_upto (σ.1 60) (fun b => Int64.ofInt (lp_G B last b)) b)) := by
      intro h
      refine bz_iconst dX4_layProduct_130 kc_iconst_0 ?_
      exact tail 0 (by rw [h]; rfl)
    refine bz_iload dX4_layProduct_71 rfl ?_
    refine bz_bipush dX4_layProduct_73 kc_bipush_30 ?_
    refine bz_icmp_geN (tgt := 156) dX4_layProduct_75 rfl (by omega) (by omega) (fun q => absurd q (by omega)) (fun _ => ?_)
    refine bz_aload_n dX4_layProduct_78 rfl ?_
    refine bz_getf fl_X4_13 dX4_layProduct_79 rfl rfl (by omega) ?_
    refine bz_iload dX4_layProduct_82 rfl ?_
    refine bz_iaload dX4_layProduct_84 rfl (by omega) (by omega) ?_
    refine bz_topi (y := nI (xt_deg b)) (hT.2.1 b h30) ?_
    refine bz_iload dX4_layProduct_85 rfl ?_
    have t3 : xt_deg b = last → B ≠ 2 → ¬ (B = 1 ∧ xp_part b 0 = 1) → bz_V l ad K 73 mX4_layProduct 2 none σ' 111 [some (.ref (ad 54)), some (.int (nI B)), some (.int (nI a)), some (.int (nI ln)), some (.int (nI last)), some (.int (nI rs)), some (.int (nI b)), x7] [] (bz_setJ σ 60 (bz_upto (σ.1 60) (fun b => Int64.ofInt (lp_G B last b)) b)) := by
      intro h1 h2 h3
      refine bz_iload_n dX4_layProduct_111 rfl ?_
      refine bz_iconst dX4_layProduct_112 kc_iconst_3 ?_
      refine bz_icmp_neN (tgt := 130) dX4_layProduct_113 rfl (by omega) (by omega) (fun h4 => ?_) (fun h4 => ?_)
      · refine t0 ?_
        simp [lp_is, h2, h4]
        intro _ q1 q2
        exact h3 ⟨q1, q2⟩
      · refine bz_aload_n dX4_layProduct_116 rfl ?_
        refine bz_iload dX4_layProduct_117 rfl ?_
        refine bz_cV1I (z := 2) mv_X4_lengthOf mi_X4_lengthOf lk_X4_94 dX4_layProduct_119 (by exact m_lengthOf (by exact hT) h30) (by omega) rfl (by omega) rfl rfl rfl (Nat.le_of_ble_eq_true rfl) (Nat.le_of_ble_eq_true rfl) ?_
        refine bz_iconst dX4_layProduct_122 kc_iconst_1 ?_
        refine bz_icmp_neN (tgt := 130) dX4_layProduct_123 rfl (by omega) (by omega) (fun h5 => ?_) (fun h5 => ?_)
        · refine t0 ?_
          simp [lp_is, h2, h5]
          intro _ q1 q2
          exact h3 ⟨q1, q2⟩
        · refine t1 ?_
          simp [lp_is, h1, h4, h5]
    refine bz_icmp_neN (tgt := 130) dX4_layProduct_87 rfl (by omega) (by omega) (fun h1 => ?_) (fun h1 => ?_)
    · refine t0 ?_
      simp [lp_is, h1]
    · refine bz_iload_n dX4_layProduct_90 rfl ?_
      refine bz_iconst dX4_layProduct_91 kc_iconst_2 ?_
      refine bz_icmp_eqN (tgt := 126) dX4_layProduct_92 rfl (by omega) (by omega) (fun h2 => ?_) (fun h2 => ?_)
      · refine t1 ?_
        simp [lp_is, h1, h2]
      · refine bz_iload_n dX4_layProduct_95 rfl ?_
        refine bz_iconst dX4_layProduct_96 kc_iconst_1 ?_
        refine bz_icmp_neN (tgt := 111) dX4_layProduct_97 rfl (by omega) (by omega) (fun h3 => ?_) (fun h3 => ?_)
        · exact t3 h1 h2 (fun q => h3 q.1)
        · refine bz_aload_n dX4_layProduct_100 rfl ?_
          refine bz_iload dX4_layProduct_101 rfl ?_
          refine bz_iconst dX4_layProduct_103 kc_iconst_0 ?_
          refine bz_cV2I (z := 0) mv_X4_partOf mi_X4_partOf lk_X4_91 dX4_layProduct_104 (by exact m_partOf (by exact hT) h30 (by omega)) (by omega) rfl (by omega) rfl rfl rfl (Nat.le_of_ble_eq_true rfl) (Nat.le_of_ble_eq_true rfl) ?_
          refine bz_iconst dX4_layProduct_107 kc_iconst_1 ?_
          refine bz_icmp_eqN (tgt := 126) dX4_layProduct_108 rfl (by omega) (by omega) (fun h4 => ?_) (fun h4 => ?_)
          · refine t1 ?_
            simp [lp_is, h1, h3, h4]
          · exact t3 h1 h2 (fun q => h4 q.2)
theorem m_layProduct {σ0 : bz_S} {a B : Nat} (ha : a < 30) (hB0 : 1 ≤ B) (hB : B < 4) (h : in5 σ0 a B σ) :
    ∃ σ', in5 σ0 a (B + 1) σ' ∧ bz_V l ad K 73 mX4_layProduct 2 none σ' 0 [some (.ref (ad 54)), some (.int (nI B)), some (.int (nI a)), none, none, none, none, none] [] σ := by
  obtain ⟨hT, h2, h3, h4⟩ := h
  cases a with
  | zero =>
    refine ⟨bz_upJ σ 58 (30 * (30 * B + 0) + 0) 1, ⟨hT, h2, fun k k1 k2 => ?_, fun B' hB' a' ha' b hb => ?_⟩, ?_⟩
    · rw [← h3 k k1 k2]
      simp [bz_upJ, k1]
    · have h5 := h4 B' hB' a' ha' b hb
      show (bz_upJ σ 58 (30 * (30 * B + 0) + 0) 1).1 58 (30 * (30 * B' + a') + b) = _
      simp only [bz_upJ, if_true, vp_updL]
      by_cases e : 30 * (30 * B' + a') + b = 30 * (30 * B + 0) + 0
      · obtain ⟨e1, e2, e3⟩ := lp_idx ha' hb (by decide) (by decide) e
        subst e1 e2 e3
        rw [if_pos rfl, if_pos (by omega), lp_b0 _ hB 0 (by decide)]
        rfl
      · rw [if_neg e]
        show mm σ B' a' b = _
        rw [h5]
        by_cases q : a' = 0 ∧ B' = B
        · obtain ⟨q1, q2⟩ := q
          subst q1 q2
          rw [if_neg (by omega), if_pos (by omega), lp_b0 _ hB b hb, if_neg (by omega)]
          rfl
        · by_cases q3 : a' < 0 ∨ a' = 0 ∧ B' < B
          · rw [if_pos q3, if_pos (by omega)]
          · rw [if_neg q3, if_neg (by omega)]
    · refine bz_aload_n dX4_layProduct_0 rfl ?_
      refine bz_iload_n dX4_layProduct_1 rfl ?_
      refine bz_cV1I (z := 2) mv_X4_lengthOf mi_X4_lengthOf lk_X4_94 dX4_layProduct_2 (by exact m_lengthOf hT (by decide)) (by omega) rfl (by omega) rfl rfl rfl (Nat.le_of_ble_eq_true rfl) (Nat.le_of_ble_eq_true rfl) ?_
      refine bz_ist3 dX4_layProduct_5 (by decide) rfl ?_
      refine bz_iload_n dX4_layProduct_6 rfl ?_
      refine bz_if_ne (tgt := 23) dX4_layProduct_7 rfl (fun q => absurd (by decide) q) (fun _ => ?_)
      refine bz_aload_n dX4_layProduct_10 rfl ?_
      refine bz_getf fl_X4_19 dX4_layProduct_11 rfl rfl (by omega) ?_
      refine bz_iload_n dX4_layProduct_14 rfl ?_
      refine bz_iload_n dX4_layProduct_15 rfl ?_
      refine bz_iconst dX4_layProduct_16 kc_iconst_0 ?_
      refine bz_cS3I (z := 0) mv_X4_at ws_X4_at lk_X4_75 dX4_layProduct_17 (by exact m_at) (by omega) rfl (Nat.le_of_ble_eq_true rfl) (Nat.le_of_ble_eq_true rfl) ?_
      refine bz_lconst dX4_layProduct_20 kc_lconst_1 ?_
      refine bz_lastore dX4_layProduct_21 rfl (by omega) (by omega) ?_
      refine bz_vret dX4_layProduct_22 rfl rfl
  | succ a =>
    obtain ⟨f1, f2, f3, f4⟩ := lp_facts a (by omega)
    have hpl : lp_last (a + 1) < 7 := xp_partlt
    let G : Nat → Int64 := fun b => Int64.ofInt (lp_G B (lp_last (a + 1)) b)
    let F : Nat → Int64 := fun b => Int64.ofInt (mt_mem B (lp_par (a + 1)) b)
    let τ := bz_setJ σ 60 (bz_upto (σ.1 60) G 30)
    have hτ58 : τ.1 58 = σ.1 58 := bz_setJ_ne (by decide)
    have hmul := m_multiply (l := l) (ad := ad) (K := K) (σ := τ) (kf := 58) (kg := 60) (kt := 58) (lf := 4500) (lg := 30) (lt := 4500) (fF := 30 * (30 * B + lp_par (a + 1)) + 0) (fG := 0) (fT := 30 * (30 * B + (a + 1)) + 0) (F := F) (G := G) (by exact hT) rfl rfl rfl (by decide) (by decide) (by decide) (by omega) (by decide) (by omega) (fun i hi => by
        rw [hτ58]
        have := h4 B hB (lp_par (a + 1)) (by omega) i hi
        rw [if_pos (Or.inl f3)] at this
        exact this) (fun i hi => by
        show (bz_setJ σ 60 _).1 60 (0 + i) = _
        rw [bz_setJ_at, Nat.zero_add, bz_upto_lt hi]) (Or.inr (Or.inl (by omega))) (Or.inl (by decide))
    refine ⟨bz_setJ τ 58 (mt_up (τ.1 58) (30 * (30 * B + (a + 1)) + 0) (mt_s F G) 30), ⟨hT, h2, fun k k1 k2 => ?_, fun B' hB' a' ha' b hb => ?_⟩, ?_⟩
    · rw [bz_setJ_ne k1]
      show (bz_setJ σ 60 _).1 k = _
      rw [bz_setJ_ne k2]
      exact h3 k k1 k2
    · show (bz_setJ τ 58 _).1 58 (30 * (30 * B' + a') + b) = _
      rw [bz_setJ_at]
      by_cases e : B' = B ∧ a' = a + 1
      · obtain ⟨e1, e2⟩ := e
        subst e1 e2
        rw [Nat.add_zero, mt_up_in hb, if_pos (by omega), mt_s_ofInt (f := mt_mem B' (lp_par (a + 1))) (g := lp_G B' (lp_last (a + 1))) (fun i => rfl) (fun i => rfl)]
        have := lp_all (B' - 1) (by omega) a (by omega) b hb
        rw [show B' - 1 + 1 = B' by omega] at this
        rw [this]
      · rw [mt_up_out (by omega), hτ58]
        have h5 := h4 B' hB' a' ha' b hb
        show mm σ B' a' b = _
        rw [h5]
        by_cases q : a' < a + 1 ∨ a' = a + 1 ∧ B' < B
        · rw [if_pos q, if_pos (by omega)]
        · rw [if_neg q, if_neg (by omega)]
    · have hlt7 : xt_len (a + 1) < 2 ^ 31 := by omega
      refine bz_aload_n dX4_layProduct_0 rfl ?_
      refine bz_iload_n dX4_layProduct_1 rfl ?_
      refine bz_cV1I (z := 2) mv_X4_lengthOf mi_X4_lengthOf lk_X4_94 dX4_layProduct_2 (by exact m_lengthOf hT ha) (by omega) rfl (by omega) rfl rfl rfl (Nat.le_of_ble_eq_true rfl) (Nat.le_of_ble_eq_true rfl) ?_
      refine bz_ist3 dX4_layProduct_5 (by decide) rfl ?_
      refine bz_iload_n dX4_layProduct_6 rfl ?_
      refine bz_if_ne (tgt := 23) dX4_layProduct_7 rfl (fun _ => ?_) (fun q => absurd q (nI_ne0 (by omega) (by omega)))
      refine bz_aload_n dX4_layProduct_23 rfl ?_
      refine bz_iload_n dX4_layProduct_24 rfl ?_
      refine bz_iload_n dX4_layProduct_25 rfl ?_
      refine bz_iconst dX4_layProduct_26 kc_iconst_1 ?_
      refine bz_isubN dX4_layProduct_27 f1 ?_
      refine bz_cV2I (z := 0) mv_X4_partOf mi_X4_partOf lk_X4_91 dX4_layProduct_28 (by exact m_partOf (k := xt_len (a + 1) - 1) hT ha (by omega)) (by omega) rfl (by omega) rfl rfl rfl (Nat.le_of_ble_eq_true rfl) (Nat.le_of_ble_eq_true rfl) ?_
      refine bz_ist4 dX4_layProduct_31 (by decide) rfl ?_
      refine bz_iconst dX4_layProduct_33 kc_iconst_0 ?_
      refine bz_ist5 dX4_layProduct_34 (by decide) rfl ?_
      refine bz_iconst dX4_layProduct_36 kc_iconst_0 ?_
      refine bz_ist6 dX4_layProduct_37 (by decide) rfl ?_
      refine m_lp_rest hT ha f1 f2 (fun x6 => ?_) (xt_len (a + 1) - 1) 0 (by omega)
      refine bz_iconst dX4_layProduct_68 kc_iconst_0 ?_
      refine bz_ist6 dX4_layProduct_69 (by decide) rfl ?_
      refine bz_st (σ2 := bz_setJ σ 60 (bz_upto (σ.1 60) G 0)) (by rw [bz_upto_0]; exact (bz_setJ_id rfl).symm) ?_
      refine m_lp_single hT hB hpl (fun x7 => ?_) 30 0 _ rfl
      refine bz_aload_n dX4_layProduct_156 rfl ?_
      refine bz_aload_n dX4_layProduct_157 rfl ?_
      refine bz_getf fl_X4_19 dX4_layProduct_158 rfl rfl (by omega) ?_
      refine bz_iload_n dX4_layProduct_161 rfl ?_
      refine bz_aload_n dX4_layProduct_162 rfl ?_
      refine bz_getf fl_X4_16 dX4_layProduct_163 rfl rfl (by omega) ?_
      refine bz_iload dX4_layProduct_166 rfl ?_
      refine bz_iaload dX4_layProduct_168 rfl (by omega) (by omega) ?_
      refine bz_topi (y := nI (lp_par (a + 1))) (hT.2.2 _ f4) ?_
      refine bz_iconst dX4_layProduct_169 kc_iconst_0 ?_
      refine bz_cS3I (z := 0) mv_X4_at ws_X4_at lk_X4_75 dX4_layProduct_170 (by exact m_at) (by omega) rfl (Nat.le_of_ble_eq_true rfl) (Nat.le_of_ble_eq_true rfl) ?_
      refine bz_aload_n dX4_layProduct_173 rfl ?_
      refine bz_getf fl_X4_26 dX4_layProduct_174 rfl rfl (by omega) ?_
      refine bz_iconst dX4_layProduct_177 kc_iconst_0 ?_
      refine bz_aload_n dX4_layProduct_178 rfl ?_
      refine bz_getf fl_X4_19 dX4_layProduct_179 rfl rfl (by omega) ?_
      refine bz_iload_n dX4_layProduct_182 rfl ?_
      refine bz_iload_n dX4_layProduct_183 rfl ?_
      refine bz_iconst dX4_layProduct_184 kc_iconst_0 ?_
      refine bz_cS3I (z := 0) mv_X4_at ws_X4_at lk_X4_75 dX4_layProduct_185 (by exact m_at) (by omega) rfl (Nat.le_of_ble_eq_true rfl) (Nat.le_of_ble_eq_true rfl) ?_
      refine bz_cV6U (z := 10) mv_X4_multiply mi_X4_multiply lk_X4_97 dX4_layProduct_188 (by exact hmul) (by omega) rfl (by omega) rfl rfl rfl (Nat.le_of_ble_eq_true rfl) (Nat.le_of_ble_eq_true rfl) ?_
      refine bz_vret dX4_layProduct_191 rfl rfl
theorem m_all_loop {σ0 : bz_S} : ∀ (m a : Nat) (σ : bz_S) (x3 : Option Value), a + m = 30 → in5 σ0 a 0 σ → ∃ σ', in5 σ0 30 0 σ' ∧ bz_V l ad K 73 mX4_init 4 none σ' 201 [some (.ref (ad 54)), some (.int (nI 30)), some (.int (nI a)), x3] [] σ := by
  intro m
  induction m with
  | zero =>
    intro a σ x3 ha h
    obtain rfl : a = 30 := by omega
    refine ⟨σ, h, ?_⟩
    refine bz_iload_n dX4_init_201 rfl ?_
    refine bz_bipush dX4_init_202 kc_bipush_30 ?_
    refine bz_icmp_geN (tgt := 243) dX4_init_204 rfl (by omega) (by omega) (fun _ => ?_) (fun q => absurd q (by omega))
    refine bz_vret dX4_init_243 rfl rfl
  | succ m ih =>
    intro a σ x3 ha h
    have h30 : a < 30 := by omega
    obtain ⟨hT, h2, h3, h4⟩ := h
    have hs1 : in5 σ0 a 1 (bz_upJ σ 58 (30 * (30 * 0 + a) + a) 1) := ⟨hT, h2, fun k k1 k2 => by
        rw [← h3 k k1 k2]
        simp [bz_upJ, k1], fun B' hB' a' ha' b hb => by
        have h5 := h4 B' hB' a' ha' b hb
        show (bz_upJ σ 58 (30 * (30 * 0 + a) + a) 1).1 58 (30 * (30 * B' + a') + b) = _
        simp only [bz_upJ, if_true, vp_updL]
        by_cases e : 30 * (30 * B' + a') + b = 30 * (30 * 0 + a) + a
        · obtain ⟨e1, e2, e3⟩ := lp_idx ha' hb h30 h30 e
          subst e1 e2 e3
          rw [if_pos rfl, if_pos (by omega), lp_m0 _ h30 _ h30, if_pos rfl]
          rfl
        · rw [if_neg e]
          show mm σ B' a' b = _
          rw [h5]
          by_cases q : a' = a ∧ B' = 0
          · obtain ⟨q1, q2⟩ := q
            subst q1 q2
            rw [if_neg (by omega), if_pos (by omega), lp_m0 _ h30 b hb, if_neg (by omega)]
            rfl
          · by_cases q3 : a' < a ∨ a' = a ∧ B' < 0
            · rw [if_pos q3, if_pos (by omega)]
            · rw [if_neg q3, if_neg (by omega)]⟩
    obtain ⟨σ1, i1, v1⟩ := m_layProduct (l := l) (ad := ad) (K := K) (B := 1) h30 (by decide) (by decide) hs1
    obtain ⟨σ2, i2, v2⟩ := m_layProduct (l := l) (ad := ad) (K := K) (B := 2) h30 (by decide) (by decide) i1
    obtain ⟨σ3, i3, v3⟩ := m_layProduct (l := l) (ad := ad) (K := K) (B := 3) h30 (by decide) (by decide) i2
    have i4 : in5 σ0 (a + 1) 0 σ3 := ⟨i3.1, i3.2.1, i3.2.2.1, fun B' hB' a' ha' b hb => by
      rw [i3.2.2.2 B' hB' a' ha' b hb]
      by_cases q : a' < a ∨ a' = a ∧ B' < 3 + 1
      · rw [if_pos q, if_pos (by omega)]
      · rw [if_neg q, if_neg (by omega)]⟩
    obtain ⟨σ', hP, hV⟩ := ih (a + 1) σ3 x3 (by omega) i4
    refine ⟨σ', hP, ?_⟩
    refine bz_iload_n dX4_init_201 rfl ?_
    refine bz_bipush dX4_init_202 kc_bipush_30 ?_
    refine bz_icmp_geN (tgt := 243) dX4_init_204 rfl (by omega) (by omega) (fun q => absurd q (by omega)) (fun _ => ?_)
    refine bz_aload_n dX4_init_207 rfl ?_
    refine bz_getf fl_X4_19 dX4_init_208 rfl rfl (by omega) ?_
    refine bz_iconst dX4_init_211 kc_iconst_0 ?_
    refine bz_iload_n dX4_init_212 rfl ?_
    refine bz_iload_n dX4_init_213 rfl ?_
    refine bz_cS3I (z := 0) mv_X4_at ws_X4_at lk_X4_75 dX4_init_214 (by exact m_at) (by omega) rfl (Nat.le_of_ble_eq_true rfl) (Nat.le_of_ble_eq_true rfl) ?_
    refine bz_lconst dX4_init_217 kc_lconst_1 ?_
    refine bz_lastore dX4_init_218 rfl (by omega) (by omega) ?_
    refine bz_aload_n dX4_init_219 rfl ?_
    refine bz_iconst dX4_init_220 kc_iconst_1 ?_
    refine bz_iload_n dX4_init_221 rfl ?_
    refine bz_cV2U (z := 5) mv_X4_layProduct mi_X4_layProduct lk_X4_79 dX4_init_222 (by exact v1) (by omega) rfl (by omega) rfl rfl rfl (Nat.le_of_ble_eq_true rfl) (Nat.le_of_ble_eq_true rfl) ?_
    refine bz_aload_n dX4_init_225 rfl ?_
    refine bz_iconst dX4_init_226 kc_iconst_2 ?_
    refine bz_iload_n dX4_init_227 rfl ?_
    refine bz_cV2U (z := 5) mv_X4_layProduct mi_X4_layProduct lk_X4_79 dX4_init_228 (by exact v2) (by omega) rfl (by omega) rfl rfl rfl (Nat.le_of_ble_eq_true rfl) (Nat.le_of_ble_eq_true rfl) ?_
    refine bz_aload_n dX4_init_231 rfl ?_
    refine bz_iconst dX4_init_232 kc_iconst_3 ?_
    refine bz_iload_n dX4_init_233 rfl ?_
    refine bz_cV2U (z := 5) mv_X4_layProduct mi_X4_layProduct lk_X4_79 dX4_init_234 (by exact v3) (by omega) rfl (by omega) rfl rfl rfl (Nat.le_of_ble_eq_true rfl) (Nat.le_of_ble_eq_true rfl) ?_
    first | refine bz_iinc2N dX4_init_237 (by decide) rfl ?_ | refine bz_iinc2 dX4_init_237 rfl (by decide) rfl ?_
    refine bz_goto (tgt := 201) dX4_init_240 rfl ?_
    exact hV
/-- the reference's constructor behind its allocation -/
theorem m_init_all (h57 : ∀ i, i < 672 → σ.2.1 57 i = 0) (h58 : ∀ i, i < 4500 → σ.1 58 i = 0) :
    ∃ σ', (mz_T σ'.2.1 ∧ mz_M σ' ∧ σ'.2.2 = σ.2.2 ∧ (∀ k, k ≠ 58 → k ≠ 60 → σ'.1 k = σ.1 k) ∧ ∀ k, k ≠ 55 → k ≠ 56 → k ≠ 57 → σ'.2.1 k = σ.2.1 k) ∧ bz_V l ad K 73 mX4_init 4 none σ' 152 [some (.ref (ad 54)), none, none, none] [] σ := by
  obtain ⟨σ', hP, hV⟩ := m_deg_loop (l := l) (ad := ad) (K := K) (σ0 := σ) (P := fun σ' => mz_T σ'.2.1 ∧ mz_M σ' ∧ σ'.2.2 = σ.2.2 ∧ (∀ k, k ≠ 58 → k ≠ 60 → σ'.1 k = σ.1 k) ∧ ∀ k, k ≠ 55 → k ≠ 56 → k ≠ 57 → σ'.2.1 k = σ.2.1 k) (fun σ1 x3 h1 => by
      obtain ⟨g1, g2, g3, g4, g5, g6⟩ := h1
      have hT : mz_T σ1.2.1 := ⟨fun i hi => g4 i (by omega), fun i hi => g5 i hi, fun i hi => by rw [g6 i hi, rc_bk_ok i hi]⟩
      obtain ⟨σ', hP, hV⟩ := m_all_loop (l := l) (ad := ad) (K := K) (σ0 := σ1) 30 0 σ1 x3 rfl ⟨hT, rfl, fun _ _ _ => rfl, fun B hB a ha b hb => by
        rw [if_neg (by omega)]
        show σ1.1 58 _ = 0
        rw [g1]
        exact h58 _ (by omega)⟩
      refine ⟨σ', ⟨hP.1, fun B hB a ha b hb => ?_, by rw [hP.2.1, g2], fun k k1 k2 => by rw [hP.2.2.1 k k1 k2, g1], fun k k1 k2 k3 => by rw [hP.2.1]; exact g3 k k1 k2 k3⟩, ?_⟩
      · rw [hP.2.2.2 B hB a ha b hb, if_pos (Or.inl ha), cm, if_neg (by omega)]
      · refine bz_iconst dX4_init_199 kc_iconst_0 ?_
        refine bz_ist2 dX4_init_200 (by decide) rfl ?_
        exact hV) 7 0 σ none rfl ⟨rfl, rfl, fun _ _ _ _ => rfl, fun i hi => absurd hi (by show ¬ i < 6 * 0; omega), fun i hi => absurd hi (by show ¬ i < 0; omega), fun i hi => by rw [h57 i hi]; rfl⟩
  refine ⟨σ', hP, ?_⟩
  refine bz_iconst dX4_init_152 kc_iconst_0 ?_
  refine bz_ist1 dX4_init_153 (by decide) rfl ?_
  refine bz_iconst dX4_init_154 kc_iconst_0 ?_
  refine bz_ist2 dX4_init_155 (by decide) rfl ?_
  exact hV
end C7
