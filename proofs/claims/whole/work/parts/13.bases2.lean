/-! conjugate, fill, fromWeights, toWeights -/
theorem xt_conj2 : ∀ i, i < 30 → xt_conj (xt_conj i) = i := by decide +kernel
def bz_cj (f x : Nat → Int64) (a : Nat) : Nat → Int64 := fun j => if j < 30 ∧ xt_conj j < a then x (xt_conj j) else f j
theorem bz_cj_0 (f x : Nat → Int64) : bz_cj f x 0 = f := by
  funext j
  simp [bz_cj]
theorem bz_cj_30 (f x : Nat → Int64) : bz_cj f x 30 = bz_upto f (fun j => x (xt_conj j)) 30 := by
  funext j
  unfold bz_cj bz_upto
  by_cases h : j < 30
  · simp [h, xt_conj30 j h]
  · simp [h]
theorem bz_cj_s {f x : Nat → Int64} {a : Nat} (ha : a < 30) : vp_updL (bz_cj f x a) (xt_conj a) (x a) = bz_cj f x (a + 1) := by
  funext j
  unfold vp_updL bz_cj
  by_cases e : j = xt_conj a
  · subst e
    simp [xt_conj2 a ha, xt_conj30 a ha]
  · rw [if_neg e]
    by_cases h : j < 30
    · have hne : xt_conj j ≠ a := fun q => e (by rw [← q, xt_conj2 j h])
      by_cases q : xt_conj j < a
      · simp [h, q, Nat.lt_succ_of_lt q]
      · simp [h, q, show ¬ xt_conj j < a + 1 by omega]
    · simp [h]
section BB
variable {l : Launch} {ad : Nat → Nat} {K : bz_K} {σ σ' : bz_S} {kx ky : Nat} {r : Option Value}
theorem t_cj_out (hx : bz_sh kx = (1, 30, 0, [])) (hy : bz_sh ky = (1, 30, 0, [])) (hkx : kx < 73) (hky : ky < 73) (hne : kx ≠ ky) (hT : pz_T σ.2.1) :
    ∀ (m a : Nat) (x4 : Option Value), a + m = 30 → bz_V l ad K 73 mX0_conjugate 1 none (bz_setJ σ ky (bz_upto (σ.1 ky) (fun j => σ.1 kx (xt_conj j)) 30)) 2 [some (.ref (ad 9)), some (.ref (ad kx)), some (.ref (ad ky)), some (.int (nI a)), x4] [] (bz_setJ σ ky (bz_cj (σ.1 ky) (σ.1 kx) a)) := by
  intro m
  induction m with
  | zero =>
    intro a x4 ha
    obtain rfl : a = 30 := by omega
    refine bz_iload_n dX0_conjugate_2 rfl ?_
    refine bz_bipush dX0_conjugate_3 kc_bipush_30 ?_
    refine bz_icmp_geN (tgt := 40) dX0_conjugate_5 rfl (by omega) (by omega) (fun _ => ?_) (fun q => absurd q (by omega))
    refine bz_vret dX0_conjugate_40 rfl (by rw [bz_cj_30])
  | succ m ih =>
    intro a x4 ha
    have h30 : a < 30 := by omega
    have hc := xt_conj30 a h30
    refine bz_iload_n dX0_conjugate_2 rfl ?_
    refine bz_bipush dX0_conjugate_3 kc_bipush_30 ?_
    refine bz_icmp_geN (tgt := 40) dX0_conjugate_5 rfl (by omega) (by omega) (fun q => absurd q (by omega)) (fun _ => ?_)
    refine bz_aload_n dX0_conjugate_8 rfl ?_
    refine bz_getf fl_X0_18 dX0_conjugate_9 rfl rfl (by omega) ?_
    refine bz_getf fl_X0_79 dX0_conjugate_12 rfl rfl (by omega) ?_
    refine bz_iload_n dX0_conjugate_15 rfl ?_
    refine bz_iaload dX0_conjugate_16 rfl (by omega) (by omega) ?_
    refine bz_topi (hT.2.2.2.1 a h30) ?_
    refine bz_ist4 dX0_conjugate_17 (by decide) rfl ?_
    refine bz_iload dX0_conjugate_19 rfl ?_
    refine bz_cSN1I (z := 0) mv_X3_isPartition ws_X3_isPartition lk_X0_82 dX0_conjugate_21 (by exact t_isPart hc) (by omega) rfl (Nat.le_of_ble_eq_true rfl) (Nat.le_of_ble_eq_true rfl) ?_
    refine bz_if_eq (tgt := 34) dX0_conjugate_24 rfl (fun q => absurd q (by decide)) (fun _ => ?_)
    refine bz_aload_n dX0_conjugate_27 rfl ?_
    refine bz_iload dX0_conjugate_28 rfl ?_
    refine bz_aload_n dX0_conjugate_30 rfl ?_
    refine bz_iload_n dX0_conjugate_31 rfl ?_
    refine bz_laload dX0_conjugate_32 hx (by omega) h30 ?_
    refine bz_topl (y := σ.1 kx a) (by rw [bz_setJ_ne hne]) ?_
    refine bz_lastore dX0_conjugate_33 hy (by omega) hc ?_
    first | refine bz_iinc3N dX0_conjugate_34 (by decide) rfl ?_ | refine bz_iinc3 dX0_conjugate_34 rfl (by decide) rfl ?_
    refine bz_goto (tgt := 2) dX0_conjugate_37 rfl ?_
    refine bz_st (by rw [bz_upJ_set, bz_cj_s h30]) ?_
    exact ih (a + 1) _ (by omega)
theorem t_cj (hx : bz_sh kx = (1, 30, 0, [])) (hy : bz_sh ky = (1, 30, 0, [])) (hkx : kx < 73) (hky : ky < 73) (hne : kx ≠ ky) (hT : pz_T σ.2.1) : bz_V l ad K 73 mX0_conjugate 1 none (bz_setJ σ ky (bz_upto (σ.1 ky) (fun j => σ.1 kx (xt_conj j)) 30)) 0 [some (.ref (ad 9)), some (.ref (ad kx)), some (.ref (ad ky)), none, none] [] σ := by
  refine bz_iconst dX0_conjugate_0 kc_iconst_0 ?_
  refine bz_ist3 dX0_conjugate_1 (by decide) rfl ?_
  refine bz_st (by rw [bz_setJ_id (bz_cj_0 _ _)]) (t_cj_out hx hy hkx hky hne hT 30 0 none rfl)
theorem t_fill_out {x : Int64} (hy : bz_sh ky = (1, 30, 0, [])) (hky : ky < 73) :
    ∀ (m a : Nat), a + m = 30 → bz_V l ad K 73 mJ7_fill_d0a16 0 none (bz_setJ σ ky (bz_upto (σ.1 ky) (fun _ => x) 30)) 6 [some (.ref (ad ky)), some (.long x), none, some (.int (nI a)), some (.int (nI 30))] [] (bz_setJ σ ky (bz_upto (σ.1 ky) (fun _ => x) a)) := by
  intro m
  induction m with
  | zero =>
    intro a ha
    obtain rfl : a = 30 := by omega
    refine bz_iload_n dJ7_fill_d0a16_6 rfl ?_
    refine bz_iload dJ7_fill_d0a16_7 rfl ?_
    refine bz_icmp_geN (tgt := 22) dJ7_fill_d0a16_9 rfl (by omega) (by omega) (fun _ => ?_) (fun q => absurd q (by omega))
    refine bz_vret dJ7_fill_d0a16_22 rfl rfl
  | succ m ih =>
    intro a ha
    have h30 : a < 30 := by omega
    refine bz_iload_n dJ7_fill_d0a16_6 rfl ?_
    refine bz_iload dJ7_fill_d0a16_7 rfl ?_
    refine bz_icmp_geN (tgt := 22) dJ7_fill_d0a16_9 rfl (by omega) (by omega) (fun q => absurd q (by omega)) (fun _ => ?_)
    refine bz_aload_n dJ7_fill_d0a16_12 rfl ?_
    refine bz_iload_n dJ7_fill_d0a16_13 rfl ?_
    refine bz_lload_n dJ7_fill_d0a16_14 rfl ?_
    refine bz_lastore dJ7_fill_d0a16_15 hy (by omega) h30 ?_
    first | refine bz_iinc3N dJ7_fill_d0a16_16 (by decide) rfl ?_ | refine bz_iinc3 dJ7_fill_d0a16_16 rfl (by decide) rfl ?_
    refine bz_goto (tgt := 6) dJ7_fill_d0a16_19 rfl ?_
    refine bz_st (by rw [bz_upJ_set, bz_upto_s rfl]) ?_
    exact ih (a + 1) (by omega)
theorem t_fill {x : Int64} (hy : bz_sh ky = (1, 30, 0, [])) (hky : ky < 73) : bz_V l ad K 73 mJ7_fill_d0a16 0 none (bz_setJ σ ky (bz_upto (σ.1 ky) (fun _ => x) 30)) 0 [some (.ref (ad ky)), some (.long x), none, none, none] [] σ := by
  refine bz_iconst dJ7_fill_d0a16_0 kc_iconst_0 ?_
  refine bz_ist3 dJ7_fill_d0a16_1 (by decide) rfl ?_
  refine bz_aload_n dJ7_fill_d0a16_2 rfl ?_
  refine bz_alen dJ7_fill_d0a16_3 hy (by omega) ?_
  refine bz_ist4 dJ7_fill_d0a16_4 (by decide) rfl ?_
  refine bz_st (by rw [bz_setJ_id (bz_upto_0 _ (fun _ => x))]) (t_fill_out hy hky 30 0 rfl)
/-- what changes: rows 10, 11 and ky alone -/
def bz_fw (σ σ2 : bz_S) (ky : Nat) : Prop := σ2.2 = σ.2 ∧ ∀ j, j ≠ 10 → j ≠ 11 → j ≠ ky → σ2.1 j = σ.1 j
/-- numbers before the s(a), out of weights -/
def ba_S (σ : bz_S) (w S : Nat → Int64) : Prop := ∀ b, b < 30 → S b = w b - zsum (fun a => S a * ba_K σ a b) (xt_start b) (b - xt_start b)
def ba_P (σ : bz_S) (S F : Nat → Int64) : Prop := ∀ b, b < 30 → F b = zsum (fun i => S i * ba_X σ i b) (xt_start b) (xt_end b - xt_start b) * (nI (720 / xt_z b)).toInt64
def ba_H (σ : bz_S) (S F : Nat → Int64) : Prop := ∀ b, b < 30 → F b = S b - zsum (fun i => F i * ba_K σ b i) (b + 1) (xt_end b - (b + 1))
/-- fromWeights by a base: what F is -/
def ba_from (σ : bz_S) (base : Nat) (w F : Nat → Int64) : Prop := match base with
  | 0 => ∀ b, b < 30 → F b = w b
  | 1 => ∃ S, ba_S σ w S ∧ ba_H σ (fun j => S (xt_conj j)) F
  | 2 => ∃ S, ba_S σ w S ∧ ba_H σ S F
  | 3 => ∃ S, ba_S σ w S ∧ ba_P σ S F
  | _ => ba_S σ w F
theorem ba_zc {σ σ2 : bz_S} {f g h : Nat → Int64} {s m : Nat} (hm : s + m ≤ 30) (h2 : σ2.2 = σ.2) (hf : ∀ j, j < 30 → f j = g j) (t : bz_S → Nat → Int64) (ht : t σ2 = t σ) : zsum (fun i => f i * t σ2 i) s m = zsum (fun i => g i * t σ i) s m :=
  zsum_congr _ _ (fun i h1 h3 => by rw [hf i (by omega), ht])
theorem ba_K_eq {σ σ2 : bz_S} (h : σ2.2 = σ.2) : ba_K σ2 = ba_K σ := by
  unfold ba_K
  rw [h]
theorem ba_X_eq {σ σ2 : bz_S} (h : σ2.2 = σ.2) : ba_X σ2 = ba_X σ := by
  unfold ba_X
  rw [h]
theorem t_fromW {base : Nat} {F : Nat → Int64} (hbase : base < 5) (hx : bz_sh kx = (1, 30, 0, [])) (hy : bz_sh ky = (1, 30, 0, [])) (hkx : kx < 73) (hky : ky < 73) (hne : kx ≠ ky) (hx10 : kx ≠ 10) (hx11 : kx ≠ 11) (hy10 : ky ≠ 10) (hy11 : ky ≠ 11) (hT : pz_T σ.2.1) (hF : ba_from σ base (σ.1 kx) F) :
    ∃ σ2, bz_V l ad K 73 mX0_fromWeights 3 none σ2 0 [some (.ref (ad 9)), some (.int (nI base)), some (.ref (ad kx)), some (.ref (ad ky))] [] σ ∧ bz_fw σ σ2 ky ∧ ∀ j, j < 30 → σ2.1 ky j = F j := by
  have h10 : bz_sh 10 = (1, 30, 0, []) := rfl
  have h11 : bz_sh 11 = (1, 30, 0, []) := rfl
  match base, hbase, hF with
  | 0, _, hF =>
    refine ⟨bz_setJ σ ky (fun j => if j < 30 then σ.1 kx j else σ.1 ky j), ?_, ⟨rfl, fun j _ _ h => bz_setJ_ne h⟩, fun j hj => by rw [bz_setJ_at, hF j hj]; simp [hj]⟩
    refine bz_iload_n dX0_fromWeights_0 rfl ?_
    refine bz_if_ne (tgt := 14) dX0_fromWeights_1 rfl (fun q => absurd (by decide) q) (fun _ => ?_)
    refine bz_aload_n dX0_fromWeights_4 rfl ?_
    refine bz_iconst dX0_fromWeights_5 kc_iconst_0 ?_
    refine bz_aload_n dX0_fromWeights_6 rfl ?_
    refine bz_iconst dX0_fromWeights_7 kc_iconst_0 ?_
    refine bz_bipush dX0_fromWeights_8 kc_bipush_30 ?_
    refine bz_copy lk_X0_22 wac_n wac_s wi_java_lang_System (by omega) dX0_fromWeights_10 hx hy (by omega) (by omega) (Nat.le_of_ble_eq_true rfl) ?_
    refine bz_vret dX0_fromWeights_13 rfl rfl
  | 1, _, hF =>
    obtain ⟨S, hS, hF⟩ := hF
    refine ⟨bz_setJ (bz_setJ (bz_setJ σ 10 (bz_upto (σ.1 10) S 30)) 11 (bz_upto (σ.1 11) (fun j => bz_upto (σ.1 10) S 30 (xt_conj j)) 30)) ky (bz_upto (σ.1 ky) F 30), ?_, ⟨rfl, fun j h1 h2 h => by rw [bz_setJ_ne h, bz_setJ_ne h2, bz_setJ_ne h1]⟩, fun j hj => by rw [bz_setJ_at, bz_upto_lt hj]⟩
    refine bz_iload_n dX0_fromWeights_0 rfl ?_
    refine bz_if_ne (tgt := 14) dX0_fromWeights_1 rfl (fun _ => ?_) (fun q => absurd q (by decide))
    refine bz_aload_n dX0_fromWeights_14 rfl ?_
    refine bz_aload_n dX0_fromWeights_15 rfl ?_
    refine bz_aload_n dX0_fromWeights_16 rfl ?_
    refine bz_getf fl_X0_9 dX0_fromWeights_17 rfl rfl (by omega) ?_
    refine bz_cV2U (z := 4) mv_X0_weightsToTableaux mi_X0_weightsToTableaux lk_X0_28 dX0_fromWeights_20 (by exact t_wT hx h10 hkx (by omega) hx10 (by exact hT) hS) (by omega) rfl (by omega) rfl rfl rfl (Nat.le_of_ble_eq_true rfl) (Nat.le_of_ble_eq_true rfl) ?_
    refine bz_iload_n dX0_fromWeights_23 rfl ?_
    refine bz_iconst dX0_fromWeights_24 kc_iconst_1 ?_
    refine bz_icmp_ne (tgt := 52) dX0_fromWeights_25 rfl (fun q => absurd (by decide) q) (fun _ => ?_)
    refine bz_aload_n dX0_fromWeights_28 rfl ?_
    refine bz_aload_n dX0_fromWeights_29 rfl ?_
    refine bz_getf fl_X0_9 dX0_fromWeights_30 rfl rfl (by omega) ?_
    refine bz_aload_n dX0_fromWeights_33 rfl ?_
    refine bz_getf fl_X0_15 dX0_fromWeights_34 rfl rfl (by omega) ?_
    refine bz_cV2U (z := 2) mv_X0_conjugate mi_X0_conjugate lk_X0_32 dX0_fromWeights_37 (by exact t_cj h10 h11 (by omega) (by omega) (by omega) (by exact hT)) (by omega) rfl (by omega) rfl rfl rfl (Nat.le_of_ble_eq_true rfl) (Nat.le_of_ble_eq_true rfl) ?_
    refine bz_st (σ2 := bz_setJ (bz_setJ σ 10 (bz_upto (σ.1 10) S 30)) 11 (bz_upto (σ.1 11) (fun j => bz_upto (σ.1 10) S 30 (xt_conj j)) 30)) (by rw [bz_setJ_at, bz_setJ_ne (by omega)]) ?_
    refine bz_aload_n dX0_fromWeights_40 rfl ?_
    refine bz_aload_n dX0_fromWeights_41 rfl ?_
    refine bz_getf fl_X0_15 dX0_fromWeights_42 rfl rfl (by omega) ?_
    refine bz_aload_n dX0_fromWeights_45 rfl ?_
    refine bz_cV2U (z := 4) mv_X0_tableauxToCompletes mi_X0_tableauxToCompletes lk_X0_35 dX0_fromWeights_46 (by exact t_tC (F := F) h11 hy (by omega) hky (fun q => hy11 q.symm) (by exact hT) (fun b hb => by have hse := xt_se b hb; have hc := xt_conj30 b hb; rw [hF b hb, bz_setJ_at, bz_upto_lt hb, bz_upto_lt hc]; rfl)) (by omega) rfl (by omega) rfl rfl rfl (Nat.le_of_ble_eq_true rfl) (Nat.le_of_ble_eq_true rfl) ?_
    refine bz_goto (tgt := 98) dX0_fromWeights_49 rfl ?_
    refine bz_vret dX0_fromWeights_98 rfl ?_
    rw [bz_setJ_ne hy11, bz_setJ_ne hy10]
  | 2, _, hF =>
    obtain ⟨S, hS, hF⟩ := hF
    refine ⟨bz_setJ (bz_setJ σ 10 (bz_upto (σ.1 10) S 30)) ky (bz_upto (σ.1 ky) F 30), ?_, ⟨rfl, fun j h1 h2 h => by rw [bz_setJ_ne h, bz_setJ_ne h1]⟩, fun j hj => by rw [bz_setJ_at, bz_upto_lt hj]⟩
    refine bz_iload_n dX0_fromWeights_0 rfl ?_
    refine bz_if_ne (tgt := 14) dX0_fromWeights_1 rfl (fun _ => ?_) (fun q => absurd q (by decide))
    refine bz_aload_n dX0_fromWeights_14 rfl ?_
    refine bz_aload_n dX0_fromWeights_15 rfl ?_
    refine bz_aload_n dX0_fromWeights_16 rfl ?_
    refine bz_getf fl_X0_9 dX0_fromWeights_17 rfl rfl (by omega) ?_
    refine bz_cV2U (z := 4) mv_X0_weightsToTableaux mi_X0_weightsToTableaux lk_X0_28 dX0_fromWeights_20 (by exact t_wT hx h10 hkx (by omega) hx10 (by exact hT) hS) (by omega) rfl (by omega) rfl rfl rfl (Nat.le_of_ble_eq_true rfl) (Nat.le_of_ble_eq_true rfl) ?_
    refine bz_iload_n dX0_fromWeights_23 rfl ?_
    refine bz_iconst dX0_fromWeights_24 kc_iconst_1 ?_
    refine bz_icmp_ne (tgt := 52) dX0_fromWeights_25 rfl (fun _ => ?_) (fun q => absurd q (by decide))
    refine bz_iload_n dX0_fromWeights_52 rfl ?_
    refine bz_iconst dX0_fromWeights_53 kc_iconst_2 ?_
    refine bz_icmp_ne (tgt := 69) dX0_fromWeights_54 rfl (fun q => absurd (by decide) q) (fun _ => ?_)
    refine bz_aload_n dX0_fromWeights_57 rfl ?_
    refine bz_aload_n dX0_fromWeights_58 rfl ?_
    refine bz_getf fl_X0_9 dX0_fromWeights_59 rfl rfl (by omega) ?_
    refine bz_aload_n dX0_fromWeights_62 rfl ?_
    refine bz_cV2U (z := 4) mv_X0_tableauxToCompletes mi_X0_tableauxToCompletes lk_X0_35 dX0_fromWeights_63 (by exact t_tC (F := F) h10 hy (by omega) hky (fun q => hy10 q.symm) (by exact hT) (fun b hb => by rw [hF b hb, bz_setJ_at, bz_upto_lt hb]; rfl)) (by omega) rfl (by omega) rfl rfl rfl (Nat.le_of_ble_eq_true rfl) (Nat.le_of_ble_eq_true rfl) ?_
    refine bz_goto (tgt := 98) dX0_fromWeights_66 rfl ?_
    refine bz_vret dX0_fromWeights_98 rfl ?_
    rw [bz_setJ_ne hy10]
  | 3, _, hF =>
    obtain ⟨S, hS, hF⟩ := hF
    refine ⟨bz_setJ (bz_setJ σ 10 (bz_upto (σ.1 10) S 30)) ky (bz_upto (σ.1 ky) F 30), ?_, ⟨rfl, fun j h1 h2 h => by rw [bz_setJ_ne h, bz_setJ_ne h1]⟩, fun j hj => by rw [bz_setJ_at, bz_upto_lt hj]⟩
    refine bz_iload_n dX0_fromWeights_0 rfl ?_
    refine bz_if_ne (tgt := 14) dX0_fromWeights_1 rfl (fun _ => ?_) (fun q => absurd q (by decide))
    refine bz_aload_n dX0_fromWeights_14 rfl ?_
    refine bz_aload_n dX0_fromWeights_15 rfl ?_
    refine bz_aload_n dX0_fromWeights_16 rfl ?_
    refine bz_getf fl_X0_9 dX0_fromWeights_17 rfl rfl (by omega) ?_
    refine bz_cV2U (z := 4) mv_X0_weightsToTableaux mi_X0_weightsToTableaux lk_X0_28 dX0_fromWeights_20 (by exact t_wT hx h10 hkx (by omega) hx10 (by exact hT) hS) (by omega) rfl (by omega) rfl rfl rfl (Nat.le_of_ble_eq_true rfl) (Nat.le_of_ble_eq_true rfl) ?_
    refine bz_iload_n dX0_fromWeights_23 rfl ?_
    refine bz_iconst dX0_fromWeights_24 kc_iconst_1 ?_
    refine bz_icmp_ne (tgt := 52) dX0_fromWeights_25 rfl (fun _ => ?_) (fun q => absurd q (by decide))
    refine bz_iload_n dX0_fromWeights_52 rfl ?_
    refine bz_iconst dX0_fromWeights_53 kc_iconst_2 ?_
    refine bz_icmp_ne (tgt := 69) dX0_fromWeights_54 rfl (fun _ => ?_) (fun q => absurd q (by decide))
    refine bz_iload_n dX0_fromWeights_69 rfl ?_
    refine bz_iconst dX0_fromWeights_70 kc_iconst_3 ?_
    refine bz_icmp_ne (tgt := 86) dX0_fromWeights_71 rfl (fun q => absurd (by decide) q) (fun _ => ?_)
    refine bz_aload_n dX0_fromWeights_74 rfl ?_
    refine bz_aload_n dX0_fromWeights_75 rfl ?_
    refine bz_getf fl_X0_9 dX0_fromWeights_76 rfl rfl (by omega) ?_
    refine bz_aload_n dX0_fromWeights_79 rfl ?_
    refine bz_cV2U (z := 4) mv_X0_tableauxToPowers mi_X0_tableauxToPowers lk_X0_38 dX0_fromWeights_80 (by exact t_tP (F := F) h10 hy (by omega) hky (fun q => hy10 q.symm) (by exact hT) (fun b hb => by have hse := xt_se b hb; rw [hF b hb, bz_setJ_at]; refine congrArg (fun z => z * (nI (720 / xt_z b)).toInt64) (zsum_congr _ _ (fun i h1 h2 => ?_)); rw [bz_upto_lt (by omega)]; rfl)) (by omega) rfl (by omega) rfl rfl rfl (Nat.le_of_ble_eq_true rfl) (Nat.le_of_ble_eq_true rfl) ?_
    refine bz_goto (tgt := 98) dX0_fromWeights_83 rfl ?_
    refine bz_vret dX0_fromWeights_98 rfl ?_
    rw [bz_setJ_ne hy10]
  | 4, _, hF =>
    refine ⟨bz_setJ (bz_setJ σ 10 (bz_upto (σ.1 10) F 30)) ky (fun j => if j < 30 then bz_upto (σ.1 10) F 30 j else σ.1 ky j), ?_, ⟨rfl, fun j h1 h2 h => by rw [bz_setJ_ne h, bz_setJ_ne h1]⟩, fun j hj => by rw [bz_setJ_at]; simp [hj, bz_upto]⟩
    refine bz_iload_n dX0_fromWeights_0 rfl ?_
    refine bz_if_ne (tgt := 14) dX0_fromWeights_1 rfl (fun _ => ?_) (fun q => absurd q (by decide))
    refine bz_aload_n dX0_fromWeights_14 rfl ?_
    refine bz_aload_n dX0_fromWeights_15 rfl ?_
    refine bz_aload_n dX0_fromWeights_16 rfl ?_
    refine bz_getf fl_X0_9 dX0_fromWeights_17 rfl rfl (by omega) ?_
    refine bz_cV2U (z := 4) mv_X0_weightsToTableaux mi_X0_weightsToTableaux lk_X0_28 dX0_fromWeights_20 (by exact t_wT hx h10 hkx (by omega) hx10 (by exact hT) hF) (by omega) rfl (by omega) rfl rfl rfl (Nat.le_of_ble_eq_true rfl) (Nat.le_of_ble_eq_true rfl) ?_
    refine bz_iload_n dX0_fromWeights_23 rfl ?_
    refine bz_iconst dX0_fromWeights_24 kc_iconst_1 ?_
    refine bz_icmp_ne (tgt := 52) dX0_fromWeights_25 rfl (fun _ => ?_) (fun q => absurd q (by decide))
    refine bz_iload_n dX0_fromWeights_52 rfl ?_
    refine bz_iconst dX0_fromWeights_53 kc_iconst_2 ?_
    refine bz_icmp_ne (tgt := 69) dX0_fromWeights_54 rfl (fun _ => ?_) (fun q => absurd q (by decide))
    refine bz_iload_n dX0_fromWeights_69 rfl ?_
    refine bz_iconst dX0_fromWeights_70 kc_iconst_3 ?_
    refine bz_icmp_ne (tgt := 86) dX0_fromWeights_71 rfl (fun _ => ?_) (fun q => absurd q (by decide))
    refine bz_aload_n dX0_fromWeights_86 rfl ?_
    refine bz_getf fl_X0_9 dX0_fromWeights_87 rfl rfl (by omega) ?_
    refine bz_iconst dX0_fromWeights_90 kc_iconst_0 ?_
    refine bz_aload_n dX0_fromWeights_91 rfl ?_
    refine bz_iconst dX0_fromWeights_92 kc_iconst_0 ?_
    refine bz_bipush dX0_fromWeights_93 kc_bipush_30 ?_
    refine bz_copy lk_X0_22 wac_n wac_s wi_java_lang_System (by omega) dX0_fromWeights_95 h10 hy (by omega) (by omega) (Nat.le_of_ble_eq_true rfl) ?_
    refine bz_vret dX0_fromWeights_98 rfl ?_
    rw [bz_setJ_at, bz_setJ_ne hy10]
  | n + 5, hb, _ => exact absurd hb (by omega)
end BB
