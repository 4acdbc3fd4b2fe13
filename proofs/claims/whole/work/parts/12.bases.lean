/-! Bases: moves between weights and numbers before members -/
theorem zsum_congr {f g : Nat → Int64} : ∀ (m a : Nat), (∀ i, a ≤ i → i < a + m → f i = g i) → zsum f a m = zsum g a m
  | 0, _, _ => rfl
  | m + 1, a, h => by rw [zsum, zsum, h a (Nat.le_refl a) (by omega), zsum_congr m (a + 1) (fun i h1 h2 => h i (by omega) (by omega))]
abbrev ba_K (σ : bz_S) (a b : Nat) : Int64 := (σ.2.1 7 (a * 30 + b)).toInt64
abbrev ba_X (σ : bz_S) (a b : Nat) : Int64 := (σ.2.1 8 (a * 30 + b)).toInt64
section BA
variable {l : Launch} {ad : Nat → Nat} {K : bz_K} {σ σ' : bz_S} {kx ky : Nat} {r : Option Value}
theorem t_startFor (hT : pz_T σ.2.1) {b : Nat} (hb : b < 30) : bz_V l ad K 73 mX0_startFor 1 (some (.int (nI (xt_start b)))) σ 0 [some (.ref (ad 9)), some (.int (nI b))] [] σ := by
  refine bz_aload_n dX0_startFor_0 rfl ?_
  refine bz_getf fl_X0_18 dX0_startFor_1 rfl rfl (by omega) ?_
  refine bz_getf fl_X0_50 dX0_startFor_4 rfl rfl (by omega) ?_
  refine bz_iload_n dX0_startFor_7 rfl ?_
  refine bz_iaload dX0_startFor_8 rfl (by omega) (by omega) ?_
  refine bz_topi (hT.1 b hb) ?_
  refine bz_cSN1I (z := 0) mv_X1_startOf ws_X1_startOf lk_X0_56 dX0_startFor_9 (by exact t_startOf (xt_deg6 b hb)) (by omega) rfl (Nat.le_of_ble_eq_true rfl) (Nat.le_of_ble_eq_true rfl) ?_
  refine bz_iret dX0_startFor_12 rfl rfl rfl
theorem t_endFor (hT : pz_T σ.2.1) {b : Nat} (hb : b < 30) : bz_V l ad K 73 mX0_endFor 1 (some (.int (nI (xt_end b)))) σ 0 [some (.ref (ad 9)), some (.int (nI b))] [] σ := by
  refine bz_aload_n dX0_endFor_0 rfl ?_
  refine bz_getf fl_X0_18 dX0_endFor_1 rfl rfl (by omega) ?_
  refine bz_getf fl_X0_50 dX0_endFor_4 rfl rfl (by omega) ?_
  refine bz_iload_n dX0_endFor_7 rfl ?_
  refine bz_iaload dX0_endFor_8 rfl (by omega) (by omega) ?_
  refine bz_topi (hT.1 b hb) ?_
  refine bz_cSN1I (z := 0) mv_X1_endOf ws_X1_endOf lk_X0_60 dX0_endFor_9 (by exact t_endOf (xt_deg6 b hb)) (by omega) rfl (Nat.le_of_ble_eq_true rfl) (Nat.le_of_ble_eq_true rfl) ?_
  refine bz_iret dX0_endFor_12 rfl rfl rfl
theorem t_tW_in {b : Nat} {T : Int64} (hb : b < 30) (hx : bz_sh kx = (1, 30, 0, [])) (hkx : kx < 73)
    (k : bz_V l ad K 73 mX0_tableauxToWeights 2 r σ' 51 [some (.ref (ad 9)), some (.ref (ad kx)), some (.ref (ad ky)), some (.int (nI b)), some (.long T), none, some (.int (nI (b + 1)))] [] σ) :
    ∀ (m a : Nat) (acc : Int64), a + m = b + 1 → acc + zsum (fun a => σ.1 kx a * ba_K σ a b) a m = T → bz_V l ad K 73 mX0_tableauxToWeights 2 r σ' 18 [some (.ref (ad 9)), some (.ref (ad kx)), some (.ref (ad ky)), some (.int (nI b)), some (.long acc), none, some (.int (nI a))] [] σ := by
  intro m
  induction m with
  | zero =>
    intro a acc ha hs
    obtain rfl : a = b + 1 := by omega
    obtain rfl := zsum_end hs
    refine bz_iload dX0_tableauxToWeights_18 rfl ?_
    refine bz_iload_n dX0_tableauxToWeights_20 rfl ?_
    refine bz_icmp_gtN (tgt := 51) dX0_tableauxToWeights_21 rfl (by omega) (by omega) (fun _ => ?_) (fun q => absurd q (by omega))
    exact k
  | succ m ih =>
    intro a acc ha hs
    refine bz_iload dX0_tableauxToWeights_18 rfl ?_
    refine bz_iload_n dX0_tableauxToWeights_20 rfl ?_
    refine bz_icmp_gtN (tgt := 51) dX0_tableauxToWeights_21 rfl (by omega) (by omega) (fun q => absurd q (by omega)) (fun _ => ?_)
    refine bz_lload dX0_tableauxToWeights_24 rfl ?_
    refine bz_aload_n dX0_tableauxToWeights_26 rfl ?_
    refine bz_iload dX0_tableauxToWeights_27 rfl ?_
    refine bz_laload dX0_tableauxToWeights_29 hx (by omega) (by omega) ?_
    refine bz_aload_n dX0_tableauxToWeights_30 rfl ?_
    refine bz_getf fl_X0_18 dX0_tableauxToWeights_31 rfl rfl (by omega) ?_
    refine bz_iload dX0_tableauxToWeights_34 rfl ?_
    refine bz_iload_n dX0_tableauxToWeights_36 rfl ?_
    refine bz_cVN2I (z := 0) mv_X1_kostkaOf mi_X1_kostkaOf lk_X0_66 dX0_tableauxToWeights_37 (by exact t_kostkaOf (by omega) (by omega) hb) (by omega) rfl (by omega) rfl rfl rfl (Nat.le_of_ble_eq_true rfl) (Nat.le_of_ble_eq_true rfl) ?_
    refine bz_i2l dX0_tableauxToWeights_40 ?_
    refine bz_lmul dX0_tableauxToWeights_41 ?_
    refine bz_ladd dX0_tableauxToWeights_42 ?_
    refine bz_lst4 dX0_tableauxToWeights_43 (by decide) rfl ?_
    first | refine bz_iinc6N dX0_tableauxToWeights_45 (by decide) rfl ?_ | refine bz_iinc6 dX0_tableauxToWeights_45 rfl (by decide) rfl ?_
    refine bz_goto (tgt := 18) dX0_tableauxToWeights_48 rfl ?_
    have hs2 := zsum_step hs
    exact ih (a + 1) _ (by omega) hs2
theorem t_tW_out (hx : bz_sh kx = (1, 30, 0, [])) (hy : bz_sh ky = (1, 30, 0, [])) (hkx : kx < 73) (hky : ky < 73) (hne : kx ≠ ky) (hT : pz_T σ.2.1) {F : Nat → Int64} (hF : ∀ b, b < 30 → F b = zsum (fun a => σ.1 kx a * ba_K σ a b) (xt_start b) (b + 1 - xt_start b)) :
    ∀ (m b : Nat) (x4 x5 x6 : Option Value), b + m = 30 → bz_V l ad K 73 mX0_tableauxToWeights 2 none (bz_setJ σ ky (bz_upto (σ.1 ky) F 30)) 2 [some (.ref (ad 9)), some (.ref (ad kx)), some (.ref (ad ky)), some (.int (nI b)), x4, x5, x6] [] (bz_setJ σ ky (bz_upto (σ.1 ky) F b)) := by
  intro m
  induction m with
  | zero =>
    intro b x4 x5 x6 hb
    obtain rfl : b = 30 := by omega
    refine bz_iload_n dX0_tableauxToWeights_2 rfl ?_
    refine bz_bipush dX0_tableauxToWeights_3 kc_bipush_30 ?_
    refine bz_icmp_geN (tgt := 62) dX0_tableauxToWeights_5 rfl (by omega) (by omega) (fun _ => ?_) (fun q => absurd q (by omega))
    refine bz_vret dX0_tableauxToWeights_62 rfl rfl
  | succ m ih =>
    intro b x4 x5 x6 hb
    have h30 : b < 30 := by omega
    have hse := xt_se b h30
    refine bz_iload_n dX0_tableauxToWeights_2 rfl ?_
    refine bz_bipush dX0_tableauxToWeights_3 kc_bipush_30 ?_
    refine bz_icmp_geN (tgt := 62) dX0_tableauxToWeights_5 rfl (by omega) (by omega) (fun q => absurd q (by omega)) (fun _ => ?_)
    refine bz_lconst dX0_tableauxToWeights_8 kc_lconst_0 ?_
    refine bz_lst4 dX0_tableauxToWeights_9 (by decide) rfl ?_
    refine bz_aload_n dX0_tableauxToWeights_11 rfl ?_
    refine bz_iload_n dX0_tableauxToWeights_12 rfl ?_
    refine bz_cV1I (z := 0) mv_X0_startFor mi_X0_startFor lk_X0_63 dX0_tableauxToWeights_13 (by exact t_startFor (by exact hT) h30) (by omega) rfl (by omega) rfl rfl rfl (Nat.le_of_ble_eq_true rfl) (Nat.le_of_ble_eq_true rfl) ?_
    refine bz_ist6 dX0_tableauxToWeights_16 (by decide) rfl ?_
    refine t_tW_in (T := F b) h30 hx hkx ?_ (b + 1 - xt_start b) (xt_start b) 0 (by omega) ?_
    · refine bz_aload_n dX0_tableauxToWeights_51 rfl ?_
      refine bz_iload_n dX0_tableauxToWeights_52 rfl ?_
      refine bz_lload dX0_tableauxToWeights_53 rfl ?_
      refine bz_lastore dX0_tableauxToWeights_55 hy (by omega) h30 ?_
      first | refine bz_iinc3N dX0_tableauxToWeights_56 (by decide) rfl ?_ | refine bz_iinc3 dX0_tableauxToWeights_56 rfl (by decide) rfl ?_
      refine bz_goto (tgt := 2) dX0_tableauxToWeights_59 rfl ?_
      refine bz_st (by rw [bz_upJ_set, bz_upto_s rfl]) ?_
      exact ih (b + 1) _ _ _ (by omega)
    · rw [Int64.zero_add, hF b h30, bz_setJ_ne hne]
      rfl
theorem t_tW (hx : bz_sh kx = (1, 30, 0, [])) (hy : bz_sh ky = (1, 30, 0, [])) (hkx : kx < 73) (hky : ky < 73) (hne : kx ≠ ky) (hT : pz_T σ.2.1) {F : Nat → Int64} (hF : ∀ b, b < 30 → F b = zsum (fun a => σ.1 kx a * ba_K σ a b) (xt_start b) (b + 1 - xt_start b)) : bz_V l ad K 73 mX0_tableauxToWeights 2 none (bz_setJ σ ky (bz_upto (σ.1 ky) F 30)) 0 [some (.ref (ad 9)), some (.ref (ad kx)), some (.ref (ad ky)), none, none, none, none] [] σ := by
  refine bz_iconst dX0_tableauxToWeights_0 kc_iconst_0 ?_
  refine bz_ist3 dX0_tableauxToWeights_1 (by decide) rfl ?_
  refine bz_st (by rw [bz_setJ_id (bz_upto_0 _ F)]) (t_tW_out hx hy hkx hky hne hT hF 30 0 none none none rfl)
theorem t_wT_in {b : Nat} {T : Int64} (hb : b < 30) (hy : bz_sh ky = (1, 30, 0, [])) (hky : ky < 73)
    (k : bz_V l ad K 73 mX0_weightsToTableaux 2 r σ' 53 [some (.ref (ad 9)), some (.ref (ad kx)), some (.ref (ad ky)), some (.int (nI b)), some (.long T), none, some (.int (nI b))] [] σ) :
    ∀ (m a : Nat) (acc : Int64), a + m = b → acc - zsum (fun a => σ.1 ky a * ba_K σ a b) a m = T → bz_V l ad K 73 mX0_weightsToTableaux 2 r σ' 20 [some (.ref (ad 9)), some (.ref (ad kx)), some (.ref (ad ky)), some (.int (nI b)), some (.long acc), none, some (.int (nI a))] [] σ := by
  intro m
  induction m with
  | zero =>
    intro a acc ha hs
    obtain rfl : a = b := by omega
    obtain rfl := zsub_end hs
    refine bz_iload dX0_weightsToTableaux_20 rfl ?_
    refine bz_iload_n dX0_weightsToTableaux_22 rfl ?_
    refine bz_icmp_geN (tgt := 53) dX0_weightsToTableaux_23 rfl (by omega) (by omega) (fun _ => ?_) (fun q => absurd q (by omega))
    exact k
  | succ m ih =>
    intro a acc ha hs
    refine bz_iload dX0_weightsToTableaux_20 rfl ?_
    refine bz_iload_n dX0_weightsToTableaux_22 rfl ?_
    refine bz_icmp_geN (tgt := 53) dX0_weightsToTableaux_23 rfl (by omega) (by omega) (fun q => absurd q (by omega)) (fun _ => ?_)
    refine bz_lload dX0_weightsToTableaux_26 rfl ?_
    refine bz_aload_n dX0_weightsToTableaux_28 rfl ?_
    refine bz_iload dX0_weightsToTableaux_29 rfl ?_
    refine bz_laload dX0_weightsToTableaux_31 hy (by omega) (by omega) ?_
    refine bz_aload_n dX0_weightsToTableaux_32 rfl ?_
    refine bz_getf fl_X0_18 dX0_weightsToTableaux_33 rfl rfl (by omega) ?_
    refine bz_iload dX0_weightsToTableaux_36 rfl ?_
    refine bz_iload_n dX0_weightsToTableaux_38 rfl ?_
    refine bz_cVN2I (z := 0) mv_X1_kostkaOf mi_X1_kostkaOf lk_X0_66 dX0_weightsToTableaux_39 (by exact t_kostkaOf (by omega) (by omega) hb) (by omega) rfl (by omega) rfl rfl rfl (Nat.le_of_ble_eq_true rfl) (Nat.le_of_ble_eq_true rfl) ?_
    refine bz_i2l dX0_weightsToTableaux_42 ?_
    refine bz_lmul dX0_weightsToTableaux_43 ?_
    refine bz_lsub dX0_weightsToTableaux_44 ?_
    refine bz_lst4 dX0_weightsToTableaux_45 (by decide) rfl ?_
    first | refine bz_iinc6N dX0_weightsToTableaux_47 (by decide) rfl ?_ | refine bz_iinc6 dX0_weightsToTableaux_47 rfl (by decide) rfl ?_
    refine bz_goto (tgt := 20) dX0_weightsToTableaux_50 rfl ?_
    have hs2 := zsub_step hs
    exact ih (a + 1) _ (by omega) hs2
theorem t_wT_out (hx : bz_sh kx = (1, 30, 0, [])) (hy : bz_sh ky = (1, 30, 0, [])) (hkx : kx < 73) (hky : ky < 73) (hne : kx ≠ ky) (hT : pz_T σ.2.1) {F : Nat → Int64} (hF : ∀ b, b < 30 → F b = σ.1 kx b - zsum (fun a => F a * ba_K σ a b) (xt_start b) (b - xt_start b)) :
    ∀ (m b : Nat) (x4 x5 x6 : Option Value), b + m = 30 → bz_V l ad K 73 mX0_weightsToTableaux 2 none (bz_setJ σ ky (bz_upto (σ.1 ky) F 30)) 2 [some (.ref (ad 9)), some (.ref (ad kx)), some (.ref (ad ky)), some (.int (nI b)), x4, x5, x6] [] (bz_setJ σ ky (bz_upto (σ.1 ky) F b)) := by
  intro m
  induction m with
  | zero =>
    intro b x4 x5 x6 hb
    obtain rfl : b = 30 := by omega
    refine bz_iload_n dX0_weightsToTableaux_2 rfl ?_
    refine bz_bipush dX0_weightsToTableaux_3 kc_bipush_30 ?_
    refine bz_icmp_geN (tgt := 64) dX0_weightsToTableaux_5 rfl (by omega) (by omega) (fun _ => ?_) (fun q => absurd q (by omega))
    refine bz_vret dX0_weightsToTableaux_64 rfl rfl
  | succ m ih =>
    intro b x4 x5 x6 hb
    have h30 : b < 30 := by omega
    have hse := xt_se b h30
    refine bz_iload_n dX0_weightsToTableaux_2 rfl ?_
    refine bz_bipush dX0_weightsToTableaux_3 kc_bipush_30 ?_
    refine bz_icmp_geN (tgt := 64) dX0_weightsToTableaux_5 rfl (by omega) (by omega) (fun q => absurd q (by omega)) (fun _ => ?_)
    refine bz_aload_n dX0_weightsToTableaux_8 rfl ?_
    refine bz_iload_n dX0_weightsToTableaux_9 rfl ?_
    refine bz_laload dX0_weightsToTableaux_10 hx (by omega) h30 ?_
    refine bz_lst4 dX0_weightsToTableaux_11 (by decide) rfl ?_
    refine bz_aload_n dX0_weightsToTableaux_13 rfl ?_
    refine bz_iload_n dX0_weightsToTableaux_14 rfl ?_
    refine bz_cV1I (z := 0) mv_X0_startFor mi_X0_startFor lk_X0_63 dX0_weightsToTableaux_15 (by exact t_startFor (by exact hT) h30) (by omega) rfl (by omega) rfl rfl rfl (Nat.le_of_ble_eq_true rfl) (Nat.le_of_ble_eq_true rfl) ?_
    refine bz_ist6 dX0_weightsToTableaux_18 (by decide) rfl ?_
    refine t_wT_in (T := F b) h30 hy hky ?_ (b - xt_start b) (xt_start b) _ (by omega) ?_
    · refine bz_aload_n dX0_weightsToTableaux_53 rfl ?_
      refine bz_iload_n dX0_weightsToTableaux_54 rfl ?_
      refine bz_lload dX0_weightsToTableaux_55 rfl ?_
      refine bz_lastore dX0_weightsToTableaux_57 hy (by omega) h30 ?_
      first | refine bz_iinc3N dX0_weightsToTableaux_58 (by decide) rfl ?_ | refine bz_iinc3 dX0_weightsToTableaux_58 rfl (by decide) rfl ?_
      refine bz_goto (tgt := 2) dX0_weightsToTableaux_61 rfl ?_
      refine bz_st (by rw [bz_upJ_set, bz_upto_s rfl]) ?_
      exact ih (b + 1) _ _ _ (by omega)
    · rw [hF b h30, bz_setJ_ne hne, bz_setJ_at]
      refine congrArg (fun z => σ.1 kx b - z) (zsum_congr _ _ (fun i h1 h2 => ?_))
      rw [bz_upto_lt (by omega)]
      rfl
theorem t_wT (hx : bz_sh kx = (1, 30, 0, [])) (hy : bz_sh ky = (1, 30, 0, [])) (hkx : kx < 73) (hky : ky < 73) (hne : kx ≠ ky) (hT : pz_T σ.2.1) {F : Nat → Int64} (hF : ∀ b, b < 30 → F b = σ.1 kx b - zsum (fun a => F a * ba_K σ a b) (xt_start b) (b - xt_start b)) : bz_V l ad K 73 mX0_weightsToTableaux 2 none (bz_setJ σ ky (bz_upto (σ.1 ky) F 30)) 0 [some (.ref (ad 9)), some (.ref (ad kx)), some (.ref (ad ky)), none, none, none, none] [] σ := by
  refine bz_iconst dX0_weightsToTableaux_0 kc_iconst_0 ?_
  refine bz_ist3 dX0_weightsToTableaux_1 (by decide) rfl ?_
  refine bz_st (by rw [bz_setJ_id (bz_upto_0 _ F)]) (t_wT_out hx hy hkx hky hne hT hF 30 0 none none none rfl)
theorem t_cT_in {b : Nat} {T : Int64} (hb : b < 30) (hx : bz_sh kx = (1, 30, 0, [])) (hkx : kx < 73) (hT : pz_T σ.2.1)
    (k : bz_V l ad K 73 mX0_completesToTableaux 2 r σ' 51 [some (.ref (ad 9)), some (.ref (ad kx)), some (.ref (ad ky)), some (.int (nI b)), some (.long T), none, some (.int (nI (xt_end b)))] [] σ) :
    ∀ (m a : Nat) (acc : Int64), a + m = xt_end b → acc + zsum (fun i => σ.1 kx i * ba_K σ b i) a m = T → bz_V l ad K 73 mX0_completesToTableaux 2 r σ' 14 [some (.ref (ad 9)), some (.ref (ad kx)), some (.ref (ad ky)), some (.int (nI b)), some (.long acc), none, some (.int (nI a))] [] σ := by
  have hse := xt_se b hb
  intro m
  induction m with
  | zero =>
    intro a acc ha hs
    obtain rfl : a = xt_end b := by omega
    obtain rfl := zsum_end hs
    refine bz_iload dX0_completesToTableaux_14 rfl ?_
    refine bz_aload_n dX0_completesToTableaux_16 rfl ?_
    refine bz_iload_n dX0_completesToTableaux_17 rfl ?_
    refine bz_cV1I (z := 0) mv_X0_endFor mi_X0_endFor lk_X0_70 dX0_completesToTableaux_18 (by exact t_endFor (by exact hT) hb) (by omega) rfl (by omega) rfl rfl rfl (Nat.le_of_ble_eq_true rfl) (Nat.le_of_ble_eq_true rfl) ?_
    refine bz_icmp_geN (tgt := 51) dX0_completesToTableaux_21 rfl (by omega) (by omega) (fun _ => ?_) (fun q => absurd q (by omega))
    exact k
  | succ m ih =>
    intro a acc ha hs
    refine bz_iload dX0_completesToTableaux_14 rfl ?_
    refine bz_aload_n dX0_completesToTableaux_16 rfl ?_
    refine bz_iload_n dX0_completesToTableaux_17 rfl ?_
    refine bz_cV1I (z := 0) mv_X0_endFor mi_X0_endFor lk_X0_70 dX0_completesToTableaux_18 (by exact t_endFor (by exact hT) hb) (by omega) rfl (by omega) rfl rfl rfl (Nat.le_of_ble_eq_true rfl) (Nat.le_of_ble_eq_true rfl) ?_
    refine bz_icmp_geN (tgt := 51) dX0_completesToTableaux_21 rfl (by omega) (by omega) (fun q => absurd q (by omega)) (fun _ => ?_)
    refine bz_lload dX0_completesToTableaux_24 rfl ?_
    refine bz_aload_n dX0_completesToTableaux_26 rfl ?_
    refine bz_iload dX0_completesToTableaux_27 rfl ?_
    refine bz_laload dX0_completesToTableaux_29 hx (by omega) (by omega) ?_
    refine bz_aload_n dX0_completesToTableaux_30 rfl ?_
    refine bz_getf fl_X0_18 dX0_completesToTableaux_31 rfl rfl (by omega) ?_
    refine bz_iload_n dX0_completesToTableaux_34 rfl ?_
    refine bz_iload dX0_completesToTableaux_35 rfl ?_
    refine bz_cVN2I (z := 0) mv_X1_kostkaOf mi_X1_kostkaOf lk_X0_66 dX0_completesToTableaux_37 (by exact t_kostkaOf (by omega) hb (by omega)) (by omega) rfl (by omega) rfl rfl rfl (Nat.le_of_ble_eq_true rfl) (Nat.le_of_ble_eq_true rfl) ?_
    refine bz_i2l dX0_completesToTableaux_40 ?_
    refine bz_lmul dX0_completesToTableaux_41 ?_
    refine bz_ladd dX0_completesToTableaux_42 ?_
    refine bz_lst4 dX0_completesToTableaux_43 (by decide) rfl ?_
    first | refine bz_iinc6N dX0_completesToTableaux_45 (by decide) rfl ?_ | refine bz_iinc6 dX0_completesToTableaux_45 rfl (by decide) rfl ?_
    refine bz_goto (tgt := 14) dX0_completesToTableaux_48 rfl ?_
    have hs2 := zsum_step hs
    exact ih (a + 1) _ (by omega) hs2
theorem t_pT_in {b : Nat} {T : Int64} (hb : b < 30) (hx : bz_sh kx = (1, 30, 0, [])) (hkx : kx < 73) (hT : pz_T σ.2.1)
    (k : bz_V l ad K 73 mX0_powersToTableaux 2 r σ' 55 [some (.ref (ad 9)), some (.ref (ad kx)), some (.ref (ad ky)), some (.int (nI b)), some (.long T), none, some (.int (nI (xt_end b)))] [] σ) :
    ∀ (m a : Nat) (acc : Int64), a + m = xt_end b → acc + zsum (fun i => σ.1 kx i * ba_X σ b i) a m = T → bz_V l ad K 73 mX0_powersToTableaux 2 r σ' 18 [some (.ref (ad 9)), some (.ref (ad kx)), some (.ref (ad ky)), some (.int (nI b)), some (.long acc), none, some (.int (nI a))] [] σ := by
  have hse := xt_se b hb
  intro m
  induction m with
  | zero =>
    intro a acc ha hs
    obtain rfl : a = xt_end b := by omega
    obtain rfl := zsum_end hs
    refine bz_iload dX0_powersToTableaux_18 rfl ?_
    refine bz_aload_n dX0_powersToTableaux_20 rfl ?_
    refine bz_iload_n dX0_powersToTableaux_21 rfl ?_
    refine bz_cV1I (z := 0) mv_X0_endFor mi_X0_endFor lk_X0_70 dX0_powersToTableaux_22 (by exact t_endFor (by exact hT) hb) (by omega) rfl (by omega) rfl rfl rfl (Nat.le_of_ble_eq_true rfl) (Nat.le_of_ble_eq_true rfl) ?_
    refine bz_icmp_geN (tgt := 55) dX0_powersToTableaux_25 rfl (by omega) (by omega) (fun _ => ?_) (fun q => absurd q (by omega))
    exact k
  | succ m ih =>
    intro a acc ha hs
    refine bz_iload dX0_powersToTableaux_18 rfl ?_
    refine bz_aload_n dX0_powersToTableaux_20 rfl ?_
    refine bz_iload_n dX0_powersToTableaux_21 rfl ?_
    refine bz_cV1I (z := 0) mv_X0_endFor mi_X0_endFor lk_X0_70 dX0_powersToTableaux_22 (by exact t_endFor (by exact hT) hb) (by omega) rfl (by omega) rfl rfl rfl (Nat.le_of_ble_eq_true rfl) (Nat.le_of_ble_eq_true rfl) ?_
    refine bz_icmp_geN (tgt := 55) dX0_powersToTableaux_25 rfl (by omega) (by omega) (fun q => absurd q (by omega)) (fun _ => ?_)
    refine bz_lload dX0_powersToTableaux_28 rfl ?_
    refine bz_aload_n dX0_powersToTableaux_30 rfl ?_
    refine bz_iload dX0_powersToTableaux_31 rfl ?_
    refine bz_laload dX0_powersToTableaux_33 hx (by omega) (by omega) ?_
    refine bz_aload_n dX0_powersToTableaux_34 rfl ?_
    refine bz_getf fl_X0_18 dX0_powersToTableaux_35 rfl rfl (by omega) ?_
    refine bz_iload_n dX0_powersToTableaux_38 rfl ?_
    refine bz_iload dX0_powersToTableaux_39 rfl ?_
    refine bz_cVN2I (z := 0) mv_X1_characterOf mi_X1_characterOf lk_X0_73 dX0_powersToTableaux_41 (by exact t_characterOf (by omega) hb (by omega)) (by omega) rfl (by omega) rfl rfl rfl (Nat.le_of_ble_eq_true rfl) (Nat.le_of_ble_eq_true rfl) ?_
    refine bz_i2l dX0_powersToTableaux_44 ?_
    refine bz_lmul dX0_powersToTableaux_45 ?_
    refine bz_ladd dX0_powersToTableaux_46 ?_
    refine bz_lst4 dX0_powersToTableaux_47 (by decide) rfl ?_
    first | refine bz_iinc6N dX0_powersToTableaux_49 (by decide) rfl ?_ | refine bz_iinc6 dX0_powersToTableaux_49 rfl (by decide) rfl ?_
    refine bz_goto (tgt := 18) dX0_powersToTableaux_52 rfl ?_
    have hs2 := zsum_step hs
    exact ih (a + 1) _ (by omega) hs2
theorem t_tP_in {b : Nat} {T : Int64} (hb : b < 30) (hx : bz_sh kx = (1, 30, 0, [])) (hkx : kx < 73) (hT : pz_T σ.2.1)
    (k : bz_V l ad K 73 mX0_tableauxToPowers 2 r σ' 55 [some (.ref (ad 9)), some (.ref (ad kx)), some (.ref (ad ky)), some (.int (nI b)), some (.long T), none, some (.int (nI (xt_end b)))] [] σ) :
    ∀ (m a : Nat) (acc : Int64), a + m = xt_end b → acc + zsum (fun i => σ.1 kx i * ba_X σ i b) a m = T → bz_V l ad K 73 mX0_tableauxToPowers 2 r σ' 18 [some (.ref (ad 9)), some (.ref (ad kx)), some (.ref (ad ky)), some (.int (nI b)), some (.long acc), none, some (.int (nI a))] [] σ := by
  have hse := xt_se b hb
  intro m
  induction m with
  | zero =>
    intro a acc ha hs
    obtain rfl : a = xt_end b := by omega
    obtain rfl := zsum_end hs
    refine bz_iload dX0_tableauxToPowers_18 rfl ?_
    refine bz_aload_n dX0_tableauxToPowers_20 rfl ?_
    refine bz_iload_n dX0_tableauxToPowers_21 rfl ?_
    refine bz_cV1I (z := 0) mv_X0_endFor mi_X0_endFor lk_X0_70 dX0_tableauxToPowers_22 (by exact t_endFor (by exact hT) hb) (by omega) rfl (by omega) rfl rfl rfl (Nat.le_of_ble_eq_true rfl) (Nat.le_of_ble_eq_true rfl) ?_
    refine bz_icmp_geN (tgt := 55) dX0_tableauxToPowers_25 rfl (by omega) (by omega) (fun _ => ?_) (fun q => absurd q (by omega))
    exact k
  | succ m ih =>
    intro a acc ha hs
    refine bz_iload dX0_tableauxToPowers_18 rfl ?_
    refine bz_aload_n dX0_tableauxToPowers_20 rfl ?_
    refine bz_iload_n dX0_tableauxToPowers_21 rfl ?_
    refine bz_cV1I (z := 0) mv_X0_endFor mi_X0_endFor lk_X0_70 dX0_tableauxToPowers_22 (by exact t_endFor (by exact hT) hb) (by omega) rfl (by omega) rfl rfl rfl (Nat.le_of_ble_eq_true rfl) (Nat.le_of_ble_eq_true rfl) ?_
    refine bz_icmp_geN (tgt := 55) dX0_tableauxToPowers_25 rfl (by omega) (by omega) (fun q => absurd q (by omega)) (fun _ => ?_)
    refine bz_lload dX0_tableauxToPowers_28 rfl ?_
    refine bz_aload_n dX0_tableauxToPowers_30 rfl ?_
    refine bz_iload dX0_tableauxToPowers_31 rfl ?_
    refine bz_laload dX0_tableauxToPowers_33 hx (by omega) (by omega) ?_
    refine bz_aload_n dX0_tableauxToPowers_34 rfl ?_
    refine bz_getf fl_X0_18 dX0_tableauxToPowers_35 rfl rfl (by omega) ?_
    refine bz_iload dX0_tableauxToPowers_38 rfl ?_
    refine bz_iload_n dX0_tableauxToPowers_40 rfl ?_
    refine bz_cVN2I (z := 0) mv_X1_characterOf mi_X1_characterOf lk_X0_73 dX0_tableauxToPowers_41 (by exact t_characterOf (by omega) (by omega) hb) (by omega) rfl (by omega) rfl rfl rfl (Nat.le_of_ble_eq_true rfl) (Nat.le_of_ble_eq_true rfl) ?_
    refine bz_i2l dX0_tableauxToPowers_44 ?_
    refine bz_lmul dX0_tableauxToPowers_45 ?_
    refine bz_ladd dX0_tableauxToPowers_46 ?_
    refine bz_lst4 dX0_tableauxToPowers_47 (by decide) rfl ?_
    first | refine bz_iinc6N dX0_tableauxToPowers_49 (by decide) rfl ?_ | refine bz_iinc6 dX0_tableauxToPowers_49 rfl (by decide) rfl ?_
    refine bz_goto (tgt := 18) dX0_tableauxToPowers_52 rfl ?_
    have hs2 := zsum_step hs
    exact ih (a + 1) _ (by omega) hs2
theorem t_cT_out (hx : bz_sh kx = (1, 30, 0, [])) (hy : bz_sh ky = (1, 30, 0, [])) (hkx : kx < 73) (hky : ky < 73) (hne : kx ≠ ky) (hT : pz_T σ.2.1) {F : Nat → Int64} (hF : ∀ b, b < 30 → F b = zsum (fun i => σ.1 kx i * ba_K σ b i) (b) (xt_end b - b)) :
    ∀ (m b : Nat) (x4 x5 x6 : Option Value), b + m = 30 → bz_V l ad K 73 mX0_completesToTableaux 2 none (bz_setJ σ ky (bz_upto (σ.1 ky) F 30)) 2 [some (.ref (ad 9)), some (.ref (ad kx)), some (.ref (ad ky)), some (.int (nI b)), x4, x5, x6] [] (bz_setJ σ ky (bz_upto (σ.1 ky) F b)) := by
  intro m
  induction m with
  | zero =>
    intro b x4 x5 x6 hb
    obtain rfl : b = 30 := by omega
    refine bz_iload_n dX0_completesToTableaux_2 rfl ?_
    refine bz_bipush dX0_completesToTableaux_3 kc_bipush_30 ?_
    refine bz_icmp_geN (tgt := 62) dX0_completesToTableaux_5 rfl (by omega) (by omega) (fun _ => ?_) (fun q => absurd q (by omega))
    refine bz_vret dX0_completesToTableaux_62 rfl rfl
  | succ m ih =>
    intro b x4 x5 x6 hb
    have h30 : b < 30 := by omega
    have hse := xt_se b h30
    refine bz_iload_n dX0_completesToTableaux_2 rfl ?_
    refine bz_bipush dX0_completesToTableaux_3 kc_bipush_30 ?_
    refine bz_icmp_geN (tgt := 62) dX0_completesToTableaux_5 rfl (by omega) (by omega) (fun q => absurd q (by omega)) (fun _ => ?_)
    refine bz_lconst dX0_completesToTableaux_8 kc_lconst_0 ?_
    refine bz_lst4 dX0_completesToTableaux_9 (by decide) rfl ?_
    refine bz_iload_n dX0_completesToTableaux_11 rfl ?_
    refine bz_ist6 dX0_completesToTableaux_12 (by decide) rfl ?_
    refine t_cT_in (T := F b) h30 hx hkx (by exact hT) ?_ (xt_end b - b) (b) 0 (by omega) ?_
    · refine bz_aload_n dX0_completesToTableaux_51 rfl ?_
      refine bz_iload_n dX0_completesToTableaux_52 rfl ?_
      refine bz_lload dX0_completesToTableaux_53 rfl ?_
      refine bz_lastore dX0_completesToTableaux_55 hy (by omega) h30 ?_
      first | refine bz_iinc3N dX0_completesToTableaux_56 (by decide) rfl ?_ | refine bz_iinc3 dX0_completesToTableaux_56 rfl (by decide) rfl ?_
      refine bz_goto (tgt := 2) dX0_completesToTableaux_59 rfl ?_
      refine bz_st (by rw [bz_upJ_set, bz_upto_s rfl]) ?_
      exact ih (b + 1) _ _ _ (by omega)
    · rw [Int64.zero_add, hF b h30, bz_setJ_ne hne]
      rfl
theorem t_cT (hx : bz_sh kx = (1, 30, 0, [])) (hy : bz_sh ky = (1, 30, 0, [])) (hkx : kx < 73) (hky : ky < 73) (hne : kx ≠ ky) (hT : pz_T σ.2.1) {F : Nat → Int64} (hF : ∀ b, b < 30 → F b = zsum (fun i => σ.1 kx i * ba_K σ b i) (b) (xt_end b - b)) : bz_V l ad K 73 mX0_completesToTableaux 2 none (bz_setJ σ ky (bz_upto (σ.1 ky) F 30)) 0 [some (.ref (ad 9)), some (.ref (ad kx)), some (.ref (ad ky)), none, none, none, none] [] σ := by
  refine bz_iconst dX0_completesToTableaux_0 kc_iconst_0 ?_
  refine bz_ist3 dX0_completesToTableaux_1 (by decide) rfl ?_
  refine bz_st (by rw [bz_setJ_id (bz_upto_0 _ F)]) (t_cT_out hx hy hkx hky hne hT hF 30 0 none none none rfl)
theorem t_pT_out (hx : bz_sh kx = (1, 30, 0, [])) (hy : bz_sh ky = (1, 30, 0, [])) (hkx : kx < 73) (hky : ky < 73) (hne : kx ≠ ky) (hT : pz_T σ.2.1) {F : Nat → Int64} (hF : ∀ b, b < 30 → F b = zsum (fun i => σ.1 kx i * ba_X σ b i) (xt_start b) (xt_end b - xt_start b)) :
    ∀ (m b : Nat) (x4 x5 x6 : Option Value), b + m = 30 → bz_V l ad K 73 mX0_powersToTableaux 2 none (bz_setJ σ ky (bz_upto (σ.1 ky) F 30)) 2 [some (.ref (ad 9)), some (.ref (ad kx)), some (.ref (ad ky)), some (.int (nI b)), x4, x5, x6] [] (bz_setJ σ ky (bz_upto (σ.1 ky) F b)) := by
  intro m
  induction m with
  | zero =>
    intro b x4 x5 x6 hb
    obtain rfl : b = 30 := by omega
    refine bz_iload_n dX0_powersToTableaux_2 rfl ?_
    refine bz_bipush dX0_powersToTableaux_3 kc_bipush_30 ?_
    refine bz_icmp_geN (tgt := 66) dX0_powersToTableaux_5 rfl (by omega) (by omega) (fun _ => ?_) (fun q => absurd q (by omega))
    refine bz_vret dX0_powersToTableaux_66 rfl rfl
  | succ m ih =>
    intro b x4 x5 x6 hb
    have h30 : b < 30 := by omega
    have hse := xt_se b h30
    refine bz_iload_n dX0_powersToTableaux_2 rfl ?_
    refine bz_bipush dX0_powersToTableaux_3 kc_bipush_30 ?_
    refine bz_icmp_geN (tgt := 66) dX0_powersToTableaux_5 rfl (by omega) (by omega) (fun q => absurd q (by omega)) (fun _ => ?_)
    refine bz_lconst dX0_powersToTableaux_8 kc_lconst_0 ?_
    refine bz_lst4 dX0_powersToTableaux_9 (by decide) rfl ?_
    refine bz_aload_n dX0_powersToTableaux_11 rfl ?_
    refine bz_iload_n dX0_powersToTableaux_12 rfl ?_
    refine bz_cV1I (z := 0) mv_X0_startFor mi_X0_startFor lk_X0_63 dX0_powersToTableaux_13 (by exact t_startFor (by exact hT) h30) (by omega) rfl (by omega) rfl rfl rfl (Nat.le_of_ble_eq_true rfl) (Nat.le_of_ble_eq_true rfl) ?_
    refine bz_ist6 dX0_powersToTableaux_16 (by decide) rfl ?_
    refine t_pT_in (T := F b) h30 hx hkx (by exact hT) ?_ (xt_end b - xt_start b) (xt_start b) 0 (by omega) ?_
    · refine bz_aload_n dX0_powersToTableaux_55 rfl ?_
      refine bz_iload_n dX0_powersToTableaux_56 rfl ?_
      refine bz_lload dX0_powersToTableaux_57 rfl ?_
      refine bz_lastore dX0_powersToTableaux_59 hy (by omega) h30 ?_
      first | refine bz_iinc3N dX0_powersToTableaux_60 (by decide) rfl ?_ | refine bz_iinc3 dX0_powersToTableaux_60 rfl (by decide) rfl ?_
      refine bz_goto (tgt := 2) dX0_powersToTableaux_63 rfl ?_
      refine bz_st (by rw [bz_upJ_set, bz_upto_s rfl]) ?_
      exact ih (b + 1) _ _ _ (by omega)
    · rw [Int64.zero_add, hF b h30, bz_setJ_ne hne]
      rfl
theorem t_pT (hx : bz_sh kx = (1, 30, 0, [])) (hy : bz_sh ky = (1, 30, 0, [])) (hkx : kx < 73) (hky : ky < 73) (hne : kx ≠ ky) (hT : pz_T σ.2.1) {F : Nat → Int64} (hF : ∀ b, b < 30 → F b = zsum (fun i => σ.1 kx i * ba_X σ b i) (xt_start b) (xt_end b - xt_start b)) : bz_V l ad K 73 mX0_powersToTableaux 2 none (bz_setJ σ ky (bz_upto (σ.1 ky) F 30)) 0 [some (.ref (ad 9)), some (.ref (ad kx)), some (.ref (ad ky)), none, none, none, none] [] σ := by
  refine bz_iconst dX0_powersToTableaux_0 kc_iconst_0 ?_
  refine bz_ist3 dX0_powersToTableaux_1 (by decide) rfl ?_
  refine bz_st (by rw [bz_setJ_id (bz_upto_0 _ F)]) (t_pT_out hx hy hkx hky hne hT hF 30 0 none none none rfl)
theorem t_tP_out (hx : bz_sh kx = (1, 30, 0, [])) (hy : bz_sh ky = (1, 30, 0, [])) (hkx : kx < 73) (hky : ky < 73) (hne : kx ≠ ky) (hT : pz_T σ.2.1) {F : Nat → Int64} (hF : ∀ b, b < 30 → F b = zsum (fun i => σ.1 kx i * ba_X σ i b) (xt_start b) (xt_end b - xt_start b) * (nI (720 / xt_z b)).toInt64) :
    ∀ (m b : Nat) (x4 x5 x6 : Option Value), b + m = 30 → bz_V l ad K 73 mX0_tableauxToPowers 2 none (bz_setJ σ ky (bz_upto (σ.1 ky) F 30)) 2 [some (.ref (ad 9)), some (.ref (ad kx)), some (.ref (ad ky)), some (.int (nI b)), x4, x5, x6] [] (bz_setJ σ ky (bz_upto (σ.1 ky) F b)) := by
  intro m
  induction m with
  | zero =>
    intro b x4 x5 x6 hb
    obtain rfl : b = 30 := by omega
    refine bz_iload_n dX0_tableauxToPowers_2 rfl ?_
    refine bz_bipush dX0_tableauxToPowers_3 kc_bipush_30 ?_
    refine bz_icmp_geN (tgt := 94) dX0_tableauxToPowers_5 rfl (by omega) (by omega) (fun _ => ?_) (fun q => absurd q (by omega))
    refine bz_vret dX0_tableauxToPowers_94 rfl rfl
  | succ m ih =>
    intro b x4 x5 x6 hb
    have h30 : b < 30 := by omega
    have hse := xt_se b h30
    have hz := xt_zpos b h30
    refine bz_iload_n dX0_tableauxToPowers_2 rfl ?_
    refine bz_bipush dX0_tableauxToPowers_3 kc_bipush_30 ?_
    refine bz_icmp_geN (tgt := 94) dX0_tableauxToPowers_5 rfl (by omega) (by omega) (fun q => absurd q (by omega)) (fun _ => ?_)
    refine bz_lconst dX0_tableauxToPowers_8 kc_lconst_0 ?_
    refine bz_lst4 dX0_tableauxToPowers_9 (by decide) rfl ?_
    refine bz_aload_n dX0_tableauxToPowers_11 rfl ?_
    refine bz_iload_n dX0_tableauxToPowers_12 rfl ?_
    refine bz_cV1I (z := 0) mv_X0_startFor mi_X0_startFor lk_X0_63 dX0_tableauxToPowers_13 (by exact t_startFor (by exact hT) h30) (by omega) rfl (by omega) rfl rfl rfl (Nat.le_of_ble_eq_true rfl) (Nat.le_of_ble_eq_true rfl) ?_
    refine bz_ist6 dX0_tableauxToPowers_16 (by decide) rfl ?_
    refine t_tP_in (T := zsum (fun i => σ.1 kx i * ba_X σ i b) (xt_start b) (xt_end b - xt_start b)) h30 hx hkx (by exact hT) ?_ (xt_end b - xt_start b) (xt_start b) 0 (by omega) ?_
    · refine bz_aload_n dX0_tableauxToPowers_55 rfl ?_
      refine bz_getf fl_X0_18 dX0_tableauxToPowers_56 rfl rfl (by omega) ?_
      refine bz_getf fl_X0_76 dX0_tableauxToPowers_59 rfl rfl (by omega) ?_
      refine bz_iload_n dX0_tableauxToPowers_62 rfl ?_
      refine bz_iaload dX0_tableauxToPowers_63 rfl (by omega) (by omega) ?_
      refine bz_topi (hT.2.2.2.2.1 b h30) ?_
      refine bz_ist6 dX0_tableauxToPowers_64 (by decide) rfl ?_
      refine bz_aload_n dX0_tableauxToPowers_66 rfl ?_
      refine bz_iload_n dX0_tableauxToPowers_67 rfl ?_
      refine bz_iload dX0_tableauxToPowers_68 rfl ?_
      refine bz_if_le (tgt := 86) dX0_tableauxToPowers_70 rfl (fun q => absurd q (nI_nle hz.1 (by omega))) (fun _ => ?_)
      refine bz_lload dX0_tableauxToPowers_73 rfl ?_
      refine bz_sipush dX0_tableauxToPowers_75 kc_sipush_720 ?_
      refine bz_iload dX0_tableauxToPowers_78 rfl ?_
      refine bz_idivN dX0_tableauxToPowers_80 (by omega) hz.1 (by omega) ?_
      refine bz_i2l dX0_tableauxToPowers_81 ?_
      refine bz_lmul dX0_tableauxToPowers_82 ?_
      refine bz_goto (tgt := 87) dX0_tableauxToPowers_83 rfl ?_
      refine bz_lastore dX0_tableauxToPowers_87 hy (by omega) h30 ?_
      first | refine bz_iinc3N dX0_tableauxToPowers_88 (by decide) rfl ?_ | refine bz_iinc3 dX0_tableauxToPowers_88 rfl (by decide) rfl ?_
      refine bz_goto (tgt := 2) dX0_tableauxToPowers_91 rfl ?_
      refine bz_st (by rw [bz_upJ_set, bz_upto_s (hF b h30).symm]) ?_
      exact ih (b + 1) _ _ _ (by omega)
    · rw [Int64.zero_add, bz_setJ_ne hne]
      rfl
theorem t_tP (hx : bz_sh kx = (1, 30, 0, [])) (hy : bz_sh ky = (1, 30, 0, [])) (hkx : kx < 73) (hky : ky < 73) (hne : kx ≠ ky) (hT : pz_T σ.2.1) {F : Nat → Int64} (hF : ∀ b, b < 30 → F b = zsum (fun i => σ.1 kx i * ba_X σ i b) (xt_start b) (xt_end b - xt_start b) * (nI (720 / xt_z b)).toInt64) : bz_V l ad K 73 mX0_tableauxToPowers 2 none (bz_setJ σ ky (bz_upto (σ.1 ky) F 30)) 0 [some (.ref (ad 9)), some (.ref (ad kx)), some (.ref (ad ky)), none, none, none, none] [] σ := by
  refine bz_iconst dX0_tableauxToPowers_0 kc_iconst_0 ?_
  refine bz_ist3 dX0_tableauxToPowers_1 (by decide) rfl ?_
  refine bz_st (by rw [bz_setJ_id (bz_upto_0 _ F)]) (t_tP_out hx hy hkx hky hne hT hF 30 0 none none none rfl)
theorem t_tC_in {b : Nat} {T : Int64} (hb : b < 30) (hy : bz_sh ky = (1, 30, 0, [])) (hky : ky < 73) (hT : pz_T σ.2.1)
    (k : bz_V l ad K 73 mX0_tableauxToCompletes 2 r σ' 54 [some (.ref (ad 9)), some (.ref (ad kx)), some (.ref (ad ky)), some (.int (nI b)), some (.long T), none, some (.int (nI (xt_end b)))] [] σ) :
    ∀ (m a : Nat) (acc : Int64), a + m = xt_end b → acc - zsum (fun i => σ.1 ky i * ba_K σ b i) a m = T → bz_V l ad K 73 mX0_tableauxToCompletes 2 r σ' 17 [some (.ref (ad 9)), some (.ref (ad kx)), some (.ref (ad ky)), some (.int (nI b)), some (.long acc), none, some (.int (nI a))] [] σ := by
  have hse := xt_se b hb
  intro m
  induction m with
  | zero =>
    intro a acc ha hs
    obtain rfl : a = xt_end b := by omega
    obtain rfl := zsub_end hs
    refine bz_iload dX0_tableauxToCompletes_17 rfl ?_
    refine bz_aload_n dX0_tableauxToCompletes_19 rfl ?_
    refine bz_iload_n dX0_tableauxToCompletes_20 rfl ?_
    refine bz_cV1I (z := 0) mv_X0_endFor mi_X0_endFor lk_X0_70 dX0_tableauxToCompletes_21 (by exact t_endFor (by exact hT) hb) (by omega) rfl (by omega) rfl rfl rfl (Nat.le_of_ble_eq_true rfl) (Nat.le_of_ble_eq_true rfl) ?_
    refine bz_icmp_geN (tgt := 54) dX0_tableauxToCompletes_24 rfl (by omega) (by omega) (fun _ => ?_) (fun q => absurd q (by omega))
    exact k
  | succ m ih =>
    intro a acc ha hs
    refine bz_iload dX0_tableauxToCompletes_17 rfl ?_
    refine bz_aload_n dX0_tableauxToCompletes_19 rfl ?_
    refine bz_iload_n dX0_tableauxToCompletes_20 rfl ?_
    refine bz_cV1I (z := 0) mv_X0_endFor mi_X0_endFor lk_X0_70 dX0_tableauxToCompletes_21 (by exact t_endFor (by exact hT) hb) (by omega) rfl (by omega) rfl rfl rfl (Nat.le_of_ble_eq_true rfl) (Nat.le_of_ble_eq_true rfl) ?_
    refine bz_icmp_geN (tgt := 54) dX0_tableauxToCompletes_24 rfl (by omega) (by omega) (fun q => absurd q (by omega)) (fun _ => ?_)
    refine bz_lload dX0_tableauxToCompletes_27 rfl ?_
    refine bz_aload_n dX0_tableauxToCompletes_29 rfl ?_
    refine bz_iload dX0_tableauxToCompletes_30 rfl ?_
    refine bz_laload dX0_tableauxToCompletes_32 hy (by omega) (by omega) ?_
    refine bz_aload_n dX0_tableauxToCompletes_33 rfl ?_
    refine bz_getf fl_X0_18 dX0_tableauxToCompletes_34 rfl rfl (by omega) ?_
    refine bz_iload_n dX0_tableauxToCompletes_37 rfl ?_
    refine bz_iload dX0_tableauxToCompletes_38 rfl ?_
    refine bz_cVN2I (z := 0) mv_X1_kostkaOf mi_X1_kostkaOf lk_X0_66 dX0_tableauxToCompletes_40 (by exact t_kostkaOf (by omega) hb (by omega)) (by omega) rfl (by omega) rfl rfl rfl (Nat.le_of_ble_eq_true rfl) (Nat.le_of_ble_eq_true rfl) ?_
    refine bz_i2l dX0_tableauxToCompletes_43 ?_
    refine bz_lmul dX0_tableauxToCompletes_44 ?_
    refine bz_lsub dX0_tableauxToCompletes_45 ?_
    refine bz_lst4 dX0_tableauxToCompletes_46 (by decide) rfl ?_
    first | refine bz_iinc6N dX0_tableauxToCompletes_48 (by decide) rfl ?_ | refine bz_iinc6 dX0_tableauxToCompletes_48 rfl (by decide) rfl ?_
    refine bz_goto (tgt := 17) dX0_tableauxToCompletes_51 rfl ?_
    have hs2 := zsub_step hs
    exact ih (a + 1) _ (by omega) hs2
theorem t_tC_body (hx : bz_sh kx = (1, 30, 0, [])) (hy : bz_sh ky = (1, 30, 0, [])) (hkx : kx < 73) (hky : ky < 73) (hne : kx ≠ ky) (hT : pz_T σ.2.1) {F : Nat → Int64} (hF : ∀ b, b < 30 → F b = σ.1 kx b - zsum (fun i => F i * ba_K σ b i) (b + 1) (xt_end b - (b + 1))) {b : Nat} (h30 : b < 30) (x4 x5 x6 : Option Value)
    (k : ∀ (x4 x5 x6 : Option Value), bz_V l ad K 73 mX0_tableauxToCompletes 2 r σ' 59 [some (.ref (ad 9)), some (.ref (ad kx)), some (.ref (ad ky)), some (.int (nI b)), x4, x5, x6] [] (bz_setJ σ ky (bz_from (σ.1 ky) F b 30))) :
    bz_V l ad K 73 mX0_tableauxToCompletes 2 r σ' 3 [some (.ref (ad 9)), some (.ref (ad kx)), some (.ref (ad ky)), some (.int (nI b)), x4, x5, x6] [] (bz_setJ σ ky (bz_from (σ.1 ky) F (b + 1) 30)) := by
  have hse := xt_se b h30
  refine bz_iload_n dX0_tableauxToCompletes_3 rfl ?_
  refine bz_if_lt (tgt := 65) dX0_tableauxToCompletes_4 rfl (fun q => absurd q (nI_pos (by omega))) (fun _ => ?_)
  refine bz_aload_n dX0_tableauxToCompletes_7 rfl ?_
  refine bz_iload_n dX0_tableauxToCompletes_8 rfl ?_
  refine bz_laload dX0_tableauxToCompletes_9 hx (by omega) h30 ?_
  refine bz_lst4 dX0_tableauxToCompletes_10 (by decide) rfl ?_
  refine bz_iload_n dX0_tableauxToCompletes_12 rfl ?_
  refine bz_iconst dX0_tableauxToCompletes_13 kc_iconst_1 ?_
  first | refine bz_iaddN dX0_tableauxToCompletes_14 ?_ | refine bz_iadd dX0_tableauxToCompletes_14 ?_
  refine bz_ist6 dX0_tableauxToCompletes_15 (by decide) rfl ?_
  refine t_tC_in (T := F b) h30 hy hky (by exact hT) ?_ (xt_end b - (b + 1)) (b + 1) _ (by omega) ?_
  · refine bz_aload_n dX0_tableauxToCompletes_54 rfl ?_
    refine bz_iload_n dX0_tableauxToCompletes_55 rfl ?_
    refine bz_lload dX0_tableauxToCompletes_56 rfl ?_
    refine bz_lastore dX0_tableauxToCompletes_58 hy (by omega) h30 ?_
    refine bz_st (by rw [bz_upJ_set, bz_from_s h30 rfl]) ?_
    exact k _ _ _
  · rw [hF b h30, bz_setJ_ne hne, bz_setJ_at]
    refine congrArg (fun z => σ.1 kx b - z) (zsum_congr _ _ (fun i h1 h2 => ?_))
    rw [bz_from_in (by omega) (by omega)]
    rfl
theorem t_tC_out (hx : bz_sh kx = (1, 30, 0, [])) (hy : bz_sh ky = (1, 30, 0, [])) (hkx : kx < 73) (hky : ky < 73) (hne : kx ≠ ky) (hT : pz_T σ.2.1) {F : Nat → Int64} (hF : ∀ b, b < 30 → F b = σ.1 kx b - zsum (fun i => F i * ba_K σ b i) (b + 1) (xt_end b - (b + 1))) :
    ∀ (b : Nat) (x4 x5 x6 : Option Value), b < 30 → bz_V l ad K 73 mX0_tableauxToCompletes 2 none (bz_setJ σ ky (bz_upto (σ.1 ky) F 30)) 3 [some (.ref (ad 9)), some (.ref (ad kx)), some (.ref (ad ky)), some (.int (nI b)), x4, x5, x6] [] (bz_setJ σ ky (bz_from (σ.1 ky) F (b + 1) 30)) := by
  intro b
  induction b with
  | zero =>
    intro x4 x5 x6 hb
    refine t_tC_body hx hy hkx hky hne hT hF (by omega) x4 x5 x6 (fun x4 x5 x6 => ?_)
    refine bz_iinc3 dX0_tableauxToCompletes_59 rfl (by decide) rfl ?_
    refine bz_goto (tgt := 3) dX0_tableauxToCompletes_62 rfl ?_
    refine bz_iload_n dX0_tableauxToCompletes_3 rfl ?_
    refine bz_if_lt (tgt := 65) dX0_tableauxToCompletes_4 rfl (fun _ => ?_) (fun q => absurd (by decide) q)
    refine bz_vret dX0_tableauxToCompletes_65 rfl ?_
    rw [bz_from_0]
  | succ b ih =>
    intro x4 x5 x6 hb
    refine t_tC_body hx hy hkx hky hne hT hF hb x4 x5 x6 (fun x4 x5 x6 => ?_)
    first | refine bz_idec3N dX0_tableauxToCompletes_59 (by decide) rfl ?_ | refine bz_iinc3 dX0_tableauxToCompletes_59 rfl (by decide) rfl ?_
    refine bz_goto (tgt := 3) dX0_tableauxToCompletes_62 rfl ?_
    exact ih _ _ _ (by omega)
theorem t_tC (hx : bz_sh kx = (1, 30, 0, [])) (hy : bz_sh ky = (1, 30, 0, [])) (hkx : kx < 73) (hky : ky < 73) (hne : kx ≠ ky) (hT : pz_T σ.2.1) {F : Nat → Int64} (hF : ∀ b, b < 30 → F b = σ.1 kx b - zsum (fun i => F i * ba_K σ b i) (b + 1) (xt_end b - (b + 1))) : bz_V l ad K 73 mX0_tableauxToCompletes 2 none (bz_setJ σ ky (bz_upto (σ.1 ky) F 30)) 0 [some (.ref (ad 9)), some (.ref (ad kx)), some (.ref (ad ky)), none, none, none, none] [] σ := by
  refine bz_bipush dX0_tableauxToCompletes_0 kc_bipush_29 ?_
  refine bz_ist3 dX0_tableauxToCompletes_2 (by decide) rfl ?_
  refine bz_st (by rw [bz_setJ_id (bz_from_n _ F 30)]) (t_tC_out hx hy hkx hky hne hT hF 29 none none none (by omega))
end BA
