/-! toWeights -/
def ba_W (σ : bz_S) (N W : Nat → Int64) : Prop := ∀ b, b < 30 → W b = zsum (fun a => N a * ba_K σ a b) (xt_start b) (b + 1 - xt_start b)
def ba_C (σ : bz_S) (x N : Nat → Int64) : Prop := ∀ b, b < 30 → N b = zsum (fun i => x i * ba_K σ b i) b (xt_end b - b)
def ba_T (σ : bz_S) (x N : Nat → Int64) : Prop := ∀ b, b < 30 → N b = zsum (fun i => x i * ba_X σ b i) (xt_start b) (xt_end b - xt_start b)
def ba_to (σ : bz_S) (base : Nat) (x W : Nat → Int64) : Prop := match base with
  | 0 => ∀ b, b < 30 → W b = x b
  | 1 => ∃ N, ba_C σ x N ∧ ba_W σ (fun j => N (xt_conj j)) W
  | 2 => ∃ N, ba_C σ x N ∧ ba_W σ N W
  | 3 => ∃ N, ba_T σ x N ∧ ba_W σ N W
  | _ => ba_W σ x W
section BC
variable {l : Launch} {ad : Nat → Nat} {K : bz_K} {σ σ' : bz_S} {kx ky : Nat} {r : Option Value}
theorem t_toW_end {S : bz_S} {N W : Nat → Int64} (hy : bz_sh ky = (1, 30, 0, [])) (hky : ky < 73) (hy10 : ky ≠ 10) (hT : pz_T S.2.1) (hN : ∀ j, j < 30 → S.1 10 j = N j) (hW : ba_W S N W) {x1 x2 : Option Value} : bz_V l ad K 73 mX0_toWeights 3 none (bz_setJ S ky (bz_upto (S.1 ky) W 30)) 89 [some (.ref (ad 9)), x1, x2, some (.ref (ad ky))] [] S := by
  have h10 : bz_sh 10 = (1, 30, 0, []) := rfl
  refine bz_aload_n dX0_toWeights_89 rfl ?_
  refine bz_aload_n dX0_toWeights_90 rfl ?_
  refine bz_getf fl_X0_9 dX0_toWeights_91 rfl rfl (by omega) ?_
  refine bz_aload_n dX0_toWeights_94 rfl ?_
  refine bz_cV2U (z := 4) mv_X0_tableauxToWeights mi_X0_tableauxToWeights lk_X0_47 dX0_toWeights_95 (by exact t_tW (F := W) h10 hy (by omega) hky (fun q => hy10 q.symm) (by exact hT) (fun b hb => by have hse := xt_se b hb; rw [hW b hb]; refine zsum_congr _ _ (fun i h1 h2 => ?_); rw [hN i (by omega)])) (by omega) rfl (by omega) rfl rfl rfl (Nat.le_of_ble_eq_true rfl) (Nat.le_of_ble_eq_true rfl) ?_
  refine bz_vret dX0_toWeights_98 rfl rfl
theorem t_toW {base : Nat} {W : Nat → Int64} (hbase : base < 5) (hx : bz_sh kx = (1, 30, 0, [])) (hy : bz_sh ky = (1, 30, 0, [])) (hkx : kx < 73) (hky : ky < 73) (hx10 : kx ≠ 10) (hx11 : kx ≠ 11) (hy10 : ky ≠ 10) (hy11 : ky ≠ 11) (hT : pz_T σ.2.1) (hF : ba_to σ base (σ.1 kx) W) :
    ∃ σ2, bz_V l ad K 73 mX0_toWeights 3 none σ2 0 [some (.ref (ad 9)), some (.int (nI base)), some (.ref (ad kx)), some (.ref (ad ky))] [] σ ∧ bz_fw σ σ2 ky ∧ ∀ j, j < 30 → σ2.1 ky j = W j := by
  have h10 : bz_sh 10 = (1, 30, 0, []) := rfl
  have h11 : bz_sh 11 = (1, 30, 0, []) := rfl
  match base, hbase, hF with
  | 0, _, hF =>
    refine ⟨bz_setJ σ ky (fun j => if j < 30 then σ.1 kx j else σ.1 ky j), ?_, ⟨rfl, fun j _ _ h => bz_setJ_ne h⟩, fun j hj => by rw [bz_setJ_at, hF j hj]; simp [hj]⟩
    refine bz_iload_n dX0_toWeights_0 rfl ?_
    refine bz_if_ne (tgt := 14) dX0_toWeights_1 rfl (fun q => absurd (by decide) q) (fun _ => ?_)
    refine bz_aload_n dX0_toWeights_4 rfl ?_
    refine bz_iconst dX0_toWeights_5 kc_iconst_0 ?_
    refine bz_aload_n dX0_toWeights_6 rfl ?_
    refine bz_iconst dX0_toWeights_7 kc_iconst_0 ?_
    refine bz_bipush dX0_toWeights_8 kc_bipush_30 ?_
    refine bz_copy lk_X0_22 wac_n wac_s wi_java_lang_System (by omega) dX0_toWeights_10 hx hy (by omega) (by omega) (Nat.le_of_ble_eq_true rfl) ?_
    refine bz_vret dX0_toWeights_13 rfl rfl
  | 1, _, hF =>
    obtain ⟨N, hN, hW⟩ := hF
    refine ⟨bz_setJ (bz_setJ (bz_setJ σ 11 (bz_upto (σ.1 11) N 30)) 10 (bz_upto (σ.1 10) (fun j => bz_upto (σ.1 11) N 30 (xt_conj j)) 30)) ky (bz_upto (σ.1 ky) W 30), ?_, ⟨rfl, fun j h1 h2 h => by rw [bz_setJ_ne h, bz_setJ_ne h1, bz_setJ_ne h2]⟩, fun j hj => by rw [bz_setJ_at, bz_upto_lt hj]⟩
    refine bz_iload_n dX0_toWeights_0 rfl ?_
    refine bz_if_ne (tgt := 14) dX0_toWeights_1 rfl (fun _ => ?_) (fun q => absurd q (by decide))
    refine bz_iload_n dX0_toWeights_14 rfl ?_
    refine bz_iconst dX0_toWeights_15 kc_iconst_1 ?_
    refine bz_icmp_ne (tgt := 43) dX0_toWeights_16 rfl (fun q => absurd (by decide) q) (fun _ => ?_)
    refine bz_aload_n dX0_toWeights_19 rfl ?_
    refine bz_aload_n dX0_toWeights_20 rfl ?_
    refine bz_aload_n dX0_toWeights_21 rfl ?_
    refine bz_getf fl_X0_15 dX0_toWeights_22 rfl rfl (by omega) ?_
    refine bz_cV2U (z := 4) mv_X0_completesToTableaux mi_X0_completesToTableaux lk_X0_41 dX0_toWeights_25 (by exact t_cT (F := N) hx h11 hkx (by omega) hx11 (by exact hT) hN) (by omega) rfl (by omega) rfl rfl rfl (Nat.le_of_ble_eq_true rfl) (Nat.le_of_ble_eq_true rfl) ?_
    refine bz_aload_n dX0_toWeights_28 rfl ?_
    refine bz_aload_n dX0_toWeights_29 rfl ?_
    refine bz_getf fl_X0_15 dX0_toWeights_30 rfl rfl (by omega) ?_
    refine bz_aload_n dX0_toWeights_33 rfl ?_
    refine bz_getf fl_X0_9 dX0_toWeights_34 rfl rfl (by omega) ?_
    refine bz_cV2U (z := 2) mv_X0_conjugate mi_X0_conjugate lk_X0_32 dX0_toWeights_37 (by exact t_cj h11 h10 (by omega) (by omega) (by omega) (by exact hT)) (by omega) rfl (by omega) rfl rfl rfl (Nat.le_of_ble_eq_true rfl) (Nat.le_of_ble_eq_true rfl) ?_
    refine bz_goto (tgt := 89) dX0_toWeights_40 rfl ?_
    refine bz_st (σ2 := bz_setJ (bz_setJ σ 11 (bz_upto (σ.1 11) N 30)) 10 (bz_upto (σ.1 10) (fun j => bz_upto (σ.1 11) N 30 (xt_conj j)) 30)) (by rw [bz_setJ_at, bz_setJ_ne (by omega)]) ?_
    have := t_toW_end (l := l) (ad := ad) (K := K) (S := bz_setJ (bz_setJ σ 11 (bz_upto (σ.1 11) N 30)) 10 (bz_upto (σ.1 10) (fun j => bz_upto (σ.1 11) N 30 (xt_conj j)) 30)) (N := fun j => N (xt_conj j)) (W := W) hy hky hy10 (by exact hT) (fun j hj => by rw [bz_setJ_at, bz_upto_lt hj, bz_upto_lt (xt_conj30 j hj)]) (by exact hW) (x1 := some (.int (nI 1))) (x2 := some (.ref (ad kx)))
    rw [bz_setJ_ne hy10, bz_setJ_ne hy11] at this
    exact this
  | 2, _, hF =>
    obtain ⟨N, hN, hW⟩ := hF
    refine ⟨bz_setJ (bz_setJ σ 10 (bz_upto (σ.1 10) N 30)) ky (bz_upto ((bz_setJ σ 10 (bz_upto (σ.1 10) N 30)).1 ky) W 30), ?_, ⟨rfl, fun j h1 h2 h => by rw [bz_setJ_ne h, bz_setJ_ne h1]⟩, fun j hj => by rw [bz_setJ_at, bz_upto_lt hj]⟩
    refine bz_iload_n dX0_toWeights_0 rfl ?_
    refine bz_if_ne (tgt := 14) dX0_toWeights_1 rfl (fun _ => ?_) (fun q => absurd q (by decide))
    refine bz_iload_n dX0_toWeights_14 rfl ?_
    refine bz_iconst dX0_toWeights_15 kc_iconst_1 ?_
    refine bz_icmp_ne (tgt := 43) dX0_toWeights_16 rfl (fun _ => ?_) (fun q => absurd q (by decide))
    refine bz_iload_n dX0_toWeights_43 rfl ?_
    refine bz_iconst dX0_toWeights_44 kc_iconst_2 ?_
    refine bz_icmp_ne (tgt := 60) dX0_toWeights_45 rfl (fun q => absurd (by decide) q) (fun _ => ?_)
    refine bz_aload_n dX0_toWeights_48 rfl ?_
    refine bz_aload_n dX0_toWeights_49 rfl ?_
    refine bz_aload_n dX0_toWeights_50 rfl ?_
    refine bz_getf fl_X0_9 dX0_toWeights_51 rfl rfl (by omega) ?_
    refine bz_cV2U (z := 4) mv_X0_completesToTableaux mi_X0_completesToTableaux lk_X0_41 dX0_toWeights_54 (by exact t_cT (F := N) hx h10 hkx (by omega) hx10 (by exact hT) hN) (by omega) rfl (by omega) rfl rfl rfl (Nat.le_of_ble_eq_true rfl) (Nat.le_of_ble_eq_true rfl) ?_
    refine bz_goto (tgt := 89) dX0_toWeights_57 rfl ?_
    exact t_toW_end hy hky hy10 (by exact hT) (fun j hj => by rw [bz_setJ_at, bz_upto_lt hj]) (by exact hW)
  | 3, _, hF =>
    obtain ⟨N, hN, hW⟩ := hF
    refine ⟨bz_setJ (bz_setJ σ 10 (bz_upto (σ.1 10) N 30)) ky (bz_upto ((bz_setJ σ 10 (bz_upto (σ.1 10) N 30)).1 ky) W 30), ?_, ⟨rfl, fun j h1 h2 h => by rw [bz_setJ_ne h, bz_setJ_ne h1]⟩, fun j hj => by rw [bz_setJ_at, bz_upto_lt hj]⟩
    refine bz_iload_n dX0_toWeights_0 rfl ?_
    refine bz_if_ne (tgt := 14) dX0_toWeights_1 rfl (fun _ => ?_) (fun q => absurd q (by decide))
    refine bz_iload_n dX0_toWeights_14 rfl ?_
    refine bz_iconst dX0_toWeights_15 kc_iconst_1 ?_
    refine bz_icmp_ne (tgt := 43) dX0_toWeights_16 rfl (fun _ => ?_) (fun q => absurd q (by decide))
    refine bz_iload_n dX0_toWeights_43 rfl ?_
    refine bz_iconst dX0_toWeights_44 kc_iconst_2 ?_
    refine bz_icmp_ne (tgt := 60) dX0_toWeights_45 rfl (fun _ => ?_) (fun q => absurd q (by decide))
    refine bz_iload_n dX0_toWeights_60 rfl ?_
    refine bz_iconst dX0_toWeights_61 kc_iconst_3 ?_
    refine bz_icmp_ne (tgt := 77) dX0_toWeights_62 rfl (fun q => absurd (by decide) q) (fun _ => ?_)
    refine bz_aload_n dX0_toWeights_65 rfl ?_
    refine bz_aload_n dX0_toWeights_66 rfl ?_
    refine bz_aload_n dX0_toWeights_67 rfl ?_
    refine bz_getf fl_X0_9 dX0_toWeights_68 rfl rfl (by omega) ?_
    refine bz_cV2U (z := 4) mv_X0_powersToTableaux mi_X0_powersToTableaux lk_X0_44 dX0_toWeights_71 (by exact t_pT (F := N) hx h10 hkx (by omega) hx10 (by exact hT) hN) (by omega) rfl (by omega) rfl rfl rfl (Nat.le_of_ble_eq_true rfl) (Nat.le_of_ble_eq_true rfl) ?_
    refine bz_goto (tgt := 89) dX0_toWeights_74 rfl ?_
    exact t_toW_end hy hky hy10 (by exact hT) (fun j hj => by rw [bz_setJ_at, bz_upto_lt hj]) (by exact hW)
  | 4, _, hF =>
    refine ⟨bz_setJ (bz_setJ σ 10 (fun j => if j < 30 then σ.1 kx j else σ.1 10 j)) ky (bz_upto ((bz_setJ σ 10 (fun j => if j < 30 then σ.1 kx j else σ.1 10 j)).1 ky) W 30), ?_, ⟨rfl, fun j h1 h2 h => by rw [bz_setJ_ne h, bz_setJ_ne h1]⟩, fun j hj => by rw [bz_setJ_at, bz_upto_lt hj]⟩
    refine bz_iload_n dX0_toWeights_0 rfl ?_
    refine bz_if_ne (tgt := 14) dX0_toWeights_1 rfl (fun _ => ?_) (fun q => absurd q (by decide))
    refine bz_iload_n dX0_toWeights_14 rfl ?_
    refine bz_iconst dX0_toWeights_15 kc_iconst_1 ?_
    refine bz_icmp_ne (tgt := 43) dX0_toWeights_16 rfl (fun _ => ?_) (fun q => absurd q (by decide))
    refine bz_iload_n dX0_toWeights_43 rfl ?_
    refine bz_iconst dX0_toWeights_44 kc_iconst_2 ?_
    refine bz_icmp_ne (tgt := 60) dX0_toWeights_45 rfl (fun _ => ?_) (fun q => absurd q (by decide))
    refine bz_iload_n dX0_toWeights_60 rfl ?_
    refine bz_iconst dX0_toWeights_61 kc_iconst_3 ?_
    refine bz_icmp_ne (tgt := 77) dX0_toWeights_62 rfl (fun _ => ?_) (fun q => absurd q (by decide))
    refine bz_aload_n dX0_toWeights_77 rfl ?_
    refine bz_iconst dX0_toWeights_78 kc_iconst_0 ?_
    refine bz_aload_n dX0_toWeights_79 rfl ?_
    refine bz_getf fl_X0_9 dX0_toWeights_80 rfl rfl (by omega) ?_
    refine bz_iconst dX0_toWeights_83 kc_iconst_0 ?_
    refine bz_bipush dX0_toWeights_84 kc_bipush_30 ?_
    refine bz_copy lk_X0_22 wac_n wac_s wi_java_lang_System (by omega) dX0_toWeights_86 hx h10 (by omega) (by omega) (Nat.le_of_ble_eq_true rfl) ?_
    exact t_toW_end (N := σ.1 kx) hy hky hy10 (by exact hT) (fun j hj => by rw [bz_setJ_at]; simp [hj]) (by exact hF)
  | n + 5, hb, _ => exact absurd hb (by omega)
end BC
