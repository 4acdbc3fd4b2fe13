/-! BasisMoves: the calls -/
def bz_xr (σ σ2 : bz_S) : Prop := σ2.2 = σ.2 ∧ ∀ j, j < 10 ∨ 22 < j → j < 51 ∨ 53 < j → σ2.1 j = σ.1 j
def bz_xm (σ σ2 : bz_S) (to : Nat) (R : Nat → Int64) : Prop := σ2.2 = σ.2 ∧ (∀ j, j < 10 ∨ 22 < j → j < 51 ∨ 53 < j → j ≠ 25 + to → σ2.1 j = σ.1 j) ∧ ∀ i, i < 30 → σ2.1 (25 + to) i = if zwA R 100000 then R i else σ.1 (25 + to) i
theorem bz_xr_rf (σ : bz_S) : bz_xr σ σ := ⟨rfl, fun _ _ _ => rfl⟩
theorem bz_xr_tr {a b c : bz_S} (h2 : bz_xr b c) (h1 : bz_xr a b) : bz_xr a c := ⟨h2.1.trans h1.1, fun j q1 q2 => (h2.2 j q1 q2).trans (h1.2 j q1 q2)⟩
theorem bz_fw_xr {σ σ2 : bz_S} {ky : Nat} (h : bz_fw σ σ2 ky) (hy : 51 ≤ ky ∧ ky ≤ 53) : bz_xr σ σ2 := ⟨h.1, fun j q1 q2 => h.2 j (by omega) (by omega) (by omega)⟩
theorem bz_set_xr {σ : bz_S} {k : Nat} {f : Nat → Int64} (h : (10 ≤ k ∧ k ≤ 22) ∨ (51 ≤ k ∧ k ≤ 53)) : bz_xr σ (bz_setJ σ k f) := ⟨rfl, fun j q1 q2 => bz_setJ_ne (by omega)⟩
theorem zwA_congr {f g : Nat → Int64} {b : Int64} (h : ∀ j, j < 30 → f j = g j) : zwA f b ↔ zwA g b := ⟨fun q j hj => by rw [← h j hj]; exact q j hj, fun q j hj => by rw [h j hj]; exact q j hj⟩
theorem hz_r_congr {f g : Nat → Int64} (h : ∀ j, j < 30 → f j = g j) : hz_r f = hz_r g := by
  unfold hz_r
  by_cases q : zwA g 100000
  · rw [if_pos q, if_pos ((zwA_congr h).mpr q)]
  · rw [if_neg q, if_neg (fun z => q ((zwA_congr h).mp z))]
theorem bz_pT {σ σ2 : bz_S} (h : σ2.2 = σ.2) (hT : pz_T σ.2.1) : pz_T σ2.2.1 := by rw [h]; exact hT
theorem wk_spr_congr {x x' y y' : Nat → Int64} (hx : ∀ j, j < 30 → x j = x' j) (hy : ∀ j, j < 30 → y j = y' j) {c : Nat} (hc : c < 30) : wk_spr x y c = wk_spr x' y' c := by
  unfold wk_spr
  have hle := (xp_start_le (6 - xt_deg c) (by omega)).2
  refine zsum_congr _ _ (fun d _ hd => ?_)
  have hj := xt_jn_ok c hc d (by omega) (by omega)
  rw [hx d (by omega), wk_sp, wk_sp, hy _ hj.2.2]
theorem wk_str_congr {x x' : Nat → Int64} (hx : ∀ j, j < 30 → x j = x' j) (k j : Nat) : wk_str x k j = wk_str x' k j := by
  unfold wk_str
  refine zsum_congr _ _ (fun a _ ha => ?_)
  unfold wk_sI
  rw [hx a (by omega)]
theorem wk_plug_congr {x x' y y' : Nat → Int64} (hx : ∀ j, j < 30 → x j = x' j) (hy : ∀ j, j < 30 → y j = y' j) (j : Nat) : wk_plug x y j = wk_plug x' y' j := by
  unfold wk_plug
  refine zsum_congr _ _ (fun c _ hc => ?_)
  rw [hx c (by omega), wk_pp_congr (St' := wk_str y') (by omega) (fun k _ _ j _ => wk_str_congr hy k j) (xt_part1 c (by omega)) (xt_len c) (Nat.le_refl _) j]
section X3B
variable {l : Launch} {ad : Nat → Nat} {K : bz_K} {σ σ0 σ' : bz_S} {r : Option Value}
theorem t_holdR {to : Nat} {R : Nat → Int64} (hto : to < 8) (hx : bz_xr σ0 σ) (hR : ∀ j, j < 30 → σ.1 53 j = R j) : ∃ σ2, bz_V l ad K 73 mX3_hold 2 (some (.int (hz_r R))) σ2 0 [some (.ref (ad 23)), some (.int (nI to))] [] σ ∧ bz_xm σ0 σ2 to R := by
  refine ⟨hz_s σ to, ?_, ?_⟩
  · rw [← hz_r_congr hR]
    exact t_hold hto
  · unfold hz_s
    have h25 : σ.1 (25 + to) = σ0.1 (25 + to) := hx.2 _ (by omega) (by omega)
    by_cases q : zwA (σ.1 53) 100000
    · rw [if_pos q]
      refine ⟨hx.1, fun j q1 q2 q3 => by rw [bz_setJ_ne q3, hx.2 j q1 q2], fun i hi => ?_⟩
      rw [bz_setJ_at, if_pos hi, if_pos ((zwA_congr hR).mp q), hR i hi]
    · rw [if_neg q]
      refine ⟨hx.1, fun j q1 q2 _ => hx.2 j q1 q2, fun i hi => ?_⟩
      rw [if_neg (fun z => q ((zwA_congr hR).mpr z)), h25]
theorem t_readPowers {a b : Nat} {A B : Nat → Int64} (ha : a < 8) (hb : b < 8) (hT : pz_T σ.2.1) (hA : bc_from 3 (σ.1 (25 + a)) A) (hB : bc_from 3 (σ.1 (25 + b)) B) : ∃ σ2, bz_V l ad K 73 mX3_readPowers 4 none σ2 0 [some (.ref (ad 23)), some (.int (nI a)), some (.int (nI b))] [] σ ∧ bz_xr σ σ2 ∧ (∀ j, j < 30 → σ2.1 51 j = A j) ∧ ∀ j, j < 30 → σ2.1 52 j = B j := by
  obtain ⟨σ1, hV1, hf1, h1⟩ := t_from (l := l) (ad := ad) (K := K) (σ := σ) (kx := 25 + a) (ky := 51) (base := 3) (by omega) (bz_sh25 a ha) rfl (by omega) (by omega) (by omega) (by omega) (by omega) (by omega) (by omega) hT (fun _ _ => rfl) hA
  have hw : σ1.1 (25 + b) = σ.1 (25 + b) := hf1.2 _ (by omega) (by omega) (by omega)
  obtain ⟨σ2, hV2, hf2, h2⟩ := t_from (l := l) (ad := ad) (K := K) (σ := σ1) (kx := 25 + b) (ky := 52) (base := 3) (by omega) (bz_sh25 b hb) rfl (by omega) (by omega) (by omega) (by omega) (by omega) (by omega) (by omega) (bz_pT hf1.1 hT) (fun j _ => by rw [hw]) hB
  refine ⟨σ2, ?_, bz_xr_tr (bz_fw_xr hf2 (by omega)) (bz_fw_xr hf1 (by omega)), fun j hj => by rw [hf2.2 51 (by omega) (by omega) (by omega)]; exact h1 j hj, h2⟩
  refine bz_aload_n dX3_readPowers_0 rfl ?_
  refine bz_getf fl_X3_21 dX3_readPowers_1 rfl rfl (by omega) ?_
  refine bz_iconst dX3_readPowers_4 kc_iconst_3 ?_
  refine bz_aload_n dX3_readPowers_5 rfl ?_
  refine bz_getf fl_X3_34 dX3_readPowers_6 rfl rfl (by omega) ?_
  refine bz_iload_n dX3_readPowers_9 rfl ?_
  refine bz_aaload dX3_readPowers_10 rfl (by omega) ha ?_
  refine bz_aload_n dX3_readPowers_11 rfl ?_
  refine bz_getf fl_X3_44 dX3_readPowers_12 rfl rfl (by omega) ?_
  refine bz_cVN3U (z := 0) mv_X0_fromWeights mi_X0_fromWeights lk_X3_122 dX3_readPowers_15 (by exact hV1) (by omega) rfl (by omega) rfl rfl rfl (Nat.le_of_ble_eq_true rfl) (Nat.le_of_ble_eq_true rfl) ?_
  refine bz_aload_n dX3_readPowers_18 rfl ?_
  refine bz_getf fl_X3_21 dX3_readPowers_19 rfl rfl (by omega) ?_
  refine bz_iconst dX3_readPowers_22 kc_iconst_3 ?_
  refine bz_aload_n dX3_readPowers_23 rfl ?_
  refine bz_getf fl_X3_34 dX3_readPowers_24 rfl rfl (by omega) ?_
  refine bz_iload_n dX3_readPowers_27 rfl ?_
  refine bz_aaload dX3_readPowers_28 rfl (by omega) hb ?_
  refine bz_aload_n dX3_readPowers_29 rfl ?_
  refine bz_getf fl_X3_48 dX3_readPowers_30 rfl rfl (by omega) ?_
  refine bz_cVN3U (z := 0) mv_X0_fromWeights mi_X0_fromWeights lk_X3_122 dX3_readPowers_33 (by exact hV2) (by omega) rfl (by omega) rfl rfl rfl (Nat.le_of_ble_eq_true rfl) (Nat.le_of_ble_eq_true rfl) ?_
  refine bz_vret dX3_readPowers_36 rfl rfl
theorem t_holdPowers {to : Nat} {Q W : Nat → Int64} (hto : to < 8) (hT : pz_T σ.2.1) (hx : bz_xr σ0 σ) (hQ : ∀ j, j < 30 → σ.1 53 j = Q j) (hW : bc_to 3 Q W) : ∃ σ2, bz_V l ad K 73 mX3_holdPowers 4 (some (.int (hz_r (fun j => W j / 720)))) σ2 0 [some (.ref (ad 23)), some (.int (nI to))] [] σ ∧ bz_xm σ0 σ2 to (fun j => W j / 720) := by
  obtain ⟨σ1, hV1, hf1, h1⟩ := t_to (l := l) (ad := ad) (K := K) (σ := bz_setJ σ 51 (fun j => if j < 30 then σ.1 53 j else σ.1 51 j)) (kx := 51) (ky := 53) (base := 3) (by omega) rfl rfl (by omega) (by omega) (by omega) (by omega) (by omega) (by omega) (by exact hT) (fun j hj => by rw [bz_setJ_at, if_pos hj]; exact hQ j hj) hW
  obtain ⟨σ2, hV2, hm⟩ := t_holdR (l := l) (ad := ad) (K := K) (σ0 := σ0) (σ := bz_setJ σ1 53 (bz_upto (σ1.1 53) (fun j => σ1.1 53 j / 720) 30)) (R := fun j => W j / 720) hto (bz_xr_tr (bz_set_xr (by omega)) (bz_xr_tr (bz_fw_xr hf1 (by omega)) (bz_xr_tr (bz_set_xr (by omega)) hx))) (fun j hj => by rw [bz_setJ_at, bz_upto_lt hj, h1 j hj])
  refine ⟨σ2, ?_, hm⟩
  refine bz_aload_n dX3_holdPowers_0 rfl ?_
  refine bz_getf fl_X3_51 dX3_holdPowers_1 rfl rfl (by omega) ?_
  refine bz_iconst dX3_holdPowers_4 kc_iconst_0 ?_
  refine bz_aload_n dX3_holdPowers_5 rfl ?_
  refine bz_getf fl_X3_44 dX3_holdPowers_6 rfl rfl (by omega) ?_
  refine bz_iconst dX3_holdPowers_9 kc_iconst_0 ?_
  refine bz_bipush dX3_holdPowers_10 kc_bipush_30 ?_
  refine bz_copy lk_X3_165 wac_n wac_s wi_java_lang_System (by omega) dX3_holdPowers_12 rfl rfl (by omega) (by omega) (Nat.le_of_ble_eq_true rfl) ?_
  refine bz_aload_n dX3_holdPowers_15 rfl ?_
  refine bz_getf fl_X3_21 dX3_holdPowers_16 rfl rfl (by omega) ?_
  refine bz_iconst dX3_holdPowers_19 kc_iconst_3 ?_
  refine bz_aload_n dX3_holdPowers_20 rfl ?_
  refine bz_getf fl_X3_44 dX3_holdPowers_21 rfl rfl (by omega) ?_
  refine bz_aload_n dX3_holdPowers_24 rfl ?_
  refine bz_getf fl_X3_51 dX3_holdPowers_25 rfl rfl (by omega) ?_
  refine bz_cVN3U (z := 0) mv_X0_toWeights mi_X0_toWeights lk_X3_107 dX3_holdPowers_28 (by exact hV1) (by omega) rfl (by omega) rfl rfl rfl (Nat.le_of_ble_eq_true rfl) (Nat.le_of_ble_eq_true rfl) ?_
  refine bz_aload_n dX3_holdPowers_31 rfl ?_
  refine bz_getf fl_X3_51 dX3_holdPowers_32 rfl rfl (by omega) ?_
  refine bz_cSN1U (z := 1) mv_X2_divideByCommon ws_X2_divideByCommon lk_X3_178 dX3_holdPowers_35 (by exact t_div rfl (by omega)) (by omega) rfl (Nat.le_of_ble_eq_true rfl) (Nat.le_of_ble_eq_true rfl) ?_
  refine bz_aload_n dX3_holdPowers_38 rfl ?_
  refine bz_iload_n dX3_holdPowers_39 rfl ?_
  refine bz_cV1I (z := 0) mv_X3_hold mi_X3_hold lk_X3_111 dX3_holdPowers_40 (by exact hV2) (by omega) rfl (by omega) rfl rfl rfl (Nat.le_of_ble_eq_true rfl) (Nat.le_of_ble_eq_true rfl) ?_
  refine bz_iret dX3_holdPowers_43 rfl rfl rfl
theorem x_part {a k : Nat} (ha : a < 30) (hk : k < 6) : bz_V l ad K 73 mX3_part 2 (some (.int (nI (xp_part a k)))) σ 0 [some (.ref (ad 23)), some (.int (nI a)), some (.int (nI k))] [] σ := by
  refine bz_iload_n dX3_part_0 rfl ?_
  refine bz_cS1I (z := 0) mv_X3_isPartition ws_X3_isPartition lk_X3_54 dX3_part_1 (by exact t_isPart ha) (by omega) rfl (Nat.le_of_ble_eq_true rfl) (Nat.le_of_ble_eq_true rfl) ?_
  refine bz_if_ne (tgt := 9) dX3_part_4 rfl (fun _ => ?_) (fun q => absurd q (by decide))
  refine bz_iload_n dX3_part_9 rfl ?_
  refine bz_if_lt (tgt := 19) dX3_part_10 rfl (fun q => absurd q (nI_pos (by omega))) (fun _ => ?_)
  refine bz_iload_n dX3_part_13 rfl ?_
  refine bz_bipush dX3_part_14 kc_bipush_6 ?_
  refine bz_icmp_ltN (tgt := 22) dX3_part_16 rfl (by omega) (by omega) (fun _ => ?_) (fun q => absurd q (by omega))
  refine bz_aload_n dX3_part_22 rfl ?_
  refine bz_getf fl_X3_10 dX3_part_23 rfl rfl (by omega) ?_
  refine bz_iload_n dX3_part_26 rfl ?_
  refine bz_iload_n dX3_part_27 rfl ?_
  refine bz_cVN2I (z := 0) mv_X1_partAt mi_X1_partAt lk_X3_58 dX3_part_28 (by exact t_partAt ha hk) (by omega) rfl (by omega) rfl rfl rfl (Nat.le_of_ble_eq_true rfl) (Nat.le_of_ble_eq_true rfl) ?_
  refine bz_iret dX3_part_31 rfl rfl rfl
theorem x_part_u {x y : Int32} (h : x < 0 ∨ nI 30 ≤ x) : bz_V l ad K 73 mX3_part 2 (some (.int (-1))) σ 0 [some (.ref (ad 23)), some (.int x), some (.int y)] [] σ := by
  refine bz_iload_n dX3_part_0 rfl ?_
  refine bz_cS1I (z := 0) mv_X3_isPartition ws_X3_isPartition lk_X3_54 dX3_part_1 (by exact t_isPartF h) (by omega) rfl (Nat.le_of_ble_eq_true rfl) (Nat.le_of_ble_eq_true rfl) ?_
  refine bz_if_ne (tgt := 9) dX3_part_4 rfl (fun q => absurd (by decide) q) (fun _ => ?_)
  refine bz_iconst dX3_part_7 kc_iconst_m1 ?_
  refine bz_iret dX3_part_8 rfl rfl rfl
theorem x_part_o {a : Nat} {y : Int32} (ha : a < 30) (h : y < 0 ∨ nI 6 ≤ y) : bz_V l ad K 73 mX3_part 2 (some (.int (-2))) σ 0 [some (.ref (ad 23)), some (.int (nI a)), some (.int y)] [] σ := by
  refine bz_iload_n dX3_part_0 rfl ?_
  refine bz_cS1I (z := 0) mv_X3_isPartition ws_X3_isPartition lk_X3_54 dX3_part_1 (by exact t_isPart ha) (by omega) rfl (Nat.le_of_ble_eq_true rfl) (Nat.le_of_ble_eq_true rfl) ?_
  refine bz_if_ne (tgt := 9) dX3_part_4 rfl (fun _ => ?_) (fun q => absurd q (by decide))
  refine bz_iload_n dX3_part_9 rfl ?_
  refine bz_if_lt (tgt := 19) dX3_part_10 rfl (fun h1 => ?_) (fun h1 => ?_)
  · refine bz_bipush dX3_part_19 kc_bipush_m2 ?_
    refine bz_iret dX3_part_21 rfl rfl rfl
  · refine bz_iload_n dX3_part_13 rfl ?_
    refine bz_bipush dX3_part_14 kc_bipush_6 ?_
    refine bz_icmp_lt (tgt := 22) dX3_part_16 rfl (fun q => absurd q (Int32.not_lt.mpr (h.resolve_left h1))) (fun _ => ?_)
    refine bz_bipush dX3_part_19 kc_bipush_m2 ?_
    refine bz_iret dX3_part_21 rfl rfl rfl
def xt_ab (a w : Nat) : Nat := match w with
  | 0 => xt_deg a
  | 1 => xt_len a
  | 2 => xt_conj a
  | 3 => xt_z a
  | _ => xt_kost (a * 30 + (xt_end a - 1))
theorem x_about {a w : Nat} (hT : pz_T σ.2.1) (ha : a < 30) (hw : w < 5) : bz_V l ad K 73 mX3_about 2 (some (.int (nI (xt_ab a w)))) σ 0 [some (.ref (ad 23)), some (.int (nI a)), some (.int (nI w))] [] σ := by
  have hse := xt_se a ha
  refine bz_iload_n dX3_about_0 rfl ?_
  refine bz_cS1I (z := 0) mv_X3_isPartition ws_X3_isPartition lk_X3_54 dX3_about_1 (by exact t_isPart ha) (by omega) rfl (Nat.le_of_ble_eq_true rfl) (Nat.le_of_ble_eq_true rfl) ?_
  refine bz_if_ne (tgt := 9) dX3_about_4 rfl (fun _ => ?_) (fun q => absurd q (by decide))
  refine bz_iload_n dX3_about_9 rfl ?_
  match w, hw with
  | 0, _ =>
    refine bz_tblIn (tgt := 44) dX3_about_10 (by decide) (by decide) rfl rfl ?_
    refine bz_aload_n dX3_about_44 rfl ?_
    refine bz_getf fl_X3_10 dX3_about_45 rfl rfl (by omega) ?_
    refine bz_getf fl_X3_62 dX3_about_48 rfl rfl (by omega) ?_
    refine bz_iload_n dX3_about_51 rfl ?_
    refine bz_iaload dX3_about_52 rfl (by omega) (by omega) ?_
    refine bz_topi (hT.1 a ha) ?_
    refine bz_iret dX3_about_53 rfl rfl rfl
  | 1, _ =>
    refine bz_tblIn (tgt := 54) dX3_about_10 (by decide) (by decide) rfl rfl ?_
    refine bz_aload_n dX3_about_54 rfl ?_
    refine bz_getf fl_X3_10 dX3_about_55 rfl rfl (by omega) ?_
    refine bz_getf fl_X3_66 dX3_about_58 rfl rfl (by omega) ?_
    refine bz_iload_n dX3_about_61 rfl ?_
    refine bz_iaload dX3_about_62 rfl (by omega) (by omega) ?_
    refine bz_topi (hT.2.1 a ha) ?_
    refine bz_iret dX3_about_63 rfl rfl rfl
  | 2, _ =>
    refine bz_tblIn (tgt := 64) dX3_about_10 (by decide) (by decide) rfl rfl ?_
    refine bz_aload_n dX3_about_64 rfl ?_
    refine bz_getf fl_X3_10 dX3_about_65 rfl rfl (by omega) ?_
    refine bz_getf fl_X3_69 dX3_about_68 rfl rfl (by omega) ?_
    refine bz_iload_n dX3_about_71 rfl ?_
    refine bz_iaload dX3_about_72 rfl (by omega) (by omega) ?_
    refine bz_topi (hT.2.2.2.1 a ha) ?_
    refine bz_iret dX3_about_73 rfl rfl rfl
  | 3, _ =>
    refine bz_tblIn (tgt := 74) dX3_about_10 (by decide) (by decide) rfl rfl ?_
    refine bz_aload_n dX3_about_74 rfl ?_
    refine bz_getf fl_X3_10 dX3_about_75 rfl rfl (by omega) ?_
    refine bz_getf fl_X3_72 dX3_about_78 rfl rfl (by omega) ?_
    refine bz_iload_n dX3_about_81 rfl ?_
    refine bz_iaload dX3_about_82 rfl (by omega) (by omega) ?_
    refine bz_topi (hT.2.2.2.2.1 a ha) ?_
    refine bz_iret dX3_about_83 rfl rfl rfl
  | 4, _ =>
    refine bz_tblIn (tgt := 84) dX3_about_10 (by decide) (by decide) rfl rfl ?_
    refine bz_aload_n dX3_about_84 rfl ?_
    refine bz_getf fl_X3_10 dX3_about_85 rfl rfl (by omega) ?_
    refine bz_iload_n dX3_about_88 rfl ?_
    refine bz_aload_n dX3_about_89 rfl ?_
    refine bz_getf fl_X3_10 dX3_about_90 rfl rfl (by omega) ?_
    refine bz_getf fl_X3_62 dX3_about_93 rfl rfl (by omega) ?_
    refine bz_iload_n dX3_about_96 rfl ?_
    refine bz_iaload dX3_about_97 rfl (by omega) (by omega) ?_
    refine bz_topi (hT.1 a ha) ?_
    refine bz_cSN1I (z := 0) mv_X1_endOf ws_X1_endOf lk_X3_75 dX3_about_98 (by exact t_endOf (xt_deg6 a ha)) (by omega) rfl (Nat.le_of_ble_eq_true rfl) (Nat.le_of_ble_eq_true rfl) ?_
    refine bz_iconst dX3_about_101 kc_iconst_1 ?_
    refine bz_isubN dX3_about_102 (show 1 ≤ xt_end a by omega) ?_
    refine bz_cVN2I (z := 0) mv_X1_kostkaOf mi_X1_kostkaOf lk_X3_79 dX3_about_103 (by exact t_kostkaOf (by omega) ha (show xt_end a - 1 < 30 by omega)) (by omega) rfl (by omega) rfl rfl rfl (Nat.le_of_ble_eq_true rfl) (Nat.le_of_ble_eq_true rfl) ?_
    refine bz_topi (hT.2.2.2.2.2.2.1 _ (show a * 30 + (xt_end a - 1) < 900 by omega)) ?_
    refine bz_iret dX3_about_106 rfl rfl rfl
  | n + 5, hw => exact absurd hw (by omega)
theorem x_about_u {x y : Int32} (h : x < 0 ∨ nI 30 ≤ x) : bz_V l ad K 73 mX3_about 2 (some (.int (-1))) σ 0 [some (.ref (ad 23)), some (.int x), some (.int y)] [] σ := by
  refine bz_iload_n dX3_about_0 rfl ?_
  refine bz_cS1I (z := 0) mv_X3_isPartition ws_X3_isPartition lk_X3_54 dX3_about_1 (by exact t_isPartF h) (by omega) rfl (Nat.le_of_ble_eq_true rfl) (Nat.le_of_ble_eq_true rfl) ?_
  refine bz_if_ne (tgt := 9) dX3_about_4 rfl (fun q => absurd (by decide) q) (fun _ => ?_)
  refine bz_iconst dX3_about_7 kc_iconst_m1 ?_
  refine bz_iret dX3_about_8 rfl rfl rfl
theorem bz_out {x : Int32} {N : Nat} (hN : N < 2 ^ 31) (h : x < 0 ∨ nI (N + 1) ≤ x) (h1 : N + 1 < 2 ^ 31) : x.toInt < 0 ∨ (N : Int) < x.toInt := by
  rcases h with h | h
  · exact Or.inl (by simpa using Int32.lt_iff_toInt_lt.mp h)
  · have := Int32.le_iff_toInt_le.mp h
    rw [nI_toInt h1] at this
    exact Or.inr (by omega)
theorem x_about_o {a : Nat} {y : Int32} (ha : a < 30) (h : y < 0 ∨ nI 5 ≤ y) : bz_V l ad K 73 mX3_about 2 (some (.int (-2))) σ 0 [some (.ref (ad 23)), some (.int (nI a)), some (.int y)] [] σ := by
  refine bz_iload_n dX3_about_0 rfl ?_
  refine bz_cS1I (z := 0) mv_X3_isPartition ws_X3_isPartition lk_X3_54 dX3_about_1 (by exact t_isPart ha) (by omega) rfl (Nat.le_of_ble_eq_true rfl) (Nat.le_of_ble_eq_true rfl) ?_
  refine bz_if_ne (tgt := 9) dX3_about_4 rfl (fun _ => ?_) (fun q => absurd q (by decide))
  refine bz_iload_n dX3_about_9 rfl ?_
  refine bz_tblOut (tgt := 107) dX3_about_10 (bz_out (N := 4) (by decide) h (by decide)) rfl ?_
  refine bz_bipush dX3_about_107 kc_bipush_m2 ?_
  refine bz_iret dX3_about_109 rfl rfl rfl
theorem x_kostka_1 {x y : Int32} (h : x < 0 ∨ nI 30 ≤ x) : bz_V l ad K 73 mX3_kostka 2 (some (.int (-1))) σ 0 [some (.ref (ad 23)), some (.int x), some (.int y)] [] σ := by
  refine bz_iload_n dX3_kostka_0 rfl ?_
  refine bz_cS1I (z := 0) mv_X3_isPartition ws_X3_isPartition lk_X3_54 dX3_kostka_1 (by exact t_isPartF h) (by omega) rfl (Nat.le_of_ble_eq_true rfl) (Nat.le_of_ble_eq_true rfl) ?_
  refine bz_if_eq (tgt := 14) dX3_kostka_4 rfl (fun _ => ?_) (fun q => absurd (by decide) q)
  refine bz_iconst dX3_kostka_14 kc_iconst_m1 ?_
  refine bz_iret dX3_kostka_15 rfl rfl rfl
theorem x_kostka_2 {a : Nat} {y : Int32} (ha : a < 30) (h : y < 0 ∨ nI 30 ≤ y) : bz_V l ad K 73 mX3_kostka 2 (some (.int (-1))) σ 0 [some (.ref (ad 23)), some (.int (nI a)), some (.int y)] [] σ := by
  refine bz_iload_n dX3_kostka_0 rfl ?_
  refine bz_cS1I (z := 0) mv_X3_isPartition ws_X3_isPartition lk_X3_54 dX3_kostka_1 (by exact t_isPart ha) (by omega) rfl (Nat.le_of_ble_eq_true rfl) (Nat.le_of_ble_eq_true rfl) ?_
  refine bz_if_eq (tgt := 14) dX3_kostka_4 rfl (fun q => absurd q (by decide)) (fun _ => ?_)
  refine bz_iload_n dX3_kostka_7 rfl ?_
  refine bz_cS1I (z := 0) mv_X3_isPartition ws_X3_isPartition lk_X3_54 dX3_kostka_8 (by exact t_isPartF h) (by omega) rfl (Nat.le_of_ble_eq_true rfl) (Nat.le_of_ble_eq_true rfl) ?_
  refine bz_if_ne (tgt := 16) dX3_kostka_11 rfl (fun q => absurd (by decide) q) (fun _ => ?_)
  refine bz_iconst dX3_kostka_14 kc_iconst_m1 ?_
  refine bz_iret dX3_kostka_15 rfl rfl rfl
theorem x_character_1 {x y : Int32} (h : x < 0 ∨ nI 30 ≤ x) : bz_V l ad K 73 mX3_character 2 (some (.int (-1))) σ 0 [some (.ref (ad 23)), some (.int x), some (.int y)] [] σ := by
  refine bz_iload_n dX3_character_0 rfl ?_
  refine bz_cS1I (z := 0) mv_X3_isPartition ws_X3_isPartition lk_X3_54 dX3_character_1 (by exact t_isPartF h) (by omega) rfl (Nat.le_of_ble_eq_true rfl) (Nat.le_of_ble_eq_true rfl) ?_
  refine bz_if_eq (tgt := 14) dX3_character_4 rfl (fun _ => ?_) (fun q => absurd (by decide) q)
  refine bz_iconst dX3_character_14 kc_iconst_m1 ?_
  refine bz_iret dX3_character_15 rfl rfl rfl
theorem x_character_2 {a : Nat} {y : Int32} (ha : a < 30) (h : y < 0 ∨ nI 30 ≤ y) : bz_V l ad K 73 mX3_character 2 (some (.int (-1))) σ 0 [some (.ref (ad 23)), some (.int (nI a)), some (.int y)] [] σ := by
  refine bz_iload_n dX3_character_0 rfl ?_
  refine bz_cS1I (z := 0) mv_X3_isPartition ws_X3_isPartition lk_X3_54 dX3_character_1 (by exact t_isPart ha) (by omega) rfl (Nat.le_of_ble_eq_true rfl) (Nat.le_of_ble_eq_true rfl) ?_
  refine bz_if_eq (tgt := 14) dX3_character_4 rfl (fun q => absurd q (by decide)) (fun _ => ?_)
  refine bz_iload_n dX3_character_7 rfl ?_
  refine bz_cS1I (z := 0) mv_X3_isPartition ws_X3_isPartition lk_X3_54 dX3_character_8 (by exact t_isPartF h) (by omega) rfl (Nat.le_of_ble_eq_true rfl) (Nat.le_of_ble_eq_true rfl) ?_
  refine bz_if_ne (tgt := 16) dX3_character_11 rfl (fun q => absurd (by decide) q) (fun _ => ?_)
  refine bz_iconst dX3_character_14 kc_iconst_m1 ?_
  refine bz_iret dX3_character_15 rfl rfl rfl
theorem x_above_1 {x y : Int32} (h : x < 0 ∨ nI 30 ≤ x) : bz_V l ad K 73 mX3_above 3 (some (.int (-1))) σ 0 [some (.ref (ad 23)), some (.int x), some (.int y)] [] σ := by
  refine bz_iload_n dX3_above_0 rfl ?_
  refine bz_cS1I (z := 0) mv_X3_isPartition ws_X3_isPartition lk_X3_54 dX3_above_1 (by exact t_isPartF h) (by omega) rfl (Nat.le_of_ble_eq_true rfl) (Nat.le_of_ble_eq_true rfl) ?_
  refine bz_if_eq (tgt := 14) dX3_above_4 rfl (fun _ => ?_) (fun q => absurd (by decide) q)
  refine bz_iconst dX3_above_14 kc_iconst_m1 ?_
  refine bz_iret dX3_above_15 rfl rfl rfl
theorem x_above_2 {a : Nat} {y : Int32} (ha : a < 30) (h : y < 0 ∨ nI 30 ≤ y) : bz_V l ad K 73 mX3_above 3 (some (.int (-1))) σ 0 [some (.ref (ad 23)), some (.int (nI a)), some (.int y)] [] σ := by
  refine bz_iload_n dX3_above_0 rfl ?_
  refine bz_cS1I (z := 0) mv_X3_isPartition ws_X3_isPartition lk_X3_54 dX3_above_1 (by exact t_isPart ha) (by omega) rfl (Nat.le_of_ble_eq_true rfl) (Nat.le_of_ble_eq_true rfl) ?_
  refine bz_if_eq (tgt := 14) dX3_above_4 rfl (fun q => absurd q (by decide)) (fun _ => ?_)
  refine bz_iload_n dX3_above_7 rfl ?_
  refine bz_cS1I (z := 0) mv_X3_isPartition ws_X3_isPartition lk_X3_54 dX3_above_8 (by exact t_isPartF h) (by omega) rfl (Nat.le_of_ble_eq_true rfl) (Nat.le_of_ble_eq_true rfl) ?_
  refine bz_if_ne (tgt := 16) dX3_above_11 rfl (fun q => absurd (by decide) q) (fun _ => ?_)
  refine bz_iconst dX3_above_14 kc_iconst_m1 ?_
  refine bz_iret dX3_above_15 rfl rfl rfl
theorem x_kostka {a b : Nat} (hT : pz_T σ.2.1) (ha : a < 30) (hb : b < 30) : bz_V l ad K 73 mX3_kostka 2 (some (.int (nI (xt_kost (a * 30 + b))))) σ 0 [some (.ref (ad 23)), some (.int (nI a)), some (.int (nI b))] [] σ := by
  refine bz_iload_n dX3_kostka_0 rfl ?_
  refine bz_cS1I (z := 0) mv_X3_isPartition ws_X3_isPartition lk_X3_54 dX3_kostka_1 (by exact t_isPart ha) (by omega) rfl (Nat.le_of_ble_eq_true rfl) (Nat.le_of_ble_eq_true rfl) ?_
  refine bz_if_eq (tgt := 14) dX3_kostka_4 rfl (fun q => absurd q (by decide)) (fun _ => ?_)
  refine bz_iload_n dX3_kostka_7 rfl ?_
  refine bz_cS1I (z := 0) mv_X3_isPartition ws_X3_isPartition lk_X3_54 dX3_kostka_8 (by exact t_isPart hb) (by omega) rfl (Nat.le_of_ble_eq_true rfl) (Nat.le_of_ble_eq_true rfl) ?_
  refine bz_if_ne (tgt := 16) dX3_kostka_11 rfl (fun _ => ?_) (fun q => absurd q (by decide))
  refine bz_aload_n dX3_kostka_16 rfl ?_
  refine bz_getf fl_X3_10 dX3_kostka_17 rfl rfl (by omega) ?_
  refine bz_iload_n dX3_kostka_20 rfl ?_
  refine bz_iload_n dX3_kostka_21 rfl ?_
  refine bz_cVN2I (z := 0) mv_X1_kostkaOf mi_X1_kostkaOf lk_X3_79 dX3_kostka_22 (by exact t_kostkaOf (by omega) ha hb) (by omega) rfl (by omega) rfl rfl rfl (Nat.le_of_ble_eq_true rfl) (Nat.le_of_ble_eq_true rfl) ?_
  refine bz_topi (hT.2.2.2.2.2.2.1 _ (show a * 30 + b < 900 by omega)) ?_
  refine bz_iret dX3_kostka_25 rfl rfl rfl
theorem x_character {a b : Nat} (hT : pz_T σ.2.1) (ha : a < 30) (hb : b < 30) : bz_V l ad K 73 mX3_character 2 (some (.int (Int32.ofInt (xt_char (a * 30 + b)) + nI 1000))) σ 0 [some (.ref (ad 23)), some (.int (nI a)), some (.int (nI b))] [] σ := by
  refine bz_iload_n dX3_character_0 rfl ?_
  refine bz_cS1I (z := 0) mv_X3_isPartition ws_X3_isPartition lk_X3_54 dX3_character_1 (by exact t_isPart ha) (by omega) rfl (Nat.le_of_ble_eq_true rfl) (Nat.le_of_ble_eq_true rfl) ?_
  refine bz_if_eq (tgt := 14) dX3_character_4 rfl (fun q => absurd q (by decide)) (fun _ => ?_)
  refine bz_iload_n dX3_character_7 rfl ?_
  refine bz_cS1I (z := 0) mv_X3_isPartition ws_X3_isPartition lk_X3_54 dX3_character_8 (by exact t_isPart hb) (by omega) rfl (Nat.le_of_ble_eq_true rfl) (Nat.le_of_ble_eq_true rfl) ?_
  refine bz_if_ne (tgt := 16) dX3_character_11 rfl (fun _ => ?_) (fun q => absurd q (by decide))
  refine bz_aload_n dX3_character_16 rfl ?_
  refine bz_getf fl_X3_10 dX3_character_17 rfl rfl (by omega) ?_
  refine bz_iload_n dX3_character_20 rfl ?_
  refine bz_iload_n dX3_character_21 rfl ?_
  refine bz_cVN2I (z := 0) mv_X1_characterOf mi_X1_characterOf lk_X3_82 dX3_character_22 (by exact t_characterOf (by omega) ha hb) (by omega) rfl (by omega) rfl rfl rfl (Nat.le_of_ble_eq_true rfl) (Nat.le_of_ble_eq_true rfl) ?_
  refine bz_topi (hT.2.2.2.2.2.2.2 _ (show a * 30 + b < 900 by omega)) ?_
  refine bz_sipush dX3_character_25 kc_sipush_1000 ?_
  refine bz_iadd dX3_character_28 ?_
  refine bz_iret dX3_character_29 rfl rfl rfl
theorem x_degree {a : Nat} (hT : pz_T σ.2.1) (ha : a < 8) : bz_V l ad K 73 mX3_degree 2 (some (.int (dgz (σ.1 (25 + a)) 30))) σ 0 [some (.ref (ad 23)), some (.int (nI a))] [] σ := by
  have h25 := bz_sh25 a ha
  refine bz_iload_n dX3_degree_0 rfl ?_
  refine bz_cS1I (z := 0) mv_X3_isSlot ws_X3_isSlot lk_X3_89 dX3_degree_1 (by exact t_isSlot ha) (by omega) rfl (Nat.le_of_ble_eq_true rfl) (Nat.le_of_ble_eq_true rfl) ?_
  refine bz_if_ne (tgt := 9) dX3_degree_4 rfl (fun _ => ?_) (fun q => absurd q (by decide))
  refine bz_aload_n dX3_degree_9 rfl ?_
  refine bz_aload_n dX3_degree_10 rfl ?_
  refine bz_getf fl_X3_34 dX3_degree_11 rfl rfl (by omega) ?_
  refine bz_iload_n dX3_degree_14 rfl ?_
  refine bz_aaload dX3_degree_15 rfl (by omega) ha ?_
  refine bz_cV1I (z := 1) mv_X3_degreeOf mi_X3_degreeOf lk_X3_114 dX3_degree_16 (by exact t_degreeOf h25 (by omega) (by exact hT)) (by omega) rfl (by omega) rfl rfl rfl (Nat.le_of_ble_eq_true rfl) (Nat.le_of_ble_eq_true rfl) ?_
  refine bz_iret dX3_degree_19 rfl rfl rfl
theorem x_degree_u {x : Int32} (h : x < 0 ∨ nI 8 ≤ x) : bz_V l ad K 73 mX3_degree 2 (some (.int (-1))) σ 0 [some (.ref (ad 23)), some (.int x)] [] σ := by
  refine bz_iload_n dX3_degree_0 rfl ?_
  refine bz_cS1I (z := 0) mv_X3_isSlot ws_X3_isSlot lk_X3_89 dX3_degree_1 (by exact t_isSlotF h) (by omega) rfl (Nat.le_of_ble_eq_true rfl) (Nat.le_of_ble_eq_true rfl) ?_
  refine bz_if_ne (tgt := 9) dX3_degree_4 rfl (fun q => absurd (by decide) q) (fun _ => ?_)
  refine bz_iconst dX3_degree_7 kc_iconst_m1 ?_
  refine bz_iret dX3_degree_8 rfl rfl rfl
theorem x_times_1 {x y z : Int32} (h : x < 0 ∨ nI 8 ≤ x) : bz_V l ad K 73 mX3_times 5 (some (.int (-1))) σ 0 [some (.ref (ad 23)), some (.int x), some (.int y), some (.int z), none, none] [] σ := by
  refine bz_iload_n dX3_times_0 rfl ?_
  refine bz_cS1I (z := 0) mv_X3_isSlot ws_X3_isSlot lk_X3_89 dX3_times_1 (by exact t_isSlotF h) (by omega) rfl (Nat.le_of_ble_eq_true rfl) (Nat.le_of_ble_eq_true rfl) ?_
  refine bz_if_eq (tgt := 21) dX3_times_4 rfl (fun _ => ?_) (fun q => absurd (by decide) q)
  refine bz_iconst dX3_times_21 kc_iconst_m1 ?_
  refine bz_iret dX3_times_22 rfl rfl rfl
theorem x_times_2 {a : Nat} {y z : Int32} (ha : a < 8) (h : y < 0 ∨ nI 8 ≤ y) : bz_V l ad K 73 mX3_times 5 (some (.int (-1))) σ 0 [some (.ref (ad 23)), some (.int (nI a)), some (.int y), some (.int z), none, none] [] σ := by
  refine bz_iload_n dX3_times_0 rfl ?_
  refine bz_cS1I (z := 0) mv_X3_isSlot ws_X3_isSlot lk_X3_89 dX3_times_1 (by exact t_isSlot ha) (by omega) rfl (Nat.le_of_ble_eq_true rfl) (Nat.le_of_ble_eq_true rfl) ?_
  refine bz_if_eq (tgt := 21) dX3_times_4 rfl (fun q => absurd q (by decide)) (fun _ => ?_)
  refine bz_iload_n dX3_times_7 rfl ?_
  refine bz_cS1I (z := 0) mv_X3_isSlot ws_X3_isSlot lk_X3_89 dX3_times_8 (by exact t_isSlotF h) (by omega) rfl (Nat.le_of_ble_eq_true rfl) (Nat.le_of_ble_eq_true rfl) ?_
  refine bz_if_eq (tgt := 21) dX3_times_11 rfl (fun _ => ?_) (fun q => absurd (by decide) q)
  refine bz_iconst dX3_times_21 kc_iconst_m1 ?_
  refine bz_iret dX3_times_22 rfl rfl rfl
theorem x_times_3 {a b : Nat} {z : Int32} (ha : a < 8) (hb : b < 8) (h : z < 0 ∨ nI 8 ≤ z) : bz_V l ad K 73 mX3_times 5 (some (.int (-1))) σ 0 [some (.ref (ad 23)), some (.int (nI a)), some (.int (nI b)), some (.int z), none, none] [] σ := by
  refine bz_iload_n dX3_times_0 rfl ?_
  refine bz_cS1I (z := 0) mv_X3_isSlot ws_X3_isSlot lk_X3_89 dX3_times_1 (by exact t_isSlot ha) (by omega) rfl (Nat.le_of_ble_eq_true rfl) (Nat.le_of_ble_eq_true rfl) ?_
  refine bz_if_eq (tgt := 21) dX3_times_4 rfl (fun q => absurd q (by decide)) (fun _ => ?_)
  refine bz_iload_n dX3_times_7 rfl ?_
  refine bz_cS1I (z := 0) mv_X3_isSlot ws_X3_isSlot lk_X3_89 dX3_times_8 (by exact t_isSlot hb) (by omega) rfl (Nat.le_of_ble_eq_true rfl) (Nat.le_of_ble_eq_true rfl) ?_
  refine bz_if_eq (tgt := 21) dX3_times_11 rfl (fun q => absurd q (by decide)) (fun _ => ?_)
  refine bz_iload_n dX3_times_14 rfl ?_
  refine bz_cS1I (z := 0) mv_X3_isSlot ws_X3_isSlot lk_X3_89 dX3_times_15 (by exact t_isSlotF h) (by omega) rfl (Nat.le_of_ble_eq_true rfl) (Nat.le_of_ble_eq_true rfl) ?_
  refine bz_if_ne (tgt := 23) dX3_times_18 rfl (fun q => absurd (by decide) q) (fun _ => ?_)
  refine bz_iconst dX3_times_21 kc_iconst_m1 ?_
  refine bz_iret dX3_times_22 rfl rfl rfl
theorem x_strip_1 {x y z : Int32} (h : x < 0 ∨ nI 8 ≤ x) : bz_V l ad K 73 mX3_strip 5 (some (.int (-1))) σ 0 [some (.ref (ad 23)), some (.int x), some (.int y), some (.int z)] [] σ := by
  refine bz_iload_n dX3_strip_0 rfl ?_
  refine bz_cS1I (z := 0) mv_X3_isSlot ws_X3_isSlot lk_X3_89 dX3_strip_1 (by exact t_isSlotF h) (by omega) rfl (Nat.le_of_ble_eq_true rfl) (Nat.le_of_ble_eq_true rfl) ?_
  refine bz_if_eq (tgt := 21) dX3_strip_4 rfl (fun _ => ?_) (fun q => absurd (by decide) q)
  refine bz_iconst dX3_strip_21 kc_iconst_m1 ?_
  refine bz_iret dX3_strip_22 rfl rfl rfl
theorem x_strip_2 {a : Nat} {y z : Int32} (ha : a < 8) (h : y < 0 ∨ nI 8 ≤ y) : bz_V l ad K 73 mX3_strip 5 (some (.int (-1))) σ 0 [some (.ref (ad 23)), some (.int (nI a)), some (.int y), some (.int z)] [] σ := by
  refine bz_iload_n dX3_strip_0 rfl ?_
  refine bz_cS1I (z := 0) mv_X3_isSlot ws_X3_isSlot lk_X3_89 dX3_strip_1 (by exact t_isSlot ha) (by omega) rfl (Nat.le_of_ble_eq_true rfl) (Nat.le_of_ble_eq_true rfl) ?_
  refine bz_if_eq (tgt := 21) dX3_strip_4 rfl (fun q => absurd q (by decide)) (fun _ => ?_)
  refine bz_iload_n dX3_strip_7 rfl ?_
  refine bz_cS1I (z := 0) mv_X3_isSlot ws_X3_isSlot lk_X3_89 dX3_strip_8 (by exact t_isSlotF h) (by omega) rfl (Nat.le_of_ble_eq_true rfl) (Nat.le_of_ble_eq_true rfl) ?_
  refine bz_if_eq (tgt := 21) dX3_strip_11 rfl (fun _ => ?_) (fun q => absurd (by decide) q)
  refine bz_iconst dX3_strip_21 kc_iconst_m1 ?_
  refine bz_iret dX3_strip_22 rfl rfl rfl
theorem x_strip_3 {a b : Nat} {z : Int32} (ha : a < 8) (hb : b < 8) (h : z < 0 ∨ nI 8 ≤ z) : bz_V l ad K 73 mX3_strip 5 (some (.int (-1))) σ 0 [some (.ref (ad 23)), some (.int (nI a)), some (.int (nI b)), some (.int z)] [] σ := by
  refine bz_iload_n dX3_strip_0 rfl ?_
  refine bz_cS1I (z := 0) mv_X3_isSlot ws_X3_isSlot lk_X3_89 dX3_strip_1 (by exact t_isSlot ha) (by omega) rfl (Nat.le_of_ble_eq_true rfl) (Nat.le_of_ble_eq_true rfl) ?_
  refine bz_if_eq (tgt := 21) dX3_strip_4 rfl (fun q => absurd q (by decide)) (fun _ => ?_)
  refine bz_iload_n dX3_strip_7 rfl ?_
  refine bz_cS1I (z := 0) mv_X3_isSlot ws_X3_isSlot lk_X3_89 dX3_strip_8 (by exact t_isSlot hb) (by omega) rfl (Nat.le_of_ble_eq_true rfl) (Nat.le_of_ble_eq_true rfl) ?_
  refine bz_if_eq (tgt := 21) dX3_strip_11 rfl (fun q => absurd q (by decide)) (fun _ => ?_)
  refine bz_iload_n dX3_strip_14 rfl ?_
  refine bz_cS1I (z := 0) mv_X3_isSlot ws_X3_isSlot lk_X3_89 dX3_strip_15 (by exact t_isSlotF h) (by omega) rfl (Nat.le_of_ble_eq_true rfl) (Nat.le_of_ble_eq_true rfl) ?_
  refine bz_if_ne (tgt := 23) dX3_strip_18 rfl (fun q => absurd (by decide) q) (fun _ => ?_)
  refine bz_iconst dX3_strip_21 kc_iconst_m1 ?_
  refine bz_iret dX3_strip_22 rfl rfl rfl
theorem x_meet_1 {x y z : Int32} (h : x < 0 ∨ nI 8 ≤ x) : bz_V l ad K 73 mX3_meet 5 (some (.int (-1))) σ 0 [some (.ref (ad 23)), some (.int x), some (.int y), some (.int z)] [] σ := by
  refine bz_iload_n dX3_meet_0 rfl ?_
  refine bz_cS1I (z := 0) mv_X3_isSlot ws_X3_isSlot lk_X3_89 dX3_meet_1 (by exact t_isSlotF h) (by omega) rfl (Nat.le_of_ble_eq_true rfl) (Nat.le_of_ble_eq_true rfl) ?_
  refine bz_if_eq (tgt := 21) dX3_meet_4 rfl (fun _ => ?_) (fun q => absurd (by decide) q)
  refine bz_iconst dX3_meet_21 kc_iconst_m1 ?_
  refine bz_iret dX3_meet_22 rfl rfl rfl
theorem x_meet_2 {a : Nat} {y z : Int32} (ha : a < 8) (h : y < 0 ∨ nI 8 ≤ y) : bz_V l ad K 73 mX3_meet 5 (some (.int (-1))) σ 0 [some (.ref (ad 23)), some (.int (nI a)), some (.int y), some (.int z)] [] σ := by
  refine bz_iload_n dX3_meet_0 rfl ?_
  refine bz_cS1I (z := 0) mv_X3_isSlot ws_X3_isSlot lk_X3_89 dX3_meet_1 (by exact t_isSlot ha) (by omega) rfl (Nat.le_of_ble_eq_true rfl) (Nat.le_of_ble_eq_true rfl) ?_
  refine bz_if_eq (tgt := 21) dX3_meet_4 rfl (fun q => absurd q (by decide)) (fun _ => ?_)
  refine bz_iload_n dX3_meet_7 rfl ?_
  refine bz_cS1I (z := 0) mv_X3_isSlot ws_X3_isSlot lk_X3_89 dX3_meet_8 (by exact t_isSlotF h) (by omega) rfl (Nat.le_of_ble_eq_true rfl) (Nat.le_of_ble_eq_true rfl) ?_
  refine bz_if_eq (tgt := 21) dX3_meet_11 rfl (fun _ => ?_) (fun q => absurd (by decide) q)
  refine bz_iconst dX3_meet_21 kc_iconst_m1 ?_
  refine bz_iret dX3_meet_22 rfl rfl rfl
theorem x_meet_3 {a b : Nat} {z : Int32} (ha : a < 8) (hb : b < 8) (h : z < 0 ∨ nI 8 ≤ z) : bz_V l ad K 73 mX3_meet 5 (some (.int (-1))) σ 0 [some (.ref (ad 23)), some (.int (nI a)), some (.int (nI b)), some (.int z)] [] σ := by
  refine bz_iload_n dX3_meet_0 rfl ?_
  refine bz_cS1I (z := 0) mv_X3_isSlot ws_X3_isSlot lk_X3_89 dX3_meet_1 (by exact t_isSlot ha) (by omega) rfl (Nat.le_of_ble_eq_true rfl) (Nat.le_of_ble_eq_true rfl) ?_
  refine bz_if_eq (tgt := 21) dX3_meet_4 rfl (fun q => absurd q (by decide)) (fun _ => ?_)
  refine bz_iload_n dX3_meet_7 rfl ?_
  refine bz_cS1I (z := 0) mv_X3_isSlot ws_X3_isSlot lk_X3_89 dX3_meet_8 (by exact t_isSlot hb) (by omega) rfl (Nat.le_of_ble_eq_true rfl) (Nat.le_of_ble_eq_true rfl) ?_
  refine bz_if_eq (tgt := 21) dX3_meet_11 rfl (fun q => absurd q (by decide)) (fun _ => ?_)
  refine bz_iload_n dX3_meet_14 rfl ?_
  refine bz_cS1I (z := 0) mv_X3_isSlot ws_X3_isSlot lk_X3_89 dX3_meet_15 (by exact t_isSlotF h) (by omega) rfl (Nat.le_of_ble_eq_true rfl) (Nat.le_of_ble_eq_true rfl) ?_
  refine bz_if_ne (tgt := 23) dX3_meet_18 rfl (fun q => absurd (by decide) q) (fun _ => ?_)
  refine bz_iconst dX3_meet_21 kc_iconst_m1 ?_
  refine bz_iret dX3_meet_22 rfl rfl rfl
theorem x_plug_1 {x y z : Int32} (h : x < 0 ∨ nI 8 ≤ x) : bz_V l ad K 73 mX3_plug 6 (some (.int (-1))) σ 0 [some (.ref (ad 23)), some (.int x), some (.int y), some (.int z), none, none] [] σ := by
  refine bz_iload_n dX3_plug_0 rfl ?_
  refine bz_cS1I (z := 0) mv_X3_isSlot ws_X3_isSlot lk_X3_89 dX3_plug_1 (by exact t_isSlotF h) (by omega) rfl (Nat.le_of_ble_eq_true rfl) (Nat.le_of_ble_eq_true rfl) ?_
  refine bz_if_eq (tgt := 21) dX3_plug_4 rfl (fun _ => ?_) (fun q => absurd (by decide) q)
  refine bz_iconst dX3_plug_21 kc_iconst_m1 ?_
  refine bz_iret dX3_plug_22 rfl rfl rfl
theorem x_plug_2 {a : Nat} {y z : Int32} (ha : a < 8) (h : y < 0 ∨ nI 8 ≤ y) : bz_V l ad K 73 mX3_plug 6 (some (.int (-1))) σ 0 [some (.ref (ad 23)), some (.int (nI a)), some (.int y), some (.int z), none, none] [] σ := by
  refine bz_iload_n dX3_plug_0 rfl ?_
  refine bz_cS1I (z := 0) mv_X3_isSlot ws_X3_isSlot lk_X3_89 dX3_plug_1 (by exact t_isSlot ha) (by omega) rfl (Nat.le_of_ble_eq_true rfl) (Nat.le_of_ble_eq_true rfl) ?_
  refine bz_if_eq (tgt := 21) dX3_plug_4 rfl (fun q => absurd q (by decide)) (fun _ => ?_)
  refine bz_iload_n dX3_plug_7 rfl ?_
  refine bz_cS1I (z := 0) mv_X3_isSlot ws_X3_isSlot lk_X3_89 dX3_plug_8 (by exact t_isSlotF h) (by omega) rfl (Nat.le_of_ble_eq_true rfl) (Nat.le_of_ble_eq_true rfl) ?_
  refine bz_if_eq (tgt := 21) dX3_plug_11 rfl (fun _ => ?_) (fun q => absurd (by decide) q)
  refine bz_iconst dX3_plug_21 kc_iconst_m1 ?_
  refine bz_iret dX3_plug_22 rfl rfl rfl
theorem x_plug_3 {a b : Nat} {z : Int32} (ha : a < 8) (hb : b < 8) (h : z < 0 ∨ nI 8 ≤ z) : bz_V l ad K 73 mX3_plug 6 (some (.int (-1))) σ 0 [some (.ref (ad 23)), some (.int (nI a)), some (.int (nI b)), some (.int z), none, none] [] σ := by
  refine bz_iload_n dX3_plug_0 rfl ?_
  refine bz_cS1I (z := 0) mv_X3_isSlot ws_X3_isSlot lk_X3_89 dX3_plug_1 (by exact t_isSlot ha) (by omega) rfl (Nat.le_of_ble_eq_true rfl) (Nat.le_of_ble_eq_true rfl) ?_
  refine bz_if_eq (tgt := 21) dX3_plug_4 rfl (fun q => absurd q (by decide)) (fun _ => ?_)
  refine bz_iload_n dX3_plug_7 rfl ?_
  refine bz_cS1I (z := 0) mv_X3_isSlot ws_X3_isSlot lk_X3_89 dX3_plug_8 (by exact t_isSlot hb) (by omega) rfl (Nat.le_of_ble_eq_true rfl) (Nat.le_of_ble_eq_true rfl) ?_
  refine bz_if_eq (tgt := 21) dX3_plug_11 rfl (fun q => absurd q (by decide)) (fun _ => ?_)
  refine bz_iload_n dX3_plug_14 rfl ?_
  refine bz_cS1I (z := 0) mv_X3_isSlot ws_X3_isSlot lk_X3_89 dX3_plug_15 (by exact t_isSlotF h) (by omega) rfl (Nat.le_of_ble_eq_true rfl) (Nat.le_of_ble_eq_true rfl) ?_
  refine bz_if_ne (tgt := 23) dX3_plug_18 rfl (fun q => absurd (by decide) q) (fun _ => ?_)
  refine bz_iconst dX3_plug_21 kc_iconst_m1 ?_
  refine bz_iret dX3_plug_22 rfl rfl rfl
theorem x_strip {to a b : Nat} {A B W : Nat → Int64} (hT : pz_T σ.2.1) (ht : to < 8) (ha : a < 8) (hb : b < 8) (hA : bc_from 3 (σ.1 (25 + a)) A) (hB : bc_from 3 (σ.1 (25 + b)) B) (hW : bc_to 3 (fun c => wk_spr A B c / (nI (xt_z c)).toInt64) W) :
    ∃ σ2, bz_V l ad K 73 mX3_strip 5 (some (.int (hz_r (fun j => W j / 720)))) σ2 0 [some (.ref (ad 23)), some (.int (nI to)), some (.int (nI a)), some (.int (nI b))] [] σ ∧ bz_xm σ σ2 to (fun j => W j / 720) := by
  obtain ⟨σ1, hV1, hx1, hA1, hB1⟩ := t_readPowers (l := l) (ad := ad) (K := K) ha hb hT hA hB
  obtain ⟨σ2, hV2, hm⟩ := t_holdPowers (l := l) (ad := ad) (K := K) (σ0 := σ) (σ := bz_setJ σ1 53 (bz_upto (σ1.1 53) (fun c => wk_spr A B c / (nI (xt_z c)).toInt64) 30)) (Q := fun c => wk_spr A B c / (nI (xt_z c)).toInt64) (W := W) ht (bz_pT hx1.1 hT) (bz_xr_tr (bz_set_xr (by omega)) hx1) (fun j hj => by rw [bz_setJ_at, bz_upto_lt hj]) hW
  refine ⟨σ2, ?_, hm⟩
  refine bz_iload_n dX3_strip_0 rfl ?_
  refine bz_cS1I (z := 0) mv_X3_isSlot ws_X3_isSlot lk_X3_89 dX3_strip_1 (by exact t_isSlot ht) (by omega) rfl (Nat.le_of_ble_eq_true rfl) (Nat.le_of_ble_eq_true rfl) ?_
  refine bz_if_eq (tgt := 21) dX3_strip_4 rfl (fun q => absurd q (by decide)) (fun _ => ?_)
  refine bz_iload_n dX3_strip_7 rfl ?_
  refine bz_cS1I (z := 0) mv_X3_isSlot ws_X3_isSlot lk_X3_89 dX3_strip_8 (by exact t_isSlot ha) (by omega) rfl (Nat.le_of_ble_eq_true rfl) (Nat.le_of_ble_eq_true rfl) ?_
  refine bz_if_eq (tgt := 21) dX3_strip_11 rfl (fun q => absurd q (by decide)) (fun _ => ?_)
  refine bz_iload_n dX3_strip_14 rfl ?_
  refine bz_cS1I (z := 0) mv_X3_isSlot ws_X3_isSlot lk_X3_89 dX3_strip_15 (by exact t_isSlot hb) (by omega) rfl (Nat.le_of_ble_eq_true rfl) (Nat.le_of_ble_eq_true rfl) ?_
  refine bz_if_ne (tgt := 23) dX3_strip_18 rfl (fun _ => ?_) (fun q => absurd q (by decide))
  refine bz_aload_n dX3_strip_23 rfl ?_
  refine bz_iload_n dX3_strip_24 rfl ?_
  refine bz_iload_n dX3_strip_25 rfl ?_
  refine bz_cV2U (z := 0) mv_X3_readPowers mi_X3_readPowers lk_X3_141 dX3_strip_26 (by exact hV1) (by omega) rfl (by omega) rfl rfl rfl (Nat.le_of_ble_eq_true rfl) (Nat.le_of_ble_eq_true rfl) ?_
  refine bz_aload_n dX3_strip_29 rfl ?_
  refine bz_getf fl_X3_28 dX3_strip_30 rfl rfl (by omega) ?_
  refine bz_aload_n dX3_strip_33 rfl ?_
  refine bz_getf fl_X3_44 dX3_strip_34 rfl rfl (by omega) ?_
  refine bz_aload_n dX3_strip_37 rfl ?_
  refine bz_getf fl_X3_48 dX3_strip_38 rfl rfl (by omega) ?_
  refine bz_aload_n dX3_strip_41 rfl ?_
  refine bz_getf fl_X3_51 dX3_strip_42 rfl rfl (by omega) ?_
  refine bz_cVN3U (z := 4) mv_X2_stripOff mi_X2_stripOff lk_X3_152 dX3_strip_45 (by exact t_stripOff (F := fun c => wk_spr A B c / (nI (xt_z c)).toInt64) rfl rfl rfl (by omega) (by omega) (by omega) (by omega) (by omega) (bz_pT hx1.1 hT) (fun c hc => by rw [wk_spr_congr hA1 hB1 hc])) (by omega) rfl (by omega) rfl rfl rfl (Nat.le_of_ble_eq_true rfl) (Nat.le_of_ble_eq_true rfl) ?_
  refine bz_aload_n dX3_strip_48 rfl ?_
  refine bz_iload_n dX3_strip_49 rfl ?_
  refine bz_cV1I (z := 0) mv_X3_holdPowers mi_X3_holdPowers lk_X3_149 dX3_strip_50 (by exact hV2) (by omega) rfl (by omega) rfl rfl rfl (Nat.le_of_ble_eq_true rfl) (Nat.le_of_ble_eq_true rfl) ?_
  refine bz_iret dX3_strip_53 rfl rfl rfl
theorem x_meet {to a b : Nat} {A B W : Nat → Int64} (hT : pz_T σ.2.1) (ht : to < 8) (ha : a < 8) (hb : b < 8) (hA : bc_from 3 (σ.1 (25 + a)) A) (hB : bc_from 3 (σ.1 (25 + b)) B) (hW : bc_to 3 (fun c => A c * wk_sp B c) W) :
    ∃ σ2, bz_V l ad K 73 mX3_meet 5 (some (.int (hz_r (fun j => W j / 720)))) σ2 0 [some (.ref (ad 23)), some (.int (nI to)), some (.int (nI a)), some (.int (nI b))] [] σ ∧ bz_xm σ σ2 to (fun j => W j / 720) := by
  obtain ⟨σ1, hV1, hx1, hA1, hB1⟩ := t_readPowers (l := l) (ad := ad) (K := K) ha hb hT hA hB
  obtain ⟨σ2, hV2, hm⟩ := t_holdPowers (l := l) (ad := ad) (K := K) (σ0 := σ) (σ := bz_setJ σ1 53 (bz_upto (σ1.1 53) (fun c => σ1.1 51 c * wk_sp (σ1.1 52) c) 30)) (Q := fun c => A c * wk_sp B c) (W := W) ht (bz_pT hx1.1 hT) (bz_xr_tr (bz_set_xr (by omega)) hx1) (fun j hj => by rw [bz_setJ_at, bz_upto_lt hj, hA1 j hj, wk_sp, wk_sp, hB1 j hj]) hW
  refine ⟨σ2, ?_, hm⟩
  refine bz_iload_n dX3_meet_0 rfl ?_
  refine bz_cS1I (z := 0) mv_X3_isSlot ws_X3_isSlot lk_X3_89 dX3_meet_1 (by exact t_isSlot ht) (by omega) rfl (Nat.le_of_ble_eq_true rfl) (Nat.le_of_ble_eq_true rfl) ?_
  refine bz_if_eq (tgt := 21) dX3_meet_4 rfl (fun q => absurd q (by decide)) (fun _ => ?_)
  refine bz_iload_n dX3_meet_7 rfl ?_
  refine bz_cS1I (z := 0) mv_X3_isSlot ws_X3_isSlot lk_X3_89 dX3_meet_8 (by exact t_isSlot ha) (by omega) rfl (Nat.le_of_ble_eq_true rfl) (Nat.le_of_ble_eq_true rfl) ?_
  refine bz_if_eq (tgt := 21) dX3_meet_11 rfl (fun q => absurd q (by decide)) (fun _ => ?_)
  refine bz_iload_n dX3_meet_14 rfl ?_
  refine bz_cS1I (z := 0) mv_X3_isSlot ws_X3_isSlot lk_X3_89 dX3_meet_15 (by exact t_isSlot hb) (by omega) rfl (Nat.le_of_ble_eq_true rfl) (Nat.le_of_ble_eq_true rfl) ?_
  refine bz_if_ne (tgt := 23) dX3_meet_18 rfl (fun _ => ?_) (fun q => absurd q (by decide))
  refine bz_aload_n dX3_meet_23 rfl ?_
  refine bz_iload_n dX3_meet_24 rfl ?_
  refine bz_iload_n dX3_meet_25 rfl ?_
  refine bz_cV2U (z := 0) mv_X3_readPowers mi_X3_readPowers lk_X3_141 dX3_meet_26 (by exact hV1) (by omega) rfl (by omega) rfl rfl rfl (Nat.le_of_ble_eq_true rfl) (Nat.le_of_ble_eq_true rfl) ?_
  refine bz_aload_n dX3_meet_29 rfl ?_
  refine bz_getf fl_X3_28 dX3_meet_30 rfl rfl (by omega) ?_
  refine bz_aload_n dX3_meet_33 rfl ?_
  refine bz_getf fl_X3_44 dX3_meet_34 rfl rfl (by omega) ?_
  refine bz_aload_n dX3_meet_37 rfl ?_
  refine bz_getf fl_X3_48 dX3_meet_38 rfl rfl (by omega) ?_
  refine bz_aload_n dX3_meet_41 rfl ?_
  refine bz_getf fl_X3_51 dX3_meet_42 rfl rfl (by omega) ?_
  refine bz_cVN3U (z := 1) mv_X2_meetWith mi_X2_meetWith lk_X3_155 dX3_meet_45 (by exact t_meetWith rfl rfl rfl (by omega) (by omega) (by omega) (by omega) (by omega) (bz_pT hx1.1 hT)) (by omega) rfl (by omega) rfl rfl rfl (Nat.le_of_ble_eq_true rfl) (Nat.le_of_ble_eq_true rfl) ?_
  refine bz_aload_n dX3_meet_48 rfl ?_
  refine bz_iload_n dX3_meet_49 rfl ?_
  refine bz_cV1I (z := 0) mv_X3_holdPowers mi_X3_holdPowers lk_X3_149 dX3_meet_50 (by exact hV2) (by omega) rfl (by omega) rfl rfl rfl (Nat.le_of_ble_eq_true rfl) (Nat.le_of_ble_eq_true rfl) ?_
  refine bz_iret dX3_meet_53 rfl rfl rfl
theorem x_times {to a b : Nat} {A B W : Nat → Int64} (hT : pz_T σ.2.1) (ht : to < 8) (ha : a < 8) (hb : b < 8) (hf : ¬ (¬ dgz (σ.1 (25 + a)) 30 = -6 ∧ ¬ dgz (σ.1 (25 + b)) 30 = -6 ∧ ¬ dgz (σ.1 (25 + a)) 30 + dgz (σ.1 (25 + b)) 30 ≤ nI 6)) (hA : bc_from 3 (σ.1 (25 + a)) A) (hB : bc_from 3 (σ.1 (25 + b)) B) (hW : bc_to 3 (fun j => wk_mul A B j / 720) W) :
    ∃ σ2, bz_V l ad K 73 mX3_times 5 (some (.int (hz_r (fun j => W j / 720)))) σ2 0 [some (.ref (ad 23)), some (.int (nI to)), some (.int (nI a)), some (.int (nI b)), none, none] [] σ ∧ bz_xm σ σ2 to (fun j => W j / 720) := by
  have h25a := bz_sh25 a ha
  have h25b := bz_sh25 b hb
  obtain ⟨σ1, hV1, hx1, hA1, hB1⟩ := t_readPowers (l := l) (ad := ad) (K := K) ha hb hT hA hB
  obtain ⟨f, hVm, hfm⟩ := t_multiply (l := l) (ad := ad) (K := K) (σ := σ1) (k1 := 51) (k2 := 52) (k3 := 53) rfl rfl rfl (by omega) (by omega) (by omega) (by omega) (by omega) (bz_pT hx1.1 hT)
  obtain ⟨σ2, hV2, hm⟩ := t_holdPowers (l := l) (ad := ad) (K := K) (σ0 := σ) (σ := bz_setJ σ1 53 f) (Q := fun j => wk_mul A B j / 720) (W := W) ht (bz_pT hx1.1 hT) (bz_xr_tr (bz_set_xr (by omega)) hx1) (fun j hj => by rw [bz_setJ_at, hfm j hj, wk_mul_congr hA1 hB1]) hW
  refine ⟨σ2, ?_, hm⟩
  refine bz_iload_n dX3_times_0 rfl ?_
  refine bz_cS1I (z := 0) mv_X3_isSlot ws_X3_isSlot lk_X3_89 dX3_times_1 (by exact t_isSlot ht) (by omega) rfl (Nat.le_of_ble_eq_true rfl) (Nat.le_of_ble_eq_true rfl) ?_
  refine bz_if_eq (tgt := 21) dX3_times_4 rfl (fun q => absurd q (by decide)) (fun _ => ?_)
  refine bz_iload_n dX3_times_7 rfl ?_
  refine bz_cS1I (z := 0) mv_X3_isSlot ws_X3_isSlot lk_X3_89 dX3_times_8 (by exact t_isSlot ha) (by omega) rfl (Nat.le_of_ble_eq_true rfl) (Nat.le_of_ble_eq_true rfl) ?_
  refine bz_if_eq (tgt := 21) dX3_times_11 rfl (fun q => absurd q (by decide)) (fun _ => ?_)
  refine bz_iload_n dX3_times_14 rfl ?_
  refine bz_cS1I (z := 0) mv_X3_isSlot ws_X3_isSlot lk_X3_89 dX3_times_15 (by exact t_isSlot hb) (by omega) rfl (Nat.le_of_ble_eq_true rfl) (Nat.le_of_ble_eq_true rfl) ?_
  refine bz_if_ne (tgt := 23) dX3_times_18 rfl (fun _ => ?_) (fun q => absurd q (by decide))
  refine bz_aload_n dX3_times_23 rfl ?_
  refine bz_aload_n dX3_times_24 rfl ?_
  refine bz_getf fl_X3_34 dX3_times_25 rfl rfl (by omega) ?_
  refine bz_iload_n dX3_times_28 rfl ?_
  refine bz_aaload dX3_times_29 rfl (by omega) ha ?_
  refine bz_cV1I (z := 1) mv_X3_degreeOf mi_X3_degreeOf lk_X3_114 dX3_times_30 (by exact t_degreeOf h25a (by omega) (by exact hT)) (by omega) rfl (by omega) rfl rfl rfl (Nat.le_of_ble_eq_true rfl) (Nat.le_of_ble_eq_true rfl) ?_
  refine bz_ist4 dX3_times_33 (by decide) rfl ?_
  refine bz_aload_n dX3_times_35 rfl ?_
  refine bz_aload_n dX3_times_36 rfl ?_
  refine bz_getf fl_X3_34 dX3_times_37 rfl rfl (by omega) ?_
  refine bz_iload_n dX3_times_40 rfl ?_
  refine bz_aaload dX3_times_41 rfl (by omega) hb ?_
  refine bz_cV1I (z := 1) mv_X3_degreeOf mi_X3_degreeOf lk_X3_114 dX3_times_42 (by exact t_degreeOf h25b (by omega) (by exact hT)) (by omega) rfl (by omega) rfl rfl rfl (Nat.le_of_ble_eq_true rfl) (Nat.le_of_ble_eq_true rfl) ?_
  refine bz_ist5 dX3_times_45 (by decide) rfl ?_
  refine bz_iload dX3_times_47 rfl ?_
  refine bz_bipush dX3_times_49 kc_bipush_m6 ?_
  have fin : bz_V l ad K 73 mX3_times 5 (some (.int (hz_r (fun j => W j / 720)))) σ2 74 [some (.ref (ad 23)), some (.int (nI to)), some (.int (nI a)), some (.int (nI b)), some (.int (dgz (σ.1 (25 + a)) 30)), some (.int (dgz (σ.1 (25 + b)) 30))] [] σ := by
    refine bz_aload_n dX3_times_74 rfl ?_
    refine bz_iload_n dX3_times_75 rfl ?_
    refine bz_iload_n dX3_times_76 rfl ?_
    refine bz_cV2U (z := 0) mv_X3_readPowers mi_X3_readPowers lk_X3_141 dX3_times_77 (by exact hV1) (by omega) rfl (by omega) rfl rfl rfl (Nat.le_of_ble_eq_true rfl) (Nat.le_of_ble_eq_true rfl) ?_
    refine bz_aload_n dX3_times_80 rfl ?_
    refine bz_getf fl_X3_28 dX3_times_81 rfl rfl (by omega) ?_
    refine bz_aload_n dX3_times_84 rfl ?_
    refine bz_getf fl_X3_44 dX3_times_85 rfl rfl (by omega) ?_
    refine bz_aload_n dX3_times_88 rfl ?_
    refine bz_getf fl_X3_48 dX3_times_89 rfl rfl (by omega) ?_
    refine bz_aload_n dX3_times_92 rfl ?_
    refine bz_getf fl_X3_51 dX3_times_93 rfl rfl (by omega) ?_
    refine bz_cVN3U (z := 1) mv_X2_multiply mi_X2_multiply lk_X3_145 dX3_times_96 (by exact hVm) (by omega) rfl (by omega) rfl rfl rfl (Nat.le_of_ble_eq_true rfl) (Nat.le_of_ble_eq_true rfl) ?_
    refine bz_aload_n dX3_times_99 rfl ?_
    refine bz_iload_n dX3_times_100 rfl ?_
    refine bz_cV1I (z := 0) mv_X3_holdPowers mi_X3_holdPowers lk_X3_149 dX3_times_101 (by exact hV2) (by omega) rfl (by omega) rfl rfl rfl (Nat.le_of_ble_eq_true rfl) (Nat.le_of_ble_eq_true rfl) ?_
    refine bz_iret dX3_times_104 rfl rfl rfl
  refine bz_icmp_eq (tgt := 74) dX3_times_51 rfl (fun h1 => ?_) (fun h1 => ?_)
  · exact fin
  · refine bz_iload dX3_times_54 rfl ?_
    refine bz_bipush dX3_times_56 kc_bipush_m6 ?_
    refine bz_icmp_eq (tgt := 74) dX3_times_58 rfl (fun h2 => ?_) (fun h2 => ?_)
    · exact fin
    · refine bz_iload dX3_times_61 rfl ?_
      refine bz_iload dX3_times_63 rfl ?_
      refine bz_iadd dX3_times_65 ?_
      refine bz_bipush dX3_times_66 kc_bipush_6 ?_
      refine bz_icmp_le (tgt := 74) dX3_times_68 rfl (fun h3 => ?_) (fun h3 => ?_)
      · exact fin
      · exact absurd ⟨h1, h2, h3⟩ hf
theorem x_times_f {to a b : Nat} (hT : pz_T σ.2.1) (ht : to < 8) (ha : a < 8) (hb : b < 8) (hf : ¬ dgz (σ.1 (25 + a)) 30 = -6 ∧ ¬ dgz (σ.1 (25 + b)) 30 = -6 ∧ ¬ dgz (σ.1 (25 + a)) 30 + dgz (σ.1 (25 + b)) 30 ≤ nI 6) :
    bz_V l ad K 73 mX3_times 5 (some (.int (-4))) σ 0 [some (.ref (ad 23)), some (.int (nI to)), some (.int (nI a)), some (.int (nI b)), none, none] [] σ := by
  have h25a := bz_sh25 a ha
  have h25b := bz_sh25 b hb
  refine bz_iload_n dX3_times_0 rfl ?_
  refine bz_cS1I (z := 0) mv_X3_isSlot ws_X3_isSlot lk_X3_89 dX3_times_1 (by exact t_isSlot ht) (by omega) rfl (Nat.le_of_ble_eq_true rfl) (Nat.le_of_ble_eq_true rfl) ?_
  refine bz_if_eq (tgt := 21) dX3_times_4 rfl (fun q => absurd q (by decide)) (fun _ => ?_)
  refine bz_iload_n dX3_times_7 rfl ?_
  refine bz_cS1I (z := 0) mv_X3_isSlot ws_X3_isSlot lk_X3_89 dX3_times_8 (by exact t_isSlot ha) (by omega) rfl (Nat.le_of_ble_eq_true rfl) (Nat.le_of_ble_eq_true rfl) ?_
  refine bz_if_eq (tgt := 21) dX3_times_11 rfl (fun q => absurd q (by decide)) (fun _ => ?_)
  refine bz_iload_n dX3_times_14 rfl ?_
  refine bz_cS1I (z := 0) mv_X3_isSlot ws_X3_isSlot lk_X3_89 dX3_times_15 (by exact t_isSlot hb) (by omega) rfl (Nat.le_of_ble_eq_true rfl) (Nat.le_of_ble_eq_true rfl) ?_
  refine bz_if_ne (tgt := 23) dX3_times_18 rfl (fun _ => ?_) (fun q => absurd q (by decide))
  refine bz_aload_n dX3_times_23 rfl ?_
  refine bz_aload_n dX3_times_24 rfl ?_
  refine bz_getf fl_X3_34 dX3_times_25 rfl rfl (by omega) ?_
  refine bz_iload_n dX3_times_28 rfl ?_
  refine bz_aaload dX3_times_29 rfl (by omega) ha ?_
  refine bz_cV1I (z := 1) mv_X3_degreeOf mi_X3_degreeOf lk_X3_114 dX3_times_30 (by exact t_degreeOf h25a (by omega) (by exact hT)) (by omega) rfl (by omega) rfl rfl rfl (Nat.le_of_ble_eq_true rfl) (Nat.le_of_ble_eq_true rfl) ?_
  refine bz_ist4 dX3_times_33 (by decide) rfl ?_
  refine bz_aload_n dX3_times_35 rfl ?_
  refine bz_aload_n dX3_times_36 rfl ?_
  refine bz_getf fl_X3_34 dX3_times_37 rfl rfl (by omega) ?_
  refine bz_iload_n dX3_times_40 rfl ?_
  refine bz_aaload dX3_times_41 rfl (by omega) hb ?_
  refine bz_cV1I (z := 1) mv_X3_degreeOf mi_X3_degreeOf lk_X3_114 dX3_times_42 (by exact t_degreeOf h25b (by omega) (by exact hT)) (by omega) rfl (by omega) rfl rfl rfl (Nat.le_of_ble_eq_true rfl) (Nat.le_of_ble_eq_true rfl) ?_
  refine bz_ist5 dX3_times_45 (by decide) rfl ?_
  refine bz_iload dX3_times_47 rfl ?_
  refine bz_bipush dX3_times_49 kc_bipush_m6 ?_
  refine bz_icmp_eq (tgt := 74) dX3_times_51 rfl (fun q => absurd q (hf.1)) (fun _ => ?_)
  refine bz_iload dX3_times_54 rfl ?_
  refine bz_bipush dX3_times_56 kc_bipush_m6 ?_
  refine bz_icmp_eq (tgt := 74) dX3_times_58 rfl (fun q => absurd q (hf.2.1)) (fun _ => ?_)
  refine bz_iload dX3_times_61 rfl ?_
  refine bz_iload dX3_times_63 rfl ?_
  refine bz_iadd dX3_times_65 ?_
  refine bz_bipush dX3_times_66 kc_bipush_6 ?_
  refine bz_icmp_le (tgt := 74) dX3_times_68 rfl (fun q => absurd q (hf.2.2)) (fun _ => ?_)
  refine bz_bipush dX3_times_71 kc_bipush_m4 ?_
  refine bz_iret dX3_times_73 rfl rfl rfl
theorem x_plug {to a b : Nat} {A B W : Nat → Int64} (hT : pz_T σ.2.1) (ht : to < 8) (ha : a < 8) (hb : b < 8) (hwa : zwA (σ.1 (25 + a)) 1000) (hwb : zwA (σ.1 (25 + b)) 9) (hf : ¬ (¬ dgz (σ.1 (25 + a)) 30 ≤ 0 ∧ ¬ dgz (σ.1 (25 + b)) 30 ≤ 0 ∧ ¬ dgz (σ.1 (25 + a)) 30 * dgz (σ.1 (25 + b)) 30 ≤ nI 6)) (hA : bc_from 3 (σ.1 (25 + a)) A) (hB : bc_from 3 (σ.1 (25 + b)) B) (hW : bc_to 3 (fun j => wk_plug A B j / 720) W) :
    ∃ σ2, bz_V l ad K 73 mX3_plug 6 (some (.int (hz_r (fun j => W j / 720)))) σ2 0 [some (.ref (ad 23)), some (.int (nI to)), some (.int (nI a)), some (.int (nI b)), none, none] [] σ ∧ bz_xm σ σ2 to (fun j => W j / 720) := by
  have h25a := bz_sh25 a ha
  have h25b := bz_sh25 b hb
  obtain ⟨σ1, hV1, hx1, hA1, hB1⟩ := t_readPowers (l := l) (ad := ad) (K := K) ha hb hT hA hB
  obtain ⟨σ3, hVm, hpq, hfm⟩ := t_plugWith (l := l) (ad := ad) (K := K) (σ := σ1) (k1 := 51) (k2 := 52) (k3 := 53) rfl rfl rfl (by omega) (by omega) (by omega) (by omega) (by omega) (by omega) (by omega) (by omega) (bz_pT hx1.1 hT)
  obtain ⟨σ2, hV2, hm⟩ := t_holdPowers (l := l) (ad := ad) (K := K) (σ0 := σ) (σ := σ3) (Q := fun j => wk_plug A B j / 720) (W := W) ht (bz_pT hpq.1 (bz_pT hx1.1 hT)) (bz_xr_tr ⟨hpq.1, fun j q1 q2 => hpq.2 j (by omega) (by omega)⟩ hx1) (fun j hj => by rw [hfm j hj, wk_plug_congr hA1 hB1]) hW
  refine ⟨σ2, ?_, hm⟩
  refine bz_iload_n dX3_plug_0 rfl ?_
  refine bz_cS1I (z := 0) mv_X3_isSlot ws_X3_isSlot lk_X3_89 dX3_plug_1 (by exact t_isSlot ht) (by omega) rfl (Nat.le_of_ble_eq_true rfl) (Nat.le_of_ble_eq_true rfl) ?_
  refine bz_if_eq (tgt := 21) dX3_plug_4 rfl (fun q => absurd q (by decide)) (fun _ => ?_)
  refine bz_iload_n dX3_plug_7 rfl ?_
  refine bz_cS1I (z := 0) mv_X3_isSlot ws_X3_isSlot lk_X3_89 dX3_plug_8 (by exact t_isSlot ha) (by omega) rfl (Nat.le_of_ble_eq_true rfl) (Nat.le_of_ble_eq_true rfl) ?_
  refine bz_if_eq (tgt := 21) dX3_plug_11 rfl (fun q => absurd q (by decide)) (fun _ => ?_)
  refine bz_iload_n dX3_plug_14 rfl ?_
  refine bz_cS1I (z := 0) mv_X3_isSlot ws_X3_isSlot lk_X3_89 dX3_plug_15 (by exact t_isSlot hb) (by omega) rfl (Nat.le_of_ble_eq_true rfl) (Nat.le_of_ble_eq_true rfl) ?_
  refine bz_if_ne (tgt := 23) dX3_plug_18 rfl (fun _ => ?_) (fun q => absurd q (by decide))
  refine bz_aload_n dX3_plug_23 rfl ?_
  refine bz_getf fl_X3_34 dX3_plug_24 rfl rfl (by omega) ?_
  refine bz_iload_n dX3_plug_27 rfl ?_
  refine bz_aaload dX3_plug_28 rfl (by omega) ha ?_
  refine bz_ldc2 kl_X3_95 dX3_plug_29 ?_
  refine bz_cS2I (z := 5) mv_X3_areWithin ws_X3_areWithin lk_X3_158 dX3_plug_32 (by exact t_areWithin h25a (by omega)) (by omega) rfl (Nat.le_of_ble_eq_true rfl) (Nat.le_of_ble_eq_true rfl) ?_
  refine bz_topi (y := nI 1) (by rw [if_pos hwa]) ?_
  refine bz_if_eq (tgt := 53) dX3_plug_35 rfl (fun q => absurd q (by decide)) (fun _ => ?_)
  refine bz_aload_n dX3_plug_38 rfl ?_
  refine bz_getf fl_X3_34 dX3_plug_39 rfl rfl (by omega) ?_
  refine bz_iload_n dX3_plug_42 rfl ?_
  refine bz_aaload dX3_plug_43 rfl (by omega) hb ?_
  refine bz_ldc2 kl_X3_131 dX3_plug_44 ?_
  refine bz_cS2I (z := 5) mv_X3_areWithin ws_X3_areWithin lk_X3_158 dX3_plug_47 (by exact t_areWithin h25b (by omega)) (by omega) rfl (Nat.le_of_ble_eq_true rfl) (Nat.le_of_ble_eq_true rfl) ?_
  refine bz_topi (y := nI 1) (by rw [if_pos hwb]) ?_
  refine bz_if_ne (tgt := 56) dX3_plug_50 rfl (fun _ => ?_) (fun q => absurd q (by decide))
  refine bz_aload_n dX3_plug_56 rfl ?_
  refine bz_aload_n dX3_plug_57 rfl ?_
  refine bz_getf fl_X3_34 dX3_plug_58 rfl rfl (by omega) ?_
  refine bz_iload_n dX3_plug_61 rfl ?_
  refine bz_aaload dX3_plug_62 rfl (by omega) ha ?_
  refine bz_cV1I (z := 1) mv_X3_degreeOf mi_X3_degreeOf lk_X3_114 dX3_plug_63 (by exact t_degreeOf h25a (by omega) (by exact hT)) (by omega) rfl (by omega) rfl rfl rfl (Nat.le_of_ble_eq_true rfl) (Nat.le_of_ble_eq_true rfl) ?_
  refine bz_ist4 dX3_plug_66 (by decide) rfl ?_
  refine bz_aload_n dX3_plug_68 rfl ?_
  refine bz_aload_n dX3_plug_69 rfl ?_
  refine bz_getf fl_X3_34 dX3_plug_70 rfl rfl (by omega) ?_
  refine bz_iload_n dX3_plug_73 rfl ?_
  refine bz_aaload dX3_plug_74 rfl (by omega) hb ?_
  refine bz_cV1I (z := 1) mv_X3_degreeOf mi_X3_degreeOf lk_X3_114 dX3_plug_75 (by exact t_degreeOf h25b (by omega) (by exact hT)) (by omega) rfl (by omega) rfl rfl rfl (Nat.le_of_ble_eq_true rfl) (Nat.le_of_ble_eq_true rfl) ?_
  refine bz_ist5 dX3_plug_78 (by decide) rfl ?_
  refine bz_iload dX3_plug_80 rfl ?_
  have fin : bz_V l ad K 73 mX3_plug 6 (some (.int (hz_r (fun j => W j / 720)))) σ2 103 [some (.ref (ad 23)), some (.int (nI to)), some (.int (nI a)), some (.int (nI b)), some (.int (dgz (σ.1 (25 + a)) 30)), some (.int (dgz (σ.1 (25 + b)) 30))] [] σ := by
    refine bz_aload_n dX3_plug_103 rfl ?_
    refine bz_iload_n dX3_plug_104 rfl ?_
    refine bz_iload_n dX3_plug_105 rfl ?_
    refine bz_cV2U (z := 0) mv_X3_readPowers mi_X3_readPowers lk_X3_141 dX3_plug_106 (by exact hV1) (by omega) rfl (by omega) rfl rfl rfl (Nat.le_of_ble_eq_true rfl) (Nat.le_of_ble_eq_true rfl) ?_
    refine bz_aload_n dX3_plug_109 rfl ?_
    refine bz_getf fl_X3_28 dX3_plug_110 rfl rfl (by omega) ?_
    refine bz_aload_n dX3_plug_113 rfl ?_
    refine bz_getf fl_X3_44 dX3_plug_114 rfl rfl (by omega) ?_
    refine bz_aload_n dX3_plug_117 rfl ?_
    refine bz_getf fl_X3_48 dX3_plug_118 rfl rfl (by omega) ?_
    refine bz_aload_n dX3_plug_121 rfl ?_
    refine bz_getf fl_X3_51 dX3_plug_122 rfl rfl (by omega) ?_
    refine bz_cVN3U (z := 2) mv_X2_plugWith mi_X2_plugWith lk_X3_162 dX3_plug_125 (by exact hVm) (by omega) rfl (by omega) rfl rfl rfl (Nat.le_of_ble_eq_true rfl) (Nat.le_of_ble_eq_true rfl) ?_
    refine bz_aload_n dX3_plug_128 rfl ?_
    refine bz_iload_n dX3_plug_129 rfl ?_
    refine bz_cV1I (z := 0) mv_X3_holdPowers mi_X3_holdPowers lk_X3_149 dX3_plug_130 (by exact hV2) (by omega) rfl (by omega) rfl rfl rfl (Nat.le_of_ble_eq_true rfl) (Nat.le_of_ble_eq_true rfl) ?_
    refine bz_iret dX3_plug_133 rfl rfl rfl
  refine bz_if_le (tgt := 103) dX3_plug_82 rfl (fun h1 => ?_) (fun h1 => ?_)
  · exact fin
  · refine bz_iload dX3_plug_85 rfl ?_
    refine bz_if_le (tgt := 103) dX3_plug_87 rfl (fun h2 => ?_) (fun h2 => ?_)
    · exact fin
    · refine bz_iload dX3_plug_90 rfl ?_
      refine bz_iload dX3_plug_92 rfl ?_
      refine bz_imul dX3_plug_94 ?_
      refine bz_bipush dX3_plug_95 kc_bipush_6 ?_
      refine bz_icmp_le (tgt := 103) dX3_plug_97 rfl (fun h3 => ?_) (fun h3 => ?_)
      · exact fin
      · exact absurd ⟨h1, h2, h3⟩ hf
theorem x_plug_s {to a b : Nat} (hT : pz_T σ.2.1) (ht : to < 8) (ha : a < 8) (hb : b < 8) (hw : ¬ (zwA (σ.1 (25 + a)) 1000 ∧ zwA (σ.1 (25 + b)) 9)) :
    bz_V l ad K 73 mX3_plug 6 (some (.int (-3))) σ 0 [some (.ref (ad 23)), some (.int (nI to)), some (.int (nI a)), some (.int (nI b)), none, none] [] σ := by
  have h25a := bz_sh25 a ha
  have h25b := bz_sh25 b hb
  refine bz_iload_n dX3_plug_0 rfl ?_
  refine bz_cS1I (z := 0) mv_X3_isSlot ws_X3_isSlot lk_X3_89 dX3_plug_1 (by exact t_isSlot ht) (by omega) rfl (Nat.le_of_ble_eq_true rfl) (Nat.le_of_ble_eq_true rfl) ?_
  refine bz_if_eq (tgt := 21) dX3_plug_4 rfl (fun q => absurd q (by decide)) (fun _ => ?_)
  refine bz_iload_n dX3_plug_7 rfl ?_
  refine bz_cS1I (z := 0) mv_X3_isSlot ws_X3_isSlot lk_X3_89 dX3_plug_8 (by exact t_isSlot ha) (by omega) rfl (Nat.le_of_ble_eq_true rfl) (Nat.le_of_ble_eq_true rfl) ?_
  refine bz_if_eq (tgt := 21) dX3_plug_11 rfl (fun q => absurd q (by decide)) (fun _ => ?_)
  refine bz_iload_n dX3_plug_14 rfl ?_
  refine bz_cS1I (z := 0) mv_X3_isSlot ws_X3_isSlot lk_X3_89 dX3_plug_15 (by exact t_isSlot hb) (by omega) rfl (Nat.le_of_ble_eq_true rfl) (Nat.le_of_ble_eq_true rfl) ?_
  refine bz_if_ne (tgt := 23) dX3_plug_18 rfl (fun _ => ?_) (fun q => absurd q (by decide))
  refine bz_aload_n dX3_plug_23 rfl ?_
  refine bz_getf fl_X3_34 dX3_plug_24 rfl rfl (by omega) ?_
  refine bz_iload_n dX3_plug_27 rfl ?_
  refine bz_aaload dX3_plug_28 rfl (by omega) ha ?_
  refine bz_ldc2 kl_X3_95 dX3_plug_29 ?_
  refine bz_cS2I (z := 5) mv_X3_areWithin ws_X3_areWithin lk_X3_158 dX3_plug_32 (by exact t_areWithin h25a (by omega)) (by omega) rfl (Nat.le_of_ble_eq_true rfl) (Nat.le_of_ble_eq_true rfl) ?_
  by_cases hwa : zwA (σ.1 (25 + a)) 1000
  · refine bz_topi (y := nI 1) (by rw [if_pos hwa]) ?_
    refine bz_if_eq (tgt := 53) dX3_plug_35 rfl (fun q => absurd q (by decide)) (fun _ => ?_)
    refine bz_aload_n dX3_plug_38 rfl ?_
    refine bz_getf fl_X3_34 dX3_plug_39 rfl rfl (by omega) ?_
    refine bz_iload_n dX3_plug_42 rfl ?_
    refine bz_aaload dX3_plug_43 rfl (by omega) hb ?_
    refine bz_ldc2 kl_X3_131 dX3_plug_44 ?_
    refine bz_cS2I (z := 5) mv_X3_areWithin ws_X3_areWithin lk_X3_158 dX3_plug_47 (by exact t_areWithin h25b (by omega)) (by omega) rfl (Nat.le_of_ble_eq_true rfl) (Nat.le_of_ble_eq_true rfl) ?_
    refine bz_topi (y := nI 0) (by rw [if_neg (fun q => hw ⟨hwa, q⟩)]) ?_
    refine bz_if_ne (tgt := 56) dX3_plug_50 rfl (fun q => absurd (by decide) q) (fun _ => ?_)
    refine bz_bipush dX3_plug_53 kc_bipush_m3 ?_
    refine bz_iret dX3_plug_55 rfl rfl rfl
  · refine bz_topi (y := nI 0) (by rw [if_neg hwa]) ?_
    refine bz_if_eq (tgt := 53) dX3_plug_35 rfl (fun _ => ?_) (fun q => absurd (by decide) q)
    refine bz_bipush dX3_plug_53 kc_bipush_m3 ?_
    refine bz_iret dX3_plug_55 rfl rfl rfl
theorem x_plug_f {to a b : Nat} (hT : pz_T σ.2.1) (ht : to < 8) (ha : a < 8) (hb : b < 8) (hwa : zwA (σ.1 (25 + a)) 1000) (hwb : zwA (σ.1 (25 + b)) 9) (hf : ¬ dgz (σ.1 (25 + a)) 30 ≤ 0 ∧ ¬ dgz (σ.1 (25 + b)) 30 ≤ 0 ∧ ¬ dgz (σ.1 (25 + a)) 30 * dgz (σ.1 (25 + b)) 30 ≤ nI 6) :
    bz_V l ad K 73 mX3_plug 6 (some (.int (-4))) σ 0 [some (.ref (ad 23)), some (.int (nI to)), some (.int (nI a)), some (.int (nI b)), none, none] [] σ := by
  have h25a := bz_sh25 a ha
  have h25b := bz_sh25 b hb
  refine bz_iload_n dX3_plug_0 rfl ?_
  refine bz_cS1I (z := 0) mv_X3_isSlot ws_X3_isSlot lk_X3_89 dX3_plug_1 (by exact t_isSlot ht) (by omega) rfl (Nat.le_of_ble_eq_true rfl) (Nat.le_of_ble_eq_true rfl) ?_
  refine bz_if_eq (tgt := 21) dX3_plug_4 rfl (fun q => absurd q (by decide)) (fun _ => ?_)
  refine bz_iload_n dX3_plug_7 rfl ?_
  refine bz_cS1I (z := 0) mv_X3_isSlot ws_X3_isSlot lk_X3_89 dX3_plug_8 (by exact t_isSlot ha) (by omega) rfl (Nat.le_of_ble_eq_true rfl) (Nat.le_of_ble_eq_true rfl) ?_
  refine bz_if_eq (tgt := 21) dX3_plug_11 rfl (fun q => absurd q (by decide)) (fun _ => ?_)
  refine bz_iload_n dX3_plug_14 rfl ?_
  refine bz_cS1I (z := 0) mv_X3_isSlot ws_X3_isSlot lk_X3_89 dX3_plug_15 (by exact t_isSlot hb) (by omega) rfl (Nat.le_of_ble_eq_true rfl) (Nat.le_of_ble_eq_true rfl) ?_
  refine bz_if_ne (tgt := 23) dX3_plug_18 rfl (fun _ => ?_) (fun q => absurd q (by decide))
  refine bz_aload_n dX3_plug_23 rfl ?_
  refine bz_getf fl_X3_34 dX3_plug_24 rfl rfl (by omega) ?_
  refine bz_iload_n dX3_plug_27 rfl ?_
  refine bz_aaload dX3_plug_28 rfl (by omega) ha ?_
  refine bz_ldc2 kl_X3_95 dX3_plug_29 ?_
  refine bz_cS2I (z := 5) mv_X3_areWithin ws_X3_areWithin lk_X3_158 dX3_plug_32 (by exact t_areWithin h25a (by omega)) (by omega) rfl (Nat.le_of_ble_eq_true rfl) (Nat.le_of_ble_eq_true rfl) ?_
  refine bz_topi (y := nI 1) (by rw [if_pos hwa]) ?_
  refine bz_if_eq (tgt := 53) dX3_plug_35 rfl (fun q => absurd q (by decide)) (fun _ => ?_)
  refine bz_aload_n dX3_plug_38 rfl ?_
  refine bz_getf fl_X3_34 dX3_plug_39 rfl rfl (by omega) ?_
  refine bz_iload_n dX3_plug_42 rfl ?_
  refine bz_aaload dX3_plug_43 rfl (by omega) hb ?_
  refine bz_ldc2 kl_X3_131 dX3_plug_44 ?_
  refine bz_cS2I (z := 5) mv_X3_areWithin ws_X3_areWithin lk_X3_158 dX3_plug_47 (by exact t_areWithin h25b (by omega)) (by omega) rfl (Nat.le_of_ble_eq_true rfl) (Nat.le_of_ble_eq_true rfl) ?_
  refine bz_topi (y := nI 1) (by rw [if_pos hwb]) ?_
  refine bz_if_ne (tgt := 56) dX3_plug_50 rfl (fun _ => ?_) (fun q => absurd q (by decide))
  refine bz_aload_n dX3_plug_56 rfl ?_
  refine bz_aload_n dX3_plug_57 rfl ?_
  refine bz_getf fl_X3_34 dX3_plug_58 rfl rfl (by omega) ?_
  refine bz_iload_n dX3_plug_61 rfl ?_
  refine bz_aaload dX3_plug_62 rfl (by omega) ha ?_
  refine bz_cV1I (z := 1) mv_X3_degreeOf mi_X3_degreeOf lk_X3_114 dX3_plug_63 (by exact t_degreeOf h25a (by omega) (by exact hT)) (by omega) rfl (by omega) rfl rfl rfl (Nat.le_of_ble_eq_true rfl) (Nat.le_of_ble_eq_true rfl) ?_
  refine bz_ist4 dX3_plug_66 (by decide) rfl ?_
  refine bz_aload_n dX3_plug_68 rfl ?_
  refine bz_aload_n dX3_plug_69 rfl ?_
  refine bz_getf fl_X3_34 dX3_plug_70 rfl rfl (by omega) ?_
  refine bz_iload_n dX3_plug_73 rfl ?_
  refine bz_aaload dX3_plug_74 rfl (by omega) hb ?_
  refine bz_cV1I (z := 1) mv_X3_degreeOf mi_X3_degreeOf lk_X3_114 dX3_plug_75 (by exact t_degreeOf h25b (by omega) (by exact hT)) (by omega) rfl (by omega) rfl rfl rfl (Nat.le_of_ble_eq_true rfl) (Nat.le_of_ble_eq_true rfl) ?_
  refine bz_ist5 dX3_plug_78 (by decide) rfl ?_
  refine bz_iload dX3_plug_80 rfl ?_
  refine bz_if_le (tgt := 103) dX3_plug_82 rfl (fun q => absurd q (hf.1)) (fun _ => ?_)
  refine bz_iload dX3_plug_85 rfl ?_
  refine bz_if_le (tgt := 103) dX3_plug_87 rfl (fun q => absurd q (hf.2.1)) (fun _ => ?_)
  refine bz_iload dX3_plug_90 rfl ?_
  refine bz_iload dX3_plug_92 rfl ?_
  refine bz_imul dX3_plug_94 ?_
  refine bz_bipush dX3_plug_95 kc_bipush_6 ?_
  refine bz_icmp_le (tgt := 103) dX3_plug_97 rfl (fun q => absurd q (hf.2.2)) (fun _ => ?_)
  refine bz_bipush dX3_plug_100 kc_bipush_m4 ?_
  refine bz_iret dX3_plug_102 rfl rfl rfl
end X3B
