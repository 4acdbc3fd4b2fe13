/-! BasisMoves: the other calls -/
def xt_ahead (a b : Nat) : Nat → Int
  | 0 => 0
  | k + 1 => xt_ahead a b k + ((xp_part a k : Int) - xp_part b k)
abbrev xt_abv (a b : Nat) : Prop := ∀ k, k < 7 → 0 ≤ xt_ahead a b k
def xt_above (a b : Nat) : Nat := if xt_deg a = xt_deg b then (if xt_abv a b then 1 else 0) else 0
theorem xt_ahead_b : ∀ a, a < 30 → ∀ b, b < 30 → ∀ k, k < 7 → -7 < xt_ahead a b k ∧ xt_ahead a b k < 7 := by decide +kernel
theorem i32_sub (a b : Nat) (ha : a < 2 ^ 30) (hb : b < 2 ^ 30) : nI a - nI b = Int32.ofInt ((a : Int) - b) := by
  apply Int32.toInt_inj.mp
  rw [pk_sub_toInt ha hb, Int32.toInt_ofInt_of_le (by omega) (by omega)]
theorem i32_ge (z : Int) (h1 : -7 < z) (h2 : z < 7) : 0 ≤ Int32.ofInt z ↔ 0 ≤ z := by
  rw [Int32.le_iff_toInt_le, Int32.toInt_ofInt_of_le (by omega) (by omega)]
  simp
section X3C
variable {l : Launch} {ad : Nat → Nat} {K : bz_K} {σ σ0 σ' : bz_S} {r : Option Value}
theorem t_ab_loop {a b : Nat} (ha : a < 30) (hb : b < 30) (hd : xt_deg a = xt_deg b) :
    ∀ (m k : Nat), k + m = 6 → (∀ i, i ≤ k → 0 ≤ xt_ahead a b i) → bz_V l ad K 73 mX1_isAbove 2 (some (.int (nI (xt_above a b)))) σ 22 [some (.ref (ad 0)), some (.int (nI a)), some (.int (nI b)), some (.int (Int32.ofInt (xt_ahead a b k))), some (.int (nI k))] [] σ := by
  intro m
  induction m with
  | zero =>
    intro k hk hw
    obtain rfl : k = 6 := by omega
    refine bz_iload dX1_isAbove_22 rfl ?_
    refine bz_bipush dX1_isAbove_24 kc_bipush_6 ?_
    refine bz_icmp_geN (tgt := 59) dX1_isAbove_26 rfl (by omega) (by omega) (fun _ => ?_) (fun q => absurd q (by omega))
    refine bz_iconst dX1_isAbove_59 kc_iconst_1 ?_
    refine bz_zret dX1_isAbove_60 rfl ?_ ?_ ?_
    · rfl
    · rw [xt_above, if_pos hd, if_pos (fun k hk => hw k (by omega))]
    · rfl
  | succ m ih =>
    intro k hk hw
    have h6 : k < 6 := by omega
    have hp1 := xt_part6 a ha k h6
    have hp2 := xt_part6 b hb k h6
    have hbd := xt_ahead_b a ha b hb (k + 1) (by omega)
    refine bz_iload dX1_isAbove_22 rfl ?_
    refine bz_bipush dX1_isAbove_24 kc_bipush_6 ?_
    refine bz_icmp_geN (tgt := 59) dX1_isAbove_26 rfl (by omega) (by omega) (fun q => absurd q (by omega)) (fun _ => ?_)
    refine bz_iload_n dX1_isAbove_29 rfl ?_
    refine bz_aload_n dX1_isAbove_30 rfl ?_
    refine bz_iload_n dX1_isAbove_31 rfl ?_
    refine bz_iload dX1_isAbove_32 rfl ?_
    refine bz_cV2I (z := 0) mv_X1_partAt mi_X1_partAt lk_X1_70 dX1_isAbove_34 (by exact t_partAt ha h6) (by omega) rfl (by omega) rfl rfl rfl (Nat.le_of_ble_eq_true rfl) (Nat.le_of_ble_eq_true rfl) ?_
    refine bz_aload_n dX1_isAbove_37 rfl ?_
    refine bz_iload_n dX1_isAbove_38 rfl ?_
    refine bz_iload dX1_isAbove_39 rfl ?_
    refine bz_cV2I (z := 0) mv_X1_partAt mi_X1_partAt lk_X1_70 dX1_isAbove_41 (by exact t_partAt hb h6) (by omega) rfl (by omega) rfl rfl rfl (Nat.le_of_ble_eq_true rfl) (Nat.le_of_ble_eq_true rfl) ?_
    refine bz_isub dX1_isAbove_44 ?_
    refine bz_iadd dX1_isAbove_45 ?_
    refine bz_topi (y := Int32.ofInt (xt_ahead a b (k + 1))) (by rw [i32_sub _ _ (by omega) (by omega), xt_ahead, Int32.ofInt_add]) ?_
    refine bz_ist3 dX1_isAbove_46 (by decide) rfl ?_
    refine bz_iload_n dX1_isAbove_47 rfl ?_
    refine bz_if_ge (tgt := 53) dX1_isAbove_48 rfl (fun h => ?_) (fun h => ?_)
    · first | refine bz_iinc4N dX1_isAbove_53 (by decide) rfl ?_ | refine bz_iinc4 dX1_isAbove_53 rfl (by decide) rfl ?_
      refine bz_goto (tgt := 22) dX1_isAbove_56 rfl ?_
      refine ih (k + 1) (by omega) (fun i hi => ?_)
      rcases Nat.lt_or_eq_of_le hi with q | q
      · exact hw i (by omega)
      · rw [q]; exact (i32_ge _ hbd.1 hbd.2).mp h
    · refine bz_iconst dX1_isAbove_51 kc_iconst_0 ?_
      refine bz_zret dX1_isAbove_52 rfl ?_ ?_ ?_
      · rfl
      · rw [xt_above, if_pos hd, if_neg (fun q => h ((i32_ge _ hbd.1 hbd.2).mpr (q (k + 1) (by omega))))]
      · rfl
theorem t_isAbove {a b : Nat} (hT : pz_T σ.2.1) (ha : a < 30) (hb : b < 30) : bz_V l ad K 73 mX1_isAbove 2 (some (.int (nI (xt_above a b)))) σ 0 [some (.ref (ad 0)), some (.int (nI a)), some (.int (nI b)), none, none] [] σ := by
  have h1 := xt_deg6 a ha
  have h2 := xt_deg6 b hb
  refine bz_aload_n dX1_isAbove_0 rfl ?_
  refine bz_getf fl_X1_9 dX1_isAbove_1 rfl rfl (by omega) ?_
  refine bz_iload_n dX1_isAbove_4 rfl ?_
  refine bz_iaload dX1_isAbove_5 rfl (by omega) (by omega) ?_
  refine bz_topi (hT.1 a ha) ?_
  refine bz_aload_n dX1_isAbove_6 rfl ?_
  refine bz_getf fl_X1_9 dX1_isAbove_7 rfl rfl (by omega) ?_
  refine bz_iload_n dX1_isAbove_10 rfl ?_
  refine bz_iaload dX1_isAbove_11 rfl (by omega) (by omega) ?_
  refine bz_topi (hT.1 b hb) ?_
  refine bz_icmp_eqN (tgt := 17) dX1_isAbove_12 rfl (by omega) (by omega) (fun h => ?_) (fun h => ?_)
  · refine bz_iconst dX1_isAbove_17 kc_iconst_0 ?_
    refine bz_ist3 dX1_isAbove_18 (by decide) rfl ?_
    refine bz_iconst dX1_isAbove_19 kc_iconst_0 ?_
    refine bz_ist4 dX1_isAbove_20 (by decide) rfl ?_
    exact t_ab_loop ha hb h 6 0 rfl (fun i hi => by rw [show i = 0 by omega]; exact Int.le_refl 0)
  · refine bz_iconst dX1_isAbove_15 kc_iconst_0 ?_
    refine bz_zret dX1_isAbove_16 rfl ?_ ?_ ?_
    · rfl
    · rw [xt_above, if_neg h]
    · rfl
theorem x_above {a b : Nat} (hT : pz_T σ.2.1) (ha : a < 30) (hb : b < 30) : bz_V l ad K 73 mX3_above 3 (some (.int (nI (xt_above a b)))) σ 0 [some (.ref (ad 23)), some (.int (nI a)), some (.int (nI b))] [] σ := by
  refine bz_iload_n dX3_above_0 rfl ?_
  refine bz_cS1I (z := 0) mv_X3_isPartition ws_X3_isPartition lk_X3_54 dX3_above_1 (by exact t_isPart ha) (by omega) rfl (Nat.le_of_ble_eq_true rfl) (Nat.le_of_ble_eq_true rfl) ?_
  refine bz_if_eq (tgt := 14) dX3_above_4 rfl (fun q => absurd q (by decide)) (fun _ => ?_)
  refine bz_iload_n dX3_above_7 rfl ?_
  refine bz_cS1I (z := 0) mv_X3_isPartition ws_X3_isPartition lk_X3_54 dX3_above_8 (by exact t_isPart hb) (by omega) rfl (Nat.le_of_ble_eq_true rfl) (Nat.le_of_ble_eq_true rfl) ?_
  refine bz_if_ne (tgt := 16) dX3_above_11 rfl (fun _ => ?_) (fun q => absurd q (by decide))
  refine bz_aload_n dX3_above_16 rfl ?_
  refine bz_getf fl_X3_10 dX3_above_17 rfl rfl (by omega) ?_
  refine bz_iload_n dX3_above_20 rfl ?_
  refine bz_iload_n dX3_above_21 rfl ?_
  refine bz_cVN2I (z := 2) mv_X1_isAbove mi_X1_isAbove lk_X3_85 dX3_above_22 (by exact t_isAbove hT ha hb) (by omega) rfl (by omega) rfl rfl rfl (Nat.le_of_ble_eq_true rfl) (Nat.le_of_ble_eq_true rfl) ?_
  have h01 : xt_above a b = 0 ∨ xt_above a b = 1 := by
    unfold xt_above
    by_cases q : xt_deg a = xt_deg b
    · rw [if_pos q]
      by_cases q2 : xt_abv a b
      · rw [if_pos q2]; exact Or.inr rfl
      · rw [if_neg q2]; exact Or.inl rfl
    · rw [if_neg q]; exact Or.inl rfl
  rcases h01 with h | h
  · rw [h]
    refine bz_if_eq (tgt := 32) dX3_above_25 rfl (fun _ => ?_) (fun q => absurd (by decide) q)
    refine bz_iconst dX3_above_32 kc_iconst_0 ?_
    refine bz_iret dX3_above_33 rfl rfl rfl
  · rw [h]
    refine bz_if_eq (tgt := 32) dX3_above_25 rfl (fun q => absurd q (by decide)) (fun _ => ?_)
    refine bz_iconst dX3_above_28 kc_iconst_1 ?_
    refine bz_goto (tgt := 33) dX3_above_29 rfl ?_
    refine bz_iret dX3_above_33 rfl rfl rfl
def bz_de (a : Nat) (x : Int64) : Nat → Int64 := fun j => if j = a then x else 0
theorem x_put {to base a : Nat} {y : Int32} {W : Nat → Int64} (hT : pz_T σ.2.1) (ht : to < 8) (hbs : base < 5) (ha : a < 30) (hy : zw y.toInt64 1000) (hW : bc_to base (bz_de a y.toInt64) W) :
    ∃ σ2, bz_V l ad K 73 mX3_put 5 (some (.int (hz_r W))) σ2 0 [some (.ref (ad 23)), some (.int (nI to)), some (.int (nI base)), some (.int (nI a)), some (.int y)] [] σ ∧ bz_xm σ σ2 to W := by
  obtain ⟨σ1, hV1, hf1, h1⟩ := t_to (l := l) (ad := ad) (K := K) (σ := bz_upJ (bz_setJ σ 51 (bz_upto (σ.1 51) (fun _ => 0) 30)) 51 a y.toInt64) (kx := 51) (ky := 53) (x := bz_de a y.toInt64) hbs rfl rfl (by omega) (by omega) (by omega) (by omega) (by omega) (by omega) (by exact hT) (fun j hj => by
    rw [bz_upJ_set, bz_setJ_at]
    unfold vp_updL bz_de
    by_cases e : j = a
    · rw [if_pos e, if_pos e]
    · rw [if_neg e, if_neg e, bz_upto_lt hj]) hW
  obtain ⟨σ2, hV2, hm⟩ := t_holdR (l := l) (ad := ad) (K := K) (σ0 := σ) (σ := σ1) (R := W) ht (bz_xr_tr (bz_fw_xr hf1 (by omega)) (by rw [bz_upJ_set]; exact bz_set_xr (by omega))) h1
  refine ⟨σ2, ?_, hm⟩
  refine bz_iload_n dX3_put_0 rfl ?_
  refine bz_cS1I (z := 0) mv_X3_isSlot ws_X3_isSlot lk_X3_89 dX3_put_1 (by exact t_isSlot ht) (by omega) rfl (Nat.le_of_ble_eq_true rfl) (Nat.le_of_ble_eq_true rfl) ?_
  refine bz_if_eq (tgt := 21) dX3_put_4 rfl (fun q => absurd q (by decide)) (fun _ => ?_)
  refine bz_iload_n dX3_put_7 rfl ?_
  refine bz_cS1I (z := 0) mv_X3_isBase ws_X3_isBase lk_X3_92 dX3_put_8 (by exact t_isBase hbs) (by omega) rfl (Nat.le_of_ble_eq_true rfl) (Nat.le_of_ble_eq_true rfl) ?_
  refine bz_if_eq (tgt := 21) dX3_put_11 rfl (fun q => absurd q (by decide)) (fun _ => ?_)
  refine bz_iload_n dX3_put_14 rfl ?_
  refine bz_cS1I (z := 0) mv_X3_isPartition ws_X3_isPartition lk_X3_54 dX3_put_15 (by exact t_isPart ha) (by omega) rfl (Nat.le_of_ble_eq_true rfl) (Nat.le_of_ble_eq_true rfl) ?_
  refine bz_if_ne (tgt := 23) dX3_put_18 rfl (fun _ => ?_) (fun q => absurd q (by decide))
  refine bz_iload dX3_put_23 rfl ?_
  refine bz_i2l dX3_put_25 ?_
  refine bz_ldc2 kl_X3_95 dX3_put_26 ?_
  refine bz_cS2I (z := 0) mv_X3_isWithin ws_X3_isWithin lk_X3_97 dX3_put_29 (by exact t_isWithin hy) (by omega) rfl (Nat.le_of_ble_eq_true rfl) (Nat.le_of_ble_eq_true rfl) ?_
  refine bz_if_ne (tgt := 38) dX3_put_32 rfl (fun _ => ?_) (fun q => absurd q (by decide))
  refine bz_aload_n dX3_put_38 rfl ?_
  refine bz_getf fl_X3_44 dX3_put_39 rfl rfl (by omega) ?_
  refine bz_lconst dX3_put_42 kc_lconst_0 ?_
  refine bz_cS2U (z := 2) mv_J7_fill_d0a16 ws_J7_fill_d0a16 lk_X3_101 dX3_put_43 (by exact t_fill rfl (by omega)) (by omega) rfl (Nat.le_of_ble_eq_true rfl) (Nat.le_of_ble_eq_true rfl) ?_
  refine bz_aload_n dX3_put_46 rfl ?_
  refine bz_getf fl_X3_44 dX3_put_47 rfl rfl (by omega) ?_
  refine bz_iload_n dX3_put_50 rfl ?_
  refine bz_iload dX3_put_51 rfl ?_
  refine bz_i2l dX3_put_53 ?_
  refine bz_lastore dX3_put_54 rfl (by omega) (by omega) ?_
  refine bz_aload_n dX3_put_55 rfl ?_
  refine bz_getf fl_X3_21 dX3_put_56 rfl rfl (by omega) ?_
  refine bz_iload_n dX3_put_59 rfl ?_
  refine bz_aload_n dX3_put_60 rfl ?_
  refine bz_getf fl_X3_44 dX3_put_61 rfl rfl (by omega) ?_
  refine bz_aload_n dX3_put_64 rfl ?_
  refine bz_getf fl_X3_51 dX3_put_65 rfl rfl (by omega) ?_
  refine bz_cVN3U (z := 0) mv_X0_toWeights mi_X0_toWeights lk_X3_107 dX3_put_68 (by exact hV1) (by omega) rfl (by omega) rfl rfl rfl (Nat.le_of_ble_eq_true rfl) (Nat.le_of_ble_eq_true rfl) ?_
  refine bz_aload_n dX3_put_71 rfl ?_
  refine bz_iload_n dX3_put_72 rfl ?_
  refine bz_cV1I (z := 0) mv_X3_hold mi_X3_hold lk_X3_111 dX3_put_73 (by exact hV2) (by omega) rfl (by omega) rfl rfl rfl (Nat.le_of_ble_eq_true rfl) (Nat.le_of_ble_eq_true rfl) ?_
  refine bz_iret dX3_put_76 rfl rfl rfl
theorem x_put_1 {x1 x2 x3 y : Int32} (h : x1 < 0 ∨ nI 8 ≤ x1) : bz_V l ad K 73 mX3_put 5 (some (.int (-1))) σ 0 [some (.ref (ad 23)), some (.int x1), some (.int x2), some (.int x3), some (.int y)] [] σ := by
  refine bz_iload_n dX3_put_0 rfl ?_
  refine bz_cS1I (z := 0) mv_X3_isSlot ws_X3_isSlot lk_X3_89 dX3_put_1 (by exact t_isSlotF h) (by omega) rfl (Nat.le_of_ble_eq_true rfl) (Nat.le_of_ble_eq_true rfl) ?_
  refine bz_if_eq (tgt := 21) dX3_put_4 rfl (fun _ => ?_) (fun q => absurd (by decide) q)
  refine bz_iconst dX3_put_21 kc_iconst_m1 ?_
  refine bz_iret dX3_put_22 rfl rfl rfl
theorem x_put_2 {to : Nat} {x2 x3 y : Int32} (ht : to < 8) (h : x2 < 0 ∨ nI 5 ≤ x2) : bz_V l ad K 73 mX3_put 5 (some (.int (-1))) σ 0 [some (.ref (ad 23)), some (.int (nI to)), some (.int x2), some (.int x3), some (.int y)] [] σ := by
  refine bz_iload_n dX3_put_0 rfl ?_
  refine bz_cS1I (z := 0) mv_X3_isSlot ws_X3_isSlot lk_X3_89 dX3_put_1 (by exact t_isSlot ht) (by omega) rfl (Nat.le_of_ble_eq_true rfl) (Nat.le_of_ble_eq_true rfl) ?_
  refine bz_if_eq (tgt := 21) dX3_put_4 rfl (fun q => absurd q (by decide)) (fun _ => ?_)
  refine bz_iload_n dX3_put_7 rfl ?_
  refine bz_cS1I (z := 0) mv_X3_isBase ws_X3_isBase lk_X3_92 dX3_put_8 (by exact t_isBaseF h) (by omega) rfl (Nat.le_of_ble_eq_true rfl) (Nat.le_of_ble_eq_true rfl) ?_
  refine bz_if_eq (tgt := 21) dX3_put_11 rfl (fun _ => ?_) (fun q => absurd (by decide) q)
  refine bz_iconst dX3_put_21 kc_iconst_m1 ?_
  refine bz_iret dX3_put_22 rfl rfl rfl
theorem x_put_3 {to base : Nat} {x3 y : Int32} (ht : to < 8) (hbs : base < 5) (h : x3 < 0 ∨ nI 30 ≤ x3) : bz_V l ad K 73 mX3_put 5 (some (.int (-1))) σ 0 [some (.ref (ad 23)), some (.int (nI to)), some (.int (nI base)), some (.int x3), some (.int y)] [] σ := by
  refine bz_iload_n dX3_put_0 rfl ?_
  refine bz_cS1I (z := 0) mv_X3_isSlot ws_X3_isSlot lk_X3_89 dX3_put_1 (by exact t_isSlot ht) (by omega) rfl (Nat.le_of_ble_eq_true rfl) (Nat.le_of_ble_eq_true rfl) ?_
  refine bz_if_eq (tgt := 21) dX3_put_4 rfl (fun q => absurd q (by decide)) (fun _ => ?_)
  refine bz_iload_n dX3_put_7 rfl ?_
  refine bz_cS1I (z := 0) mv_X3_isBase ws_X3_isBase lk_X3_92 dX3_put_8 (by exact t_isBase hbs) (by omega) rfl (Nat.le_of_ble_eq_true rfl) (Nat.le_of_ble_eq_true rfl) ?_
  refine bz_if_eq (tgt := 21) dX3_put_11 rfl (fun q => absurd q (by decide)) (fun _ => ?_)
  refine bz_iload_n dX3_put_14 rfl ?_
  refine bz_cS1I (z := 0) mv_X3_isPartition ws_X3_isPartition lk_X3_54 dX3_put_15 (by exact t_isPartF h) (by omega) rfl (Nat.le_of_ble_eq_true rfl) (Nat.le_of_ble_eq_true rfl) ?_
  refine bz_if_ne (tgt := 23) dX3_put_18 rfl (fun q => absurd (by decide) q) (fun _ => ?_)
  refine bz_iconst dX3_put_21 kc_iconst_m1 ?_
  refine bz_iret dX3_put_22 rfl rfl rfl
theorem x_put_4 {to base a : Nat} {y : Int32} (ht : to < 8) (hbs : base < 5) (ha : a < 30) (hy : ¬ zw y.toInt64 1000) : bz_V l ad K 73 mX3_put 5 (some (.int (-2))) σ 0 [some (.ref (ad 23)), some (.int (nI to)), some (.int (nI base)), some (.int (nI a)), some (.int y)] [] σ := by
  refine bz_iload_n dX3_put_0 rfl ?_
  refine bz_cS1I (z := 0) mv_X3_isSlot ws_X3_isSlot lk_X3_89 dX3_put_1 (by exact t_isSlot ht) (by omega) rfl (Nat.le_of_ble_eq_true rfl) (Nat.le_of_ble_eq_true rfl) ?_
  refine bz_if_eq (tgt := 21) dX3_put_4 rfl (fun q => absurd q (by decide)) (fun _ => ?_)
  refine bz_iload_n dX3_put_7 rfl ?_
  refine bz_cS1I (z := 0) mv_X3_isBase ws_X3_isBase lk_X3_92 dX3_put_8 (by exact t_isBase hbs) (by omega) rfl (Nat.le_of_ble_eq_true rfl) (Nat.le_of_ble_eq_true rfl) ?_
  refine bz_if_eq (tgt := 21) dX3_put_11 rfl (fun q => absurd q (by decide)) (fun _ => ?_)
  refine bz_iload_n dX3_put_14 rfl ?_
  refine bz_cS1I (z := 0) mv_X3_isPartition ws_X3_isPartition lk_X3_54 dX3_put_15 (by exact t_isPart ha) (by omega) rfl (Nat.le_of_ble_eq_true rfl) (Nat.le_of_ble_eq_true rfl) ?_
  refine bz_if_ne (tgt := 23) dX3_put_18 rfl (fun _ => ?_) (fun q => absurd q (by decide))
  refine bz_iload dX3_put_23 rfl ?_
  refine bz_i2l dX3_put_25 ?_
  refine bz_ldc2 kl_X3_95 dX3_put_26 ?_
  refine bz_cS2I (z := 0) mv_X3_isWithin ws_X3_isWithin lk_X3_97 dX3_put_29 (by exact t_isWithinF hy) (by omega) rfl (Nat.le_of_ble_eq_true rfl) (Nat.le_of_ble_eq_true rfl) ?_
  refine bz_if_ne (tgt := 38) dX3_put_32 rfl (fun q => absurd (by decide) q) (fun _ => ?_)
  refine bz_bipush dX3_put_35 kc_bipush_m2 ?_
  refine bz_iret dX3_put_37 rfl rfl rfl
theorem t_add_loop {to a : Nat} {y : Int32} {F : Nat → Int64} (ht : to < 8) (ha : a < 8) (hF : ∀ j, F j = σ.1 (25 + to) j + y.toInt64 * σ.1 (25 + a) j)
    (k : bz_V l ad K 73 mX3_add 3 r σ' 75 [some (.ref (ad 23)), some (.int (nI to)), some (.int (nI a)), some (.int y), some (.int (nI 30))] [] (bz_setJ σ 53 (bz_upto (σ.1 53) F 30))) :
    ∀ (m i : Nat), i + m = 30 → bz_V l ad K 73 mX3_add 3 r σ' 33 [some (.ref (ad 23)), some (.int (nI to)), some (.int (nI a)), some (.int y), some (.int (nI i))] [] (bz_setJ σ 53 (bz_upto (σ.1 53) F i)) := by
  have h25t := bz_sh25 to ht
  have h25a := bz_sh25 a ha
  intro m
  induction m with
  | zero =>
    intro i hi
    obtain rfl : i = 30 := by omega
    refine bz_iload dX3_add_33 rfl ?_
    refine bz_bipush dX3_add_35 kc_bipush_30 ?_
    refine bz_icmp_geN (tgt := 75) dX3_add_37 rfl (by omega) (by omega) (fun _ => ?_) (fun q => absurd q (by omega))
    exact k
  | succ m ih =>
    intro i hi
    refine bz_iload dX3_add_33 rfl ?_
    refine bz_bipush dX3_add_35 kc_bipush_30 ?_
    refine bz_icmp_geN (tgt := 75) dX3_add_37 rfl (by omega) (by omega) (fun q => absurd q (by omega)) (fun _ => ?_)
    refine bz_aload_n dX3_add_40 rfl ?_
    refine bz_getf fl_X3_51 dX3_add_41 rfl rfl (by omega) ?_
    refine bz_iload dX3_add_44 rfl ?_
    refine bz_aload_n dX3_add_46 rfl ?_
    refine bz_getf fl_X3_34 dX3_add_47 rfl rfl (by omega) ?_
    refine bz_iload_n dX3_add_50 rfl ?_
    refine bz_aaload dX3_add_51 rfl (by omega) ht ?_
    refine bz_iload dX3_add_52 rfl ?_
    refine bz_laload dX3_add_54 h25t (by omega) (by omega) ?_
    refine bz_topl (y := σ.1 (25 + to) i) (by rw [bz_setJ_ne (by omega)]) ?_
    refine bz_iload_n dX3_add_55 rfl ?_
    refine bz_i2l dX3_add_56 ?_
    refine bz_aload_n dX3_add_57 rfl ?_
    refine bz_getf fl_X3_34 dX3_add_58 rfl rfl (by omega) ?_
    refine bz_iload_n dX3_add_61 rfl ?_
    refine bz_aaload dX3_add_62 rfl (by omega) ha ?_
    refine bz_iload dX3_add_63 rfl ?_
    refine bz_laload dX3_add_65 h25a (by omega) (by omega) ?_
    refine bz_topl (y := σ.1 (25 + a) i) (by rw [bz_setJ_ne (by omega)]) ?_
    refine bz_lmul dX3_add_66 ?_
    refine bz_ladd dX3_add_67 ?_
    refine bz_lastore dX3_add_68 rfl (by omega) (by omega) ?_
    first | refine bz_iinc4N dX3_add_69 (by decide) rfl ?_ | refine bz_iinc4 dX3_add_69 rfl (by decide) rfl ?_
    refine bz_goto (tgt := 33) dX3_add_72 rfl ?_
    refine bz_st (by rw [bz_upJ_set, bz_upto_s (hF i).symm]) ?_
    exact ih (i + 1) (by omega)
theorem x_add {to a : Nat} {y : Int32} (ht : to < 8) (ha : a < 8) (hy : zw y.toInt64 1000) :
    ∃ σ2, bz_V l ad K 73 mX3_add 3 (some (.int (hz_r (fun j => σ.1 (25 + to) j + y.toInt64 * σ.1 (25 + a) j)))) σ2 0 [some (.ref (ad 23)), some (.int (nI to)), some (.int (nI a)), some (.int y), none] [] σ ∧ bz_xm σ σ2 to (fun j => σ.1 (25 + to) j + y.toInt64 * σ.1 (25 + a) j) := by
  obtain ⟨σ2, hV2, hm⟩ := t_holdR (l := l) (ad := ad) (K := K) (σ0 := σ) (σ := bz_setJ σ 53 (bz_upto (σ.1 53) (fun j => σ.1 (25 + to) j + y.toInt64 * σ.1 (25 + a) j) 30)) (R := fun j => σ.1 (25 + to) j + y.toInt64 * σ.1 (25 + a) j) ht (bz_set_xr (by omega)) (fun j hj => by rw [bz_setJ_at, bz_upto_lt hj])
  refine ⟨σ2, ?_, hm⟩
  refine bz_iload_n dX3_add_0 rfl ?_
  refine bz_cS1I (z := 0) mv_X3_isSlot ws_X3_isSlot lk_X3_89 dX3_add_1 (by exact t_isSlot ht) (by omega) rfl (Nat.le_of_ble_eq_true rfl) (Nat.le_of_ble_eq_true rfl) ?_
  refine bz_if_eq (tgt := 14) dX3_add_4 rfl (fun q => absurd q (by decide)) (fun _ => ?_)
  refine bz_iload_n dX3_add_7 rfl ?_
  refine bz_cS1I (z := 0) mv_X3_isSlot ws_X3_isSlot lk_X3_89 dX3_add_8 (by exact t_isSlot ha) (by omega) rfl (Nat.le_of_ble_eq_true rfl) (Nat.le_of_ble_eq_true rfl) ?_
  refine bz_if_ne (tgt := 16) dX3_add_11 rfl (fun _ => ?_) (fun q => absurd q (by decide))
  refine bz_iload_n dX3_add_16 rfl ?_
  refine bz_i2l dX3_add_17 ?_
  refine bz_ldc2 kl_X3_95 dX3_add_18 ?_
  refine bz_cS2I (z := 0) mv_X3_isWithin ws_X3_isWithin lk_X3_97 dX3_add_21 (by exact t_isWithin hy) (by omega) rfl (Nat.le_of_ble_eq_true rfl) (Nat.le_of_ble_eq_true rfl) ?_
  refine bz_if_ne (tgt := 30) dX3_add_24 rfl (fun _ => ?_) (fun q => absurd q (by decide))
  refine bz_iconst dX3_add_30 kc_iconst_0 ?_
  refine bz_ist4 dX3_add_31 (by decide) rfl ?_
  refine bz_st (by rw [bz_setJ_id (bz_upto_0 _ (fun j => σ.1 (25 + to) j + y.toInt64 * σ.1 (25 + a) j))]) (t_add_loop ht ha (fun j => rfl) ?_ 30 0 rfl)
  refine bz_aload_n dX3_add_75 rfl ?_
  refine bz_iload_n dX3_add_76 rfl ?_
  refine bz_cV1I (z := 0) mv_X3_hold mi_X3_hold lk_X3_111 dX3_add_77 (by exact hV2) (by omega) rfl (by omega) rfl rfl rfl (Nat.le_of_ble_eq_true rfl) (Nat.le_of_ble_eq_true rfl) ?_
  refine bz_iret dX3_add_80 rfl rfl rfl
theorem x_add_1 {x1 x2 y : Int32} (h : x1 < 0 ∨ nI 8 ≤ x1) : bz_V l ad K 73 mX3_add 3 (some (.int (-1))) σ 0 [some (.ref (ad 23)), some (.int x1), some (.int x2), some (.int y), none] [] σ := by
  refine bz_iload_n dX3_add_0 rfl ?_
  refine bz_cS1I (z := 0) mv_X3_isSlot ws_X3_isSlot lk_X3_89 dX3_add_1 (by exact t_isSlotF h) (by omega) rfl (Nat.le_of_ble_eq_true rfl) (Nat.le_of_ble_eq_true rfl) ?_
  refine bz_if_eq (tgt := 14) dX3_add_4 rfl (fun _ => ?_) (fun q => absurd (by decide) q)
  refine bz_iconst dX3_add_14 kc_iconst_m1 ?_
  refine bz_iret dX3_add_15 rfl rfl rfl
theorem x_add_2 {to : Nat} {x2 y : Int32} (ht : to < 8) (h : x2 < 0 ∨ nI 8 ≤ x2) : bz_V l ad K 73 mX3_add 3 (some (.int (-1))) σ 0 [some (.ref (ad 23)), some (.int (nI to)), some (.int x2), some (.int y), none] [] σ := by
  refine bz_iload_n dX3_add_0 rfl ?_
  refine bz_cS1I (z := 0) mv_X3_isSlot ws_X3_isSlot lk_X3_89 dX3_add_1 (by exact t_isSlot ht) (by omega) rfl (Nat.le_of_ble_eq_true rfl) (Nat.le_of_ble_eq_true rfl) ?_
  refine bz_if_eq (tgt := 14) dX3_add_4 rfl (fun q => absurd q (by decide)) (fun _ => ?_)
  refine bz_iload_n dX3_add_7 rfl ?_
  refine bz_cS1I (z := 0) mv_X3_isSlot ws_X3_isSlot lk_X3_89 dX3_add_8 (by exact t_isSlotF h) (by omega) rfl (Nat.le_of_ble_eq_true rfl) (Nat.le_of_ble_eq_true rfl) ?_
  refine bz_if_ne (tgt := 16) dX3_add_11 rfl (fun q => absurd (by decide) q) (fun _ => ?_)
  refine bz_iconst dX3_add_14 kc_iconst_m1 ?_
  refine bz_iret dX3_add_15 rfl rfl rfl
theorem x_add_3 {to a : Nat} {y : Int32} (ht : to < 8) (ha : a < 8) (hy : ¬ zw y.toInt64 1000) : bz_V l ad K 73 mX3_add 3 (some (.int (-2))) σ 0 [some (.ref (ad 23)), some (.int (nI to)), some (.int (nI a)), some (.int y), none] [] σ := by
  refine bz_iload_n dX3_add_0 rfl ?_
  refine bz_cS1I (z := 0) mv_X3_isSlot ws_X3_isSlot lk_X3_89 dX3_add_1 (by exact t_isSlot ht) (by omega) rfl (Nat.le_of_ble_eq_true rfl) (Nat.le_of_ble_eq_true rfl) ?_
  refine bz_if_eq (tgt := 14) dX3_add_4 rfl (fun q => absurd q (by decide)) (fun _ => ?_)
  refine bz_iload_n dX3_add_7 rfl ?_
  refine bz_cS1I (z := 0) mv_X3_isSlot ws_X3_isSlot lk_X3_89 dX3_add_8 (by exact t_isSlot ha) (by omega) rfl (Nat.le_of_ble_eq_true rfl) (Nat.le_of_ble_eq_true rfl) ?_
  refine bz_if_ne (tgt := 16) dX3_add_11 rfl (fun _ => ?_) (fun q => absurd q (by decide))
  refine bz_iload_n dX3_add_16 rfl ?_
  refine bz_i2l dX3_add_17 ?_
  refine bz_ldc2 kl_X3_95 dX3_add_18 ?_
  refine bz_cS2I (z := 0) mv_X3_isWithin ws_X3_isWithin lk_X3_97 dX3_add_21 (by exact t_isWithinF hy) (by omega) rfl (Nat.le_of_ble_eq_true rfl) (Nat.le_of_ble_eq_true rfl) ?_
  refine bz_if_ne (tgt := 30) dX3_add_24 rfl (fun q => absurd (by decide) q) (fun _ => ?_)
  refine bz_bipush dX3_add_27 kc_bipush_m2 ?_
  refine bz_iret dX3_add_29 rfl rfl rfl
def cf_low (base : Nat) : Int64 := if base = 3 then 720 else 1
def bz_abs (x : Int64) : Int64 := if 0 < x then x else -x
def cf_g (x : Int64) (base : Nat) : Int64 := gcz 100 (bz_abs x) (bz_abs (cf_low base))
def cf_r (x : Int64) (base w : Nat) : Int64 := if cf_g x base = 0 then 0 else if w = 0 then x / cf_g x base else cf_low base / cf_g x base
theorem x_coef {s base a w : Nat} {F : Nat → Int64} (hT : pz_T σ.2.1) (hs : s < 8) (hbs : base < 5) (ha : a < 30) (hw : w < 2) (hF : bc_from base (σ.1 (25 + s)) F) :
    ∃ σ2, bz_V l ad K 73 mX3_coefficient 4 (some (.long (cf_r (F a) base w))) σ2 0 [some (.ref (ad 23)), some (.int (nI s)), some (.int (nI base)), some (.int (nI a)), some (.int (nI w)), none, none, none, none] [] σ ∧ bz_xr σ σ2 := by
  obtain ⟨σ1, hV1, hf1, h1⟩ := t_from (l := l) (ad := ad) (K := K) (σ := σ) (kx := 25 + s) (ky := 53) hbs (bz_sh25 s hs) rfl (by omega) (by omega) (by omega) (by omega) (by omega) (by omega) (by omega) hT (fun _ _ => rfl) hF
  refine ⟨σ1, ?_, bz_fw_xr hf1 (by omega)⟩
  refine bz_iload_n dX3_coefficient_0 rfl ?_
  refine bz_cS1I (z := 0) mv_X3_isSlot ws_X3_isSlot lk_X3_89 dX3_coefficient_1 (by exact t_isSlot hs) (by omega) rfl (Nat.le_of_ble_eq_true rfl) (Nat.le_of_ble_eq_true rfl) ?_
  refine bz_if_eq (tgt := 21) dX3_coefficient_4 rfl (fun q => absurd q (by decide)) (fun _ => ?_)
  refine bz_iload_n dX3_coefficient_7 rfl ?_
  refine bz_cS1I (z := 0) mv_X3_isBase ws_X3_isBase lk_X3_92 dX3_coefficient_8 (by exact t_isBase hbs) (by omega) rfl (Nat.le_of_ble_eq_true rfl) (Nat.le_of_ble_eq_true rfl) ?_
  refine bz_if_eq (tgt := 21) dX3_coefficient_11 rfl (fun q => absurd q (by decide)) (fun _ => ?_)
  refine bz_iload_n dX3_coefficient_14 rfl ?_
  refine bz_cS1I (z := 0) mv_X3_isPartition ws_X3_isPartition lk_X3_54 dX3_coefficient_15 (by exact t_isPart ha) (by omega) rfl (Nat.le_of_ble_eq_true rfl) (Nat.le_of_ble_eq_true rfl) ?_
  refine bz_if_ne (tgt := 25) dX3_coefficient_18 rfl (fun _ => ?_) (fun q => absurd q (by decide))
  refine bz_iload dX3_coefficient_25 rfl ?_
  have fin : bz_V l ad K 73 mX3_coefficient 4 (some (.long (cf_r (F a) base w))) σ1 40 [some (.ref (ad 23)), some (.int (nI s)), some (.int (nI base)), some (.int (nI a)), some (.int (nI w)), none, none, none, none] [] σ := by
    refine bz_aload_n dX3_coefficient_40 rfl ?_
    refine bz_getf fl_X3_21 dX3_coefficient_41 rfl rfl (by omega) ?_
    refine bz_iload_n dX3_coefficient_44 rfl ?_
    refine bz_aload_n dX3_coefficient_45 rfl ?_
    refine bz_getf fl_X3_34 dX3_coefficient_46 rfl rfl (by omega) ?_
    refine bz_iload_n dX3_coefficient_49 rfl ?_
    refine bz_aaload dX3_coefficient_50 rfl (by omega) hs ?_
    refine bz_aload_n dX3_coefficient_51 rfl ?_
    refine bz_getf fl_X3_51 dX3_coefficient_52 rfl rfl (by omega) ?_
    refine bz_cVN3U (z := 0) mv_X0_fromWeights mi_X0_fromWeights lk_X3_122 dX3_coefficient_55 (by exact hV1) (by omega) rfl (by omega) rfl rfl rfl (Nat.le_of_ble_eq_true rfl) (Nat.le_of_ble_eq_true rfl) ?_
    refine bz_iload_n dX3_coefficient_58 rfl ?_
    refine bz_iconst dX3_coefficient_59 kc_iconst_3 ?_
    have fin2 : bz_V l ad K 73 mX3_coefficient 4 (some (.long (cf_r (F a) base w))) σ1 70 [some (.ref (ad 23)), some (.int (nI s)), some (.int (nI base)), some (.int (nI a)), some (.int (nI w)), none, none, none, none] [.long (cf_low base)] σ1 := by
      refine bz_lst5 dX3_coefficient_70 (by decide) rfl ?_
      refine bz_aload_n dX3_coefficient_72 rfl ?_
      refine bz_getf fl_X3_51 dX3_coefficient_73 rfl rfl (by omega) ?_
      refine bz_iload_n dX3_coefficient_76 rfl ?_
      refine bz_laload dX3_coefficient_77 rfl (by omega) ha ?_
      refine bz_topl (h1 a ha) ?_
      refine bz_lload dX3_coefficient_78 rfl ?_
      refine bz_cS2L (z := 7) mv_X3_commonDivisor ws_X3_commonDivisor lk_X3_127 dX3_coefficient_80 (by exact t_commonDivisor) (by omega) rfl (Nat.le_of_ble_eq_true rfl) (Nat.le_of_ble_eq_true rfl) ?_
      refine bz_topl (y := cf_g (F a) base) rfl ?_
      refine bz_lst7 dX3_coefficient_83 (by decide) rfl ?_
      refine bz_lload dX3_coefficient_85 rfl ?_
      refine bz_lconst dX3_coefficient_87 kc_lconst_0 ?_
      refine bz_lcmp dX3_coefficient_88 ?_
      refine bz_if_ne (tgt := 94) dX3_coefficient_89 rfl (fun h => ?_) (fun h => ?_)
      · have hg : ¬ cf_g (F a) base = 0 := fun q => h (bz_cmp0.mpr q)
        refine bz_iload dX3_coefficient_94 rfl ?_
        refine bz_if_ne (tgt := 111) dX3_coefficient_96 rfl (fun h2 => ?_) (fun h2 => ?_)
        · refine bz_lload dX3_coefficient_111 rfl ?_
          refine bz_lload dX3_coefficient_113 rfl ?_
          refine bz_ldiv dX3_coefficient_115 hg ?_
          refine bz_lret dX3_coefficient_116 rfl ?_ ?_
          · rw [cf_r, if_neg hg, if_neg (fun q => h2 (by rw [q]; rfl))]
          · rfl
        · refine bz_aload_n dX3_coefficient_99 rfl ?_
          refine bz_getf fl_X3_51 dX3_coefficient_100 rfl rfl (by omega) ?_
          refine bz_iload_n dX3_coefficient_103 rfl ?_
          refine bz_laload dX3_coefficient_104 rfl (by omega) ha ?_
          refine bz_topl (h1 a ha) ?_
          refine bz_lload dX3_coefficient_105 rfl ?_
          refine bz_ldiv dX3_coefficient_107 hg ?_
          refine bz_goto (tgt := 116) dX3_coefficient_108 rfl ?_
          refine bz_lret dX3_coefficient_116 rfl ?_ ?_
          · rw [cf_r, if_neg hg, if_pos ((nI_eq (b := 0) (by omega) (by omega)).mp h2)]
          · rfl
      · refine bz_lconst dX3_coefficient_92 kc_lconst_0 ?_
        refine bz_lret dX3_coefficient_93 rfl ?_ ?_
        · rw [cf_r, if_pos (bz_cmp0.mp h)]
        · rfl
    refine bz_icmp_neN (tgt := 69) dX3_coefficient_60 rfl (by omega) (by omega) (fun h => ?_) (fun h => ?_)
    · refine bz_lconst dX3_coefficient_69 kc_lconst_1 ?_
      refine bz_topl (y := cf_low base) (by rw [cf_low, if_neg h]) ?_
      exact fin2
    · refine bz_ldc2 kl_X3_125 dX3_coefficient_63 ?_
      refine bz_goto (tgt := 70) dX3_coefficient_66 rfl ?_
      refine bz_topl (y := cf_low base) (by rw [cf_low, if_pos h]) ?_
      exact fin2
  refine bz_if_eq (tgt := 40) dX3_coefficient_27 rfl (fun h => ?_) (fun h => ?_)
  · exact fin
  · have hw1 : w = 1 := by
      rcases Nat.eq_zero_or_pos w with q | q
      · exact absurd (by rw [q]; rfl) h
      · omega
    refine bz_iload dX3_coefficient_30 rfl ?_
    refine bz_iconst dX3_coefficient_32 kc_iconst_1 ?_
    refine bz_icmp_eqN (tgt := 40) dX3_coefficient_33 rfl (by omega) (by omega) (fun _ => ?_) (fun q => absurd q (by omega))
    exact fin
end X3C
