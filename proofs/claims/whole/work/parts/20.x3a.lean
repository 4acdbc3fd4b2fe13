/-! BasisMoves: what the calls share -/
theorem cmp_lt {x y : Int64} : lg_cmp x y < 0 ↔ x < y := by
  unfold lg_cmp
  by_cases h1 : x > y
  · rw [if_pos h1]
    constructor
    · intro h; exact absurd h (by decide)
    · intro h; exact absurd (Int64.lt_trans h h1) (Int64.lt_irrefl)
  · rw [if_neg h1]
    by_cases h2 : x = y
    · rw [if_pos h2]
      constructor
      · intro h; exact absurd h (by decide)
      · intro h; rw [h2] at h; exact absurd h (Int64.lt_irrefl)
    · rw [if_neg h2]
      constructor
      · intro _
        rcases Int64.lt_or_eq_of_le (Int64.not_lt.mp h1) with q | q
        · exact q
        · exact absurd q h2
      · intro _; decide
theorem cmp_gt {x y : Int64} : 0 < lg_cmp x y ↔ y < x := by
  unfold lg_cmp
  by_cases h1 : x > y
  · rw [if_pos h1]
    exact ⟨fun _ => h1, fun _ => by decide⟩
  · rw [if_neg h1]
    constructor
    · intro h
      by_cases h2 : x = y
      · rw [if_pos h2] at h; exact absurd h (by decide)
      · rw [if_neg h2] at h; exact absurd h (by decide)
    · intro h; exact absurd h h1
abbrev zw (x b : Int64) : Prop := ¬ x < -b ∧ ¬ b < x
abbrev zwA (f : Nat → Int64) (b : Int64) : Prop := ∀ j, j < 30 → zw (f j) b
def dgz (f : Nat → Int64) : Nat → Int32
  | 0 => -6
  | i + 1 => if f i = 0 then dgz f i else nI (xt_deg i)
def gcz : Nat → Int64 → Int64 → Int64
  | 0, x, _ => x
  | n + 1, x, y => if y = 0 then x else gcz n y (x - x / y * y)
theorem bz_sh25 : ∀ p, p < 8 → bz_sh (25 + p) = (1, 30, 0, []) := by decide +kernel
theorem bz_sh34 : ∀ p, p < 16 → bz_sh (34 + p) = (1, 30, 0, []) := by decide +kernel
/-- a slot holds what was worked out, if no number is too great -/
def hz_r (R : Nat → Int64) : Int32 := if zwA R 100000 then nI 1 else -4
def hz_s (σ : bz_S) (to : Nat) : bz_S := if zwA (σ.1 53) 100000 then bz_setJ σ (25 + to) (fun j => if j < 30 then σ.1 53 j else σ.1 (25 + to) j) else σ
section X3A
variable {l : Launch} {ad : Nat → Nat} {K : bz_K} {σ σ' : bz_S} {k1 : Nat} {r : Option Value}
theorem t_isSlot {a : Nat} (h : a < 8) : bz_V l ad K 73 mX3_isSlot 0 (some (.int (nI 1))) σ 0 [some (.int (nI a))] [] σ := by
  refine bz_iload_n dX3_isSlot_0 rfl ?_
  refine bz_if_lt (tgt := 14) dX3_isSlot_1 rfl (fun q => absurd q (nI_pos (by omega))) (fun _ => ?_)
  refine bz_iload_n dX3_isSlot_4 rfl ?_
  refine bz_bipush dX3_isSlot_5 kc_bipush_8 ?_
  refine bz_icmp_geN (tgt := 14) dX3_isSlot_7 rfl (by omega) (by omega) (fun q => absurd q (by omega)) (fun _ => ?_)
  refine bz_iconst dX3_isSlot_10 kc_iconst_1 ?_
  refine bz_goto (tgt := 15) dX3_isSlot_11 rfl ?_
  refine bz_zret dX3_isSlot_15 rfl rfl rfl rfl
theorem t_isSlotF {x : Int32} (h : x < 0 ∨ nI 8 ≤ x) : bz_V l ad K 73 mX3_isSlot 0 (some (.int (nI 0))) σ 0 [some (.int x)] [] σ := by
  refine bz_iload_n dX3_isSlot_0 rfl ?_
  refine bz_if_lt (tgt := 14) dX3_isSlot_1 rfl (fun h1 => ?_) (fun h1 => ?_)
  · refine bz_iconst dX3_isSlot_14 kc_iconst_0 ?_
    refine bz_zret dX3_isSlot_15 rfl rfl rfl rfl
  · refine bz_iload_n dX3_isSlot_4 rfl ?_
    refine bz_bipush dX3_isSlot_5 kc_bipush_8 ?_
    refine bz_icmp_ge (tgt := 14) dX3_isSlot_7 rfl (fun _ => ?_) (fun q => absurd (h.resolve_left h1) q)
    refine bz_iconst dX3_isSlot_14 kc_iconst_0 ?_
    refine bz_zret dX3_isSlot_15 rfl rfl rfl rfl
theorem t_isBase {a : Nat} (h : a < 5) : bz_V l ad K 73 mX3_isBase 0 (some (.int (nI 1))) σ 0 [some (.int (nI a))] [] σ := by
  refine bz_iload_n dX3_isBase_0 rfl ?_
  refine bz_if_lt (tgt := 13) dX3_isBase_1 rfl (fun q => absurd q (nI_pos (by omega))) (fun _ => ?_)
  refine bz_iload_n dX3_isBase_4 rfl ?_
  refine bz_iconst dX3_isBase_5 kc_iconst_4 ?_
  refine bz_icmp_gtN (tgt := 13) dX3_isBase_6 rfl (by omega) (by omega) (fun q => absurd q (by omega)) (fun _ => ?_)
  refine bz_iconst dX3_isBase_9 kc_iconst_1 ?_
  refine bz_goto (tgt := 14) dX3_isBase_10 rfl ?_
  refine bz_zret dX3_isBase_14 rfl rfl rfl rfl
theorem t_isBaseF {x : Int32} (h : x < 0 ∨ nI 5 ≤ x) : bz_V l ad K 73 mX3_isBase 0 (some (.int (nI 0))) σ 0 [some (.int x)] [] σ := by
  refine bz_iload_n dX3_isBase_0 rfl ?_
  refine bz_if_lt (tgt := 13) dX3_isBase_1 rfl (fun h1 => ?_) (fun h1 => ?_)
  · refine bz_iconst dX3_isBase_13 kc_iconst_0 ?_
    refine bz_zret dX3_isBase_14 rfl rfl rfl rfl
  · have h4 : nI 4 < x := by
      have := Int32.le_iff_toInt_le.mp (h.resolve_left h1)
      rw [nI_toInt (by decide)] at this
      rw [Int32.lt_iff_toInt_lt, nI_toInt (by decide)]
      omega
    refine bz_iload_n dX3_isBase_4 rfl ?_
    refine bz_iconst dX3_isBase_5 kc_iconst_4 ?_
    refine bz_icmp_gt (tgt := 13) dX3_isBase_6 rfl (fun _ => ?_) (fun q => absurd (h4) q)
    refine bz_iconst dX3_isBase_13 kc_iconst_0 ?_
    refine bz_zret dX3_isBase_14 rfl rfl rfl rfl
theorem t_isWithin {x b : Int64} (h : zw x b) : bz_V l ad K 73 mX3_isWithin 0 (some (.int (nI 1))) σ 0 [some (.long x), none, some (.long b), none] [] σ := by
  refine bz_lload_n dX3_isWithin_0 rfl ?_
  refine bz_lload_n dX3_isWithin_1 rfl ?_
  refine bz_lneg dX3_isWithin_2 ?_
  refine bz_lcmp dX3_isWithin_3 ?_
  refine bz_if_lt (tgt := 17) dX3_isWithin_4 rfl (fun q => absurd q (fun q => h.1 (cmp_lt.mp q))) (fun _ => ?_)
  refine bz_lload_n dX3_isWithin_7 rfl ?_
  refine bz_lload_n dX3_isWithin_8 rfl ?_
  refine bz_lcmp dX3_isWithin_9 ?_
  refine bz_if_gt (tgt := 17) dX3_isWithin_10 rfl (fun q => absurd q (fun q => h.2 (cmp_gt.mp q))) (fun _ => ?_)
  refine bz_iconst dX3_isWithin_13 kc_iconst_1 ?_
  refine bz_goto (tgt := 18) dX3_isWithin_14 rfl ?_
  refine bz_zret dX3_isWithin_18 rfl rfl rfl rfl
theorem t_isWithinF {x b : Int64} (h : ¬ zw x b) : bz_V l ad K 73 mX3_isWithin 0 (some (.int (nI 0))) σ 0 [some (.long x), none, some (.long b), none] [] σ := by
  refine bz_lload_n dX3_isWithin_0 rfl ?_
  refine bz_lload_n dX3_isWithin_1 rfl ?_
  refine bz_lneg dX3_isWithin_2 ?_
  refine bz_lcmp dX3_isWithin_3 ?_
  refine bz_if_lt (tgt := 17) dX3_isWithin_4 rfl (fun h1 => ?_) (fun h1 => ?_)
  · refine bz_iconst dX3_isWithin_17 kc_iconst_0 ?_
    refine bz_zret dX3_isWithin_18 rfl rfl rfl rfl
  · refine bz_lload_n dX3_isWithin_7 rfl ?_
    refine bz_lload_n dX3_isWithin_8 rfl ?_
    refine bz_lcmp dX3_isWithin_9 ?_
    refine bz_if_gt (tgt := 17) dX3_isWithin_10 rfl (fun h2 => ?_) (fun h2 => ?_)
    · refine bz_iconst dX3_isWithin_17 kc_iconst_0 ?_
      refine bz_zret dX3_isWithin_18 rfl rfl rfl rfl
    · exact absurd ⟨fun q => h1 (cmp_lt.mpr q), fun q => h2 (cmp_gt.mpr q)⟩ h
theorem t_areW_loop {b : Int64} (h1 : bz_sh k1 = (1, 30, 0, [])) (hk1 : k1 < 73) :
    ∀ (m i : Nat) (x6 x7 : Option Value), i + m = 30 → (∀ j, j < i → zw (σ.1 k1 j) b) → bz_V l ad K 73 mX3_areWithin 1 (some (.int (nI (if zwA (σ.1 k1) b then 1 else 0)))) σ 9 [some (.ref (ad k1)), some (.long b), none, some (.ref (ad k1)), some (.int (nI 30)), some (.int (nI i)), x6, x7] [] σ := by
  intro m
  induction m with
  | zero =>
    intro i x6 x7 hi hw
    obtain rfl : i = 30 := by omega
    refine bz_iload dX3_areWithin_9 rfl ?_
    refine bz_iload dX3_areWithin_11 rfl ?_
    refine bz_icmp_geN (tgt := 39) dX3_areWithin_13 rfl (by omega) (by omega) (fun _ => ?_) (fun q => absurd q (by omega))
    refine bz_iconst dX3_areWithin_39 kc_iconst_1 ?_
    refine bz_zret dX3_areWithin_40 rfl ?_ ?_ ?_
    · rfl
    · rw [if_pos hw]
    · rfl
  | succ m ih =>
    intro i x6 x7 hi hw
    refine bz_iload dX3_areWithin_9 rfl ?_
    refine bz_iload dX3_areWithin_11 rfl ?_
    refine bz_icmp_geN (tgt := 39) dX3_areWithin_13 rfl (by omega) (by omega) (fun q => absurd q (by omega)) (fun _ => ?_)
    by_cases h : zw (σ.1 k1 i) b
    · refine bz_aload_n dX3_areWithin_16 rfl ?_
      refine bz_iload dX3_areWithin_17 rfl ?_
      refine bz_laload dX3_areWithin_19 h1 (by omega) (by omega) ?_
      refine bz_lst6 dX3_areWithin_20 (by decide) rfl ?_
      refine bz_lload dX3_areWithin_22 rfl ?_
      refine bz_lload_n dX3_areWithin_24 rfl ?_
      refine bz_cS2I (z := 0) mv_X3_isWithin ws_X3_isWithin lk_X3_97 dX3_areWithin_25 (by exact t_isWithin h) (by omega) rfl (Nat.le_of_ble_eq_true rfl) (Nat.le_of_ble_eq_true rfl) ?_
      refine bz_if_ne (tgt := 33) dX3_areWithin_28 rfl (fun _ => ?_) (fun q => absurd q (by decide))
      first | refine bz_iinc5N dX3_areWithin_33 (by decide) rfl ?_ | refine bz_iinc5 dX3_areWithin_33 rfl (by decide) rfl ?_
      refine bz_goto (tgt := 9) dX3_areWithin_36 rfl ?_
      refine ih (i + 1) _ _ (by omega) (fun j hj => ?_)
      rcases Nat.lt_or_eq_of_le (Nat.le_of_lt_succ hj) with q | q
      · exact hw j q
      · rw [q]; exact h
    · refine bz_aload_n dX3_areWithin_16 rfl ?_
      refine bz_iload dX3_areWithin_17 rfl ?_
      refine bz_laload dX3_areWithin_19 h1 (by omega) (by omega) ?_
      refine bz_lst6 dX3_areWithin_20 (by decide) rfl ?_
      refine bz_lload dX3_areWithin_22 rfl ?_
      refine bz_lload_n dX3_areWithin_24 rfl ?_
      refine bz_cS2I (z := 0) mv_X3_isWithin ws_X3_isWithin lk_X3_97 dX3_areWithin_25 (by exact t_isWithinF h) (by omega) rfl (Nat.le_of_ble_eq_true rfl) (Nat.le_of_ble_eq_true rfl) ?_
      refine bz_if_ne (tgt := 33) dX3_areWithin_28 rfl (fun q => absurd (by decide) q) (fun _ => ?_)
      refine bz_iconst dX3_areWithin_31 kc_iconst_0 ?_
      refine bz_zret dX3_areWithin_32 rfl ?_ ?_ ?_
      · rfl
      · rw [if_neg (fun q => h (q i (by omega)))]
      · rfl
theorem t_areWithin {b : Int64} (h1 : bz_sh k1 = (1, 30, 0, [])) (hk1 : k1 < 73) : bz_V l ad K 73 mX3_areWithin 1 (some (.int (nI (if zwA (σ.1 k1) b then 1 else 0)))) σ 0 [some (.ref (ad k1)), some (.long b), none, none, none, none, none, none] [] σ := by
  refine bz_aload_n dX3_areWithin_0 rfl ?_
  refine bz_ast3 dX3_areWithin_1 (by decide) rfl ?_
  refine bz_aload_n dX3_areWithin_2 rfl ?_
  refine bz_alen dX3_areWithin_3 h1 (by omega) ?_
  refine bz_ist4 dX3_areWithin_4 (by decide) rfl ?_
  refine bz_iconst dX3_areWithin_6 kc_iconst_0 ?_
  refine bz_ist5 dX3_areWithin_7 (by decide) rfl ?_
  exact t_areW_loop h1 hk1 30 0 none none rfl (fun j hj => absurd hj (Nat.not_lt_zero j))
theorem t_dg_loop (h1 : bz_sh k1 = (1, 30, 0, [])) (hk1 : k1 < 73) (hT : pz_T σ.2.1) :
    ∀ (i : Nat), i < 30 → bz_V l ad K 73 mX3_degreeOf 0 (some (.int (dgz (σ.1 k1) (i + 1)))) σ 3 [some (.ref (ad 23)), some (.ref (ad k1)), some (.int (nI i))] [] σ := by
  intro i
  induction i with
  | zero =>
    intro hi
    refine bz_iload_n dX3_degreeOf_3 rfl ?_
    refine bz_if_lt (tgt := 31) dX3_degreeOf_4 rfl (fun q => absurd q (by decide)) (fun _ => ?_)
    refine bz_aload_n dX3_degreeOf_7 rfl ?_
    refine bz_iload_n dX3_degreeOf_8 rfl ?_
    refine bz_laload dX3_degreeOf_9 h1 (by omega) hi ?_
    refine bz_lconst dX3_degreeOf_10 kc_lconst_0 ?_
    refine bz_lcmp dX3_degreeOf_11 ?_
    refine bz_if_eq (tgt := 25) dX3_degreeOf_12 rfl (fun h => ?_) (fun h => ?_)
    · refine bz_iinc2 dX3_degreeOf_25 rfl (by decide) rfl ?_
      refine bz_goto (tgt := 3) dX3_degreeOf_28 rfl ?_
      refine bz_iload_n dX3_degreeOf_3 rfl ?_
      refine bz_if_lt (tgt := 31) dX3_degreeOf_4 rfl (fun _ => ?_) (fun q => absurd (by decide) q)
      refine bz_bipush dX3_degreeOf_31 kc_bipush_m6 ?_
      refine bz_iret dX3_degreeOf_33 rfl ?_ ?_
      · rw [dgz, if_pos (bz_cmp0.mp h)]
        rfl
      · rfl
    · refine bz_aload_n dX3_degreeOf_15 rfl ?_
      refine bz_getf fl_X3_10 dX3_degreeOf_16 rfl rfl (by omega) ?_
      refine bz_getf fl_X3_62 dX3_degreeOf_19 rfl rfl (by omega) ?_
      refine bz_iload_n dX3_degreeOf_22 rfl ?_
      refine bz_iaload dX3_degreeOf_23 rfl (by omega) (by omega) ?_
      refine bz_topi (hT.1 0 hi) ?_
      refine bz_iret dX3_degreeOf_24 rfl ?_ ?_
      · rw [dgz, if_neg (fun q => h (bz_cmp0.mpr q))]
      · rfl
  | succ i ih =>
    intro hi
    refine bz_iload_n dX3_degreeOf_3 rfl ?_
    refine bz_if_lt (tgt := 31) dX3_degreeOf_4 rfl (fun q => absurd q (nI_pos (by omega))) (fun _ => ?_)
    refine bz_aload_n dX3_degreeOf_7 rfl ?_
    refine bz_iload_n dX3_degreeOf_8 rfl ?_
    refine bz_laload dX3_degreeOf_9 h1 (by omega) hi ?_
    refine bz_lconst dX3_degreeOf_10 kc_lconst_0 ?_
    refine bz_lcmp dX3_degreeOf_11 ?_
    refine bz_if_eq (tgt := 25) dX3_degreeOf_12 rfl (fun h => ?_) (fun h => ?_)
    · first | refine bz_idec2N dX3_degreeOf_25 (by decide) rfl ?_ | refine bz_iinc2 dX3_degreeOf_25 rfl (by decide) rfl ?_
      refine bz_goto (tgt := 3) dX3_degreeOf_28 rfl ?_
      have := ih (by omega)
      rw [dgz, if_pos (bz_cmp0.mp h)]
      exact this
    · refine bz_aload_n dX3_degreeOf_15 rfl ?_
      refine bz_getf fl_X3_10 dX3_degreeOf_16 rfl rfl (by omega) ?_
      refine bz_getf fl_X3_62 dX3_degreeOf_19 rfl rfl (by omega) ?_
      refine bz_iload_n dX3_degreeOf_22 rfl ?_
      refine bz_iaload dX3_degreeOf_23 rfl (by omega) (by omega) ?_
      refine bz_topi (hT.1 (i + 1) hi) ?_
      refine bz_iret dX3_degreeOf_24 rfl ?_ ?_
      · rw [dgz, if_neg (fun q => h (bz_cmp0.mpr q))]
      · rfl
theorem t_degreeOf (h1 : bz_sh k1 = (1, 30, 0, [])) (hk1 : k1 < 73) (hT : pz_T σ.2.1) : bz_V l ad K 73 mX3_degreeOf 0 (some (.int (dgz (σ.1 k1) 30))) σ 0 [some (.ref (ad 23)), some (.ref (ad k1)), none] [] σ := by
  refine bz_bipush dX3_degreeOf_0 kc_bipush_29 ?_
  refine bz_ist2 dX3_degreeOf_2 (by decide) rfl ?_
  exact t_dg_loop h1 hk1 hT 29 (by omega)
theorem t_fs_loop (hT : pz_T σ.2.1) :
    ∀ (m i acc : Nat), i + m = 8 → nsum (fun s => if dgz (σ.1 (25 + s)) 30 = -6 then 0 else 1) i = acc → bz_V l ad K 73 mX3_filledSlots 1 (some (.int (nI (nsum (fun s => if dgz (σ.1 (25 + s)) 30 = -6 then 0 else 1) 8)))) σ 4 [some (.ref (ad 23)), some (.int (nI acc)), some (.int (nI i))] [] σ := by
  intro m
  induction m with
  | zero =>
    intro i acc hi ha
    obtain rfl : i = 8 := by omega
    refine bz_iload_n dX3_filledSlots_4 rfl ?_
    refine bz_bipush dX3_filledSlots_5 kc_bipush_8 ?_
    refine bz_icmp_geN (tgt := 34) dX3_filledSlots_7 rfl (by omega) (by omega) (fun _ => ?_) (fun q => absurd q (by omega))
    refine bz_iload_n dX3_filledSlots_34 rfl ?_
    refine bz_iret dX3_filledSlots_35 rfl ?_ ?_
    · rw [ha]
    · rfl
  | succ m ih =>
    intro i acc hi ha
    have h25 := bz_sh25 i (by omega)
    refine bz_iload_n dX3_filledSlots_4 rfl ?_
    refine bz_bipush dX3_filledSlots_5 kc_bipush_8 ?_
    refine bz_icmp_geN (tgt := 34) dX3_filledSlots_7 rfl (by omega) (by omega) (fun q => absurd q (by omega)) (fun _ => ?_)
    refine bz_aload_n dX3_filledSlots_10 rfl ?_
    refine bz_aload_n dX3_filledSlots_11 rfl ?_
    refine bz_getf fl_X3_34 dX3_filledSlots_12 rfl rfl (by omega) ?_
    refine bz_iload_n dX3_filledSlots_15 rfl ?_
    refine bz_aaload dX3_filledSlots_16 rfl (by omega) (by omega) ?_
    refine bz_cV1I (z := 1) mv_X3_degreeOf mi_X3_degreeOf lk_X3_114 dX3_filledSlots_17 (by exact t_degreeOf h25 (by omega) (by exact hT)) (by omega) rfl (by omega) rfl rfl rfl (Nat.le_of_ble_eq_true rfl) (Nat.le_of_ble_eq_true rfl) ?_
    refine bz_bipush dX3_filledSlots_20 kc_bipush_m6 ?_
    refine bz_icmp_eq (tgt := 28) dX3_filledSlots_22 rfl (fun h => ?_) (fun h => ?_)
    · first | refine bz_iinc2N dX3_filledSlots_28 (by decide) rfl ?_ | refine bz_iinc2 dX3_filledSlots_28 rfl (by decide) rfl ?_
      refine bz_goto (tgt := 4) dX3_filledSlots_31 rfl ?_
      exact ih (i + 1) acc (by omega) (by rw [nsum, ha, if_pos h, Nat.add_zero])
    · first | refine bz_iinc1N dX3_filledSlots_25 (by decide) rfl ?_ | refine bz_iinc1 dX3_filledSlots_25 rfl (by decide) rfl ?_
      first | refine bz_iinc2N dX3_filledSlots_28 (by decide) rfl ?_ | refine bz_iinc2 dX3_filledSlots_28 rfl (by decide) rfl ?_
      refine bz_goto (tgt := 4) dX3_filledSlots_31 rfl ?_
      exact ih (i + 1) (acc + 1) (by omega) (by rw [nsum, ha, if_neg h])
theorem t_filledSlots (hT : pz_T σ.2.1) : bz_V l ad K 73 mX3_filledSlots 1 (some (.int (nI (nsum (fun s => if dgz (σ.1 (25 + s)) 30 = -6 then 0 else 1) 8)))) σ 0 [some (.ref (ad 23)), none, none] [] σ := by
  refine bz_iconst dX3_filledSlots_0 kc_iconst_0 ?_
  refine bz_ist1 dX3_filledSlots_1 (by decide) rfl ?_
  refine bz_iconst dX3_filledSlots_2 kc_iconst_0 ?_
  refine bz_ist2 dX3_filledSlots_3 (by decide) rfl ?_
  exact t_fs_loop hT 8 0 0 rfl rfl
theorem t_hold {to : Nat} (hto : to < 8) : bz_V l ad K 73 mX3_hold 2 (some (.int (hz_r (σ.1 53)))) (hz_s σ to) 0 [some (.ref (ad 23)), some (.int (nI to))] [] σ := by
  have h25 := bz_sh25 to hto
  refine bz_aload_n dX3_hold_0 rfl ?_
  refine bz_getf fl_X3_51 dX3_hold_1 rfl rfl (by omega) ?_
  refine bz_ldc2 kl_X3_182 dX3_hold_4 ?_
  refine bz_cS2I (z := 5) mv_X3_areWithin ws_X3_areWithin lk_X3_158 dX3_hold_7 (by exact t_areWithin rfl (by omega)) (by omega) rfl (Nat.le_of_ble_eq_true rfl) (Nat.le_of_ble_eq_true rfl) ?_
  by_cases h : zwA (σ.1 53) 100000
  · refine bz_topi (y := nI 1) (by rw [if_pos h]) ?_
    refine bz_if_ne (tgt := 16) dX3_hold_10 rfl (fun _ => ?_) (fun q => absurd q (by decide))
    refine bz_aload_n dX3_hold_16 rfl ?_
    refine bz_getf fl_X3_51 dX3_hold_17 rfl rfl (by omega) ?_
    refine bz_iconst dX3_hold_20 kc_iconst_0 ?_
    refine bz_aload_n dX3_hold_21 rfl ?_
    refine bz_getf fl_X3_34 dX3_hold_22 rfl rfl (by omega) ?_
    refine bz_iload_n dX3_hold_25 rfl ?_
    refine bz_aaload dX3_hold_26 rfl (by omega) hto ?_
    refine bz_iconst dX3_hold_27 kc_iconst_0 ?_
    refine bz_bipush dX3_hold_28 kc_bipush_30 ?_
    refine bz_copy lk_X3_165 wac_n wac_s wi_java_lang_System (by omega) dX3_hold_30 rfl h25 (by omega) (by omega) (Nat.le_of_ble_eq_true rfl) ?_
    refine bz_iconst dX3_hold_33 kc_iconst_1 ?_
    refine bz_iret dX3_hold_34 rfl ?_ ?_
    · rw [hz_r, if_pos h]
    · rw [hz_s, if_pos h]
  · refine bz_topi (y := nI 0) (by rw [if_neg h]) ?_
    refine bz_if_ne (tgt := 16) dX3_hold_10 rfl (fun q => absurd (by decide) q) (fun _ => ?_)
    refine bz_bipush dX3_hold_13 kc_bipush_m4 ?_
    refine bz_iret dX3_hold_15 rfl ?_ ?_
    · rw [hz_r, if_neg h]
    · rw [hz_s, if_neg h]
theorem t_gc_loop {T a b : Int64} {x9 x10 : Option Value} :
    ∀ (m i : Nat) (x y : Int64) (x9 x10 : Option Value), i + m = 100 → gcz m x y = T → bz_V l ad K 73 mX3_commonDivisor 1 (some (.long T)) σ 15 [some (.long a), none, some (.long b), none, some (.long x), none, some (.long y), none, some (.int (nI i)), x9, x10] [] σ := by
  intro m
  induction m with
  | zero =>
    intro i x y x9 x10 hi hg
    obtain rfl : i = 100 := by omega
    refine bz_iload dX3_commonDivisor_15 rfl ?_
    refine bz_bipush dX3_commonDivisor_17 kc_bipush_100 ?_
    refine bz_icmp_geN (tgt := 50) dX3_commonDivisor_19 rfl (by omega) (by omega) (fun _ => ?_) (fun q => absurd q (by omega))
    refine bz_lload dX3_commonDivisor_50 rfl ?_
    refine bz_lret dX3_commonDivisor_52 rfl ?_ ?_
    · exact hg
    · rfl
  | succ m ih =>
    intro i x y x9 x10 hi hg
    rw [gcz] at hg
    refine bz_iload dX3_commonDivisor_15 rfl ?_
    refine bz_bipush dX3_commonDivisor_17 kc_bipush_100 ?_
    refine bz_icmp_geN (tgt := 50) dX3_commonDivisor_19 rfl (by omega) (by omega) (fun q => absurd q (by omega)) (fun _ => ?_)
    refine bz_lload dX3_commonDivisor_22 rfl ?_
    refine bz_lconst dX3_commonDivisor_24 kc_lconst_0 ?_
    refine bz_lcmp dX3_commonDivisor_25 ?_
    refine bz_if_eq (tgt := 50) dX3_commonDivisor_26 rfl (fun h => ?_) (fun h => ?_)
    · refine bz_lload dX3_commonDivisor_50 rfl ?_
      refine bz_lret dX3_commonDivisor_52 rfl ?_ ?_
      · rw [if_pos (bz_cmp0.mp h)] at hg
        exact hg
      · rfl
    · rw [if_neg (fun q => h (bz_cmp0.mpr q))] at hg
      refine bz_lload dX3_commonDivisor_29 rfl ?_
      refine bz_lload dX3_commonDivisor_31 rfl ?_
      refine bz_lrem dX3_commonDivisor_33 (fun q => h (bz_cmp0.mpr q)) ?_
      refine bz_lst9 dX3_commonDivisor_34 (by decide) rfl ?_
      refine bz_lload dX3_commonDivisor_36 rfl ?_
      refine bz_lst4 dX3_commonDivisor_38 (by decide) rfl ?_
      refine bz_lload dX3_commonDivisor_40 rfl ?_
      refine bz_lst6 dX3_commonDivisor_42 (by decide) rfl ?_
      first | refine bz_iinc8N dX3_commonDivisor_44 (by decide) rfl ?_ | refine bz_iinc8 dX3_commonDivisor_44 rfl (by decide) rfl ?_
      refine bz_goto (tgt := 15) dX3_commonDivisor_47 rfl ?_
      exact ih (i + 1) _ _ _ _ (by omega) hg
theorem t_commonDivisor {a b : Int64} : bz_V l ad K 73 mX3_commonDivisor 1 (some (.long (gcz 100 (if 0 < a then a else -a) (if 0 < b then b else -b)))) σ 0 [some (.long a), none, some (.long b), none, none, none, none, none, none, none, none] [] σ := by
  refine bz_lload_n dX3_commonDivisor_0 rfl ?_
  refine bz_mabs lk_X3_184 wabs_s wi_java_lang_Math wabs_c (by omega) dX3_commonDivisor_1 (Nat.le_of_ble_eq_true rfl) ?_
  refine bz_lst4 dX3_commonDivisor_4 (by decide) rfl ?_
  refine bz_lload_n dX3_commonDivisor_6 rfl ?_
  refine bz_mabs lk_X3_184 wabs_s wi_java_lang_Math wabs_c (by omega) dX3_commonDivisor_7 (Nat.le_of_ble_eq_true rfl) ?_
  refine bz_lst6 dX3_commonDivisor_10 (by decide) rfl ?_
  refine bz_iconst dX3_commonDivisor_12 kc_iconst_0 ?_
  refine bz_ist8 dX3_commonDivisor_13 (by decide) rfl ?_
  exact t_gc_loop (x9 := none) (x10 := none) 100 0 _ _ none none rfl rfl
end X3A
