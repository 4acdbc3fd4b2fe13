/-! BasisMoves: images, counts -/
def im_s (σ : bz_S) (k i : Nat) : bz_S := (fun a => if 34 + k * 8 ≤ a ∧ a < 34 + k * 8 + i then (fun j => if j < 30 then σ.1 (a - (34 + k * 8) + 25) j else σ.1 a j) else σ.1 a, σ.2)
def rs_s (σ : bz_S) (k i : Nat) : bz_S := (fun a => if 25 ≤ a ∧ a < 25 + i then (fun j => if j < 30 then σ.1 (a - 25 + (34 + k * 8)) j else σ.1 a j) else σ.1 a, σ.2)
theorem im_s_0 (σ : bz_S) (k : Nat) : im_s σ k 0 = σ := by
  unfold im_s
  have : (fun a => if 34 + k * 8 ≤ a ∧ a < 34 + k * 8 + 0 then (fun j => if j < 30 then σ.1 (a - (34 + k * 8) + 25) j else σ.1 a j) else σ.1 a) = σ.1 := by
    funext a
    rw [if_neg (by omega)]
  rw [this]
theorem rs_s_0 (σ : bz_S) (k : Nat) : rs_s σ k 0 = σ := by
  unfold rs_s
  have : (fun a => if 25 ≤ a ∧ a < 25 + 0 then (fun j => if j < 30 then σ.1 (a - 25 + (34 + k * 8)) j else σ.1 a j) else σ.1 a) = σ.1 := by
    funext a
    rw [if_neg (by omega)]
  rw [this]
theorem im_s_s {σ : bz_S} {k i : Nat} (hi : i < 8) : bz_setJ (im_s σ k i) (34 + (k * 8 + i)) (fun j => if j < 30 then (im_s σ k i).1 (25 + i) j else (im_s σ k i).1 (34 + (k * 8 + i)) j) = im_s σ k (i + 1) := by
  have e1 : (im_s σ k i).1 (25 + i) = σ.1 (25 + i) := by
    show (if _ then _ else _) = _
    rw [if_neg (by omega)]
  have e2 : (im_s σ k i).1 (34 + (k * 8 + i)) = σ.1 (34 + (k * 8 + i)) := by
    show (if _ then _ else _) = _
    rw [if_neg (by omega)]
  rw [e1, e2]
  unfold bz_setJ im_s
  congr 1
  funext a
  by_cases h : a = 34 + (k * 8 + i)
  · subst h
    rw [if_pos rfl, if_pos (by omega), show 34 + (k * 8 + i) - (34 + k * 8) + 25 = 25 + i by omega]
  · rw [if_neg h]
    show (if 34 + k * 8 ≤ a ∧ a < 34 + k * 8 + i then _ else _) = _
    by_cases q : 34 + k * 8 ≤ a ∧ a < 34 + k * 8 + i
    · rw [if_pos q, if_pos (by omega)]
    · rw [if_neg q, if_neg (by omega)]
theorem rs_s_s {σ : bz_S} {k i : Nat} (hi : i < 8) : bz_setJ (rs_s σ k i) (25 + i) (fun j => if j < 30 then (rs_s σ k i).1 (34 + (k * 8 + i)) j else (rs_s σ k i).1 (25 + i) j) = rs_s σ k (i + 1) := by
  have e1 : (rs_s σ k i).1 (25 + i) = σ.1 (25 + i) := by
    show (if _ then _ else _) = _
    rw [if_neg (by omega)]
  have e2 : (rs_s σ k i).1 (34 + (k * 8 + i)) = σ.1 (34 + (k * 8 + i)) := by
    show (if _ then _ else _) = _
    rw [if_neg (by omega)]
  rw [e1, e2]
  unfold bz_setJ rs_s
  congr 1
  funext a
  by_cases h : a = 25 + i
  · subst h
    rw [if_pos rfl, if_pos (by omega), show 25 + i - 25 + (34 + k * 8) = 34 + (k * 8 + i) by omega]
  · rw [if_neg h]
    show (if 25 ≤ a ∧ a < 25 + i then _ else _) = _
    by_cases q : 25 ≤ a ∧ a < 25 + i
    · rw [if_pos q, if_pos (by omega)]
    · rw [if_neg q, if_neg (by omega)]
section X3E
variable {l : Launch} {ad : Nat → Nat} {K : bz_K} {σ σ0 σ' : bz_S} {r : Option Value}
theorem t_img_loop {k : Nat} (hk : k < 2) : ∀ (m i : Nat), i + m = 8 → bz_V l ad K 73 mX3_image 2 (some (.int (nI 1))) (bz_upI (im_s σ k 8) 50 k (nI 1)) 14 [some (.ref (ad 23)), some (.int (nI k)), some (.int (nI i))] [] (im_s σ k i) := by
  intro m
  induction m with
  | zero =>
    intro i hi
    obtain rfl : i = 8 := by omega
    refine bz_iload_n dX3_image_14 rfl ?_
    refine bz_bipush dX3_image_15 kc_bipush_8 ?_
    refine bz_icmp_geN (tgt := 50) dX3_image_17 rfl (by omega) (by omega) (fun _ => ?_) (fun q => absurd q (by omega))
    refine bz_aload_n dX3_image_50 rfl ?_
    refine bz_getf fl_X3_40 dX3_image_51 rfl rfl (by omega) ?_
    refine bz_iload_n dX3_image_54 rfl ?_
    refine bz_iconst dX3_image_55 kc_iconst_1 ?_
    refine bz_bastore dX3_image_56 rfl (by omega) hk rfl ?_
    refine bz_iconst dX3_image_57 kc_iconst_1 ?_
    refine bz_iret dX3_image_58 rfl rfl rfl
  | succ m ih =>
    intro i hi
    have h25 := bz_sh25 i (by omega)
    have h34 := bz_sh34 (k * 8 + i) (by omega)
    refine bz_iload_n dX3_image_14 rfl ?_
    refine bz_bipush dX3_image_15 kc_bipush_8 ?_
    refine bz_icmp_geN (tgt := 50) dX3_image_17 rfl (by omega) (by omega) (fun q => absurd q (by omega)) (fun _ => ?_)
    refine bz_aload_n dX3_image_20 rfl ?_
    refine bz_getf fl_X3_34 dX3_image_21 rfl rfl (by omega) ?_
    refine bz_iload_n dX3_image_24 rfl ?_
    refine bz_aaload dX3_image_25 rfl (by omega) (by omega) ?_
    refine bz_iconst dX3_image_26 kc_iconst_0 ?_
    refine bz_aload_n dX3_image_27 rfl ?_
    refine bz_getf fl_X3_37 dX3_image_28 rfl rfl (by omega) ?_
    refine bz_iload_n dX3_image_31 rfl ?_
    refine bz_bipush dX3_image_32 kc_bipush_8 ?_
    first | refine bz_imulN dX3_image_34 ?_ | refine bz_imul dX3_image_34 ?_
    refine bz_iload_n dX3_image_35 rfl ?_
    first | refine bz_iaddN dX3_image_36 ?_ | refine bz_iadd dX3_image_36 ?_
    refine bz_aaload dX3_image_37 rfl (by omega) (by omega) ?_
    refine bz_iconst dX3_image_38 kc_iconst_0 ?_
    refine bz_bipush dX3_image_39 kc_bipush_30 ?_
    refine bz_copy lk_X3_165 wac_n wac_s wi_java_lang_System (by omega) dX3_image_41 h25 h34 (by omega) (by omega) (Nat.le_of_ble_eq_true rfl) ?_
    first | refine bz_iinc2N dX3_image_44 (by decide) rfl ?_ | refine bz_iinc2 dX3_image_44 rfl (by decide) rfl ?_
    refine bz_goto (tgt := 14) dX3_image_47 rfl ?_
    refine bz_st (im_s_s (by omega)) ?_
    exact ih (i + 1) (by omega)
theorem x_image {k : Nat} (hk : k < 2) : bz_V l ad K 73 mX3_image 2 (some (.int (nI 1))) (bz_upI (im_s σ k 8) 50 k (nI 1)) 0 [some (.ref (ad 23)), some (.int (nI k)), none] [] σ := by
  refine bz_iload_n dX3_image_0 rfl ?_
  refine bz_if_lt (tgt := 9) dX3_image_1 rfl (fun q => absurd q (nI_pos (by omega))) (fun _ => ?_)
  refine bz_iload_n dX3_image_4 rfl ?_
  refine bz_iconst dX3_image_5 kc_iconst_2 ?_
  refine bz_icmp_ltN (tgt := 12) dX3_image_6 rfl (by omega) (by omega) (fun _ => ?_) (fun q => absurd q (by omega))
  refine bz_iconst dX3_image_12 kc_iconst_0 ?_
  refine bz_ist2 dX3_image_13 (by decide) rfl ?_
  refine bz_st (im_s_0 σ k).symm (t_img_loop hk 8 0 rfl)
theorem x_image_1 {x : Int32} (h : x < 0 ∨ nI 2 ≤ x) : bz_V l ad K 73 mX3_image 2 (some (.int (-2))) σ 0 [some (.ref (ad 23)), some (.int x), none] [] σ := by
  refine bz_iload_n dX3_image_0 rfl ?_
  refine bz_if_lt (tgt := 9) dX3_image_1 rfl (fun h1 => ?_) (fun h1 => ?_)
  · refine bz_bipush dX3_image_9 kc_bipush_m2 ?_
    refine bz_iret dX3_image_11 rfl rfl rfl
  · refine bz_iload_n dX3_image_4 rfl ?_
    refine bz_iconst dX3_image_5 kc_iconst_2 ?_
    refine bz_icmp_lt (tgt := 12) dX3_image_6 rfl (fun q => absurd q (Int32.not_lt.mpr (h.resolve_left h1))) (fun _ => ?_)
    refine bz_bipush dX3_image_9 kc_bipush_m2 ?_
    refine bz_iret dX3_image_11 rfl rfl rfl
theorem t_rs_loop {k : Nat} (hk : k < 2) : ∀ (m i : Nat), i + m = 8 → bz_V l ad K 73 mX3_restore 2 (some (.int (nI 1))) (rs_s σ k 8) 26 [some (.ref (ad 23)), some (.int (nI k)), some (.int (nI i))] [] (rs_s σ k i) := by
  intro m
  induction m with
  | zero =>
    intro i hi
    obtain rfl : i = 8 := by omega
    refine bz_iload_n dX3_restore_26 rfl ?_
    refine bz_bipush dX3_restore_27 kc_bipush_8 ?_
    refine bz_icmp_geN (tgt := 62) dX3_restore_29 rfl (by omega) (by omega) (fun _ => ?_) (fun q => absurd q (by omega))
    refine bz_iconst dX3_restore_62 kc_iconst_1 ?_
    refine bz_iret dX3_restore_63 rfl rfl rfl
  | succ m ih =>
    intro i hi
    have h25 := bz_sh25 i (by omega)
    have h34 := bz_sh34 (k * 8 + i) (by omega)
    refine bz_iload_n dX3_restore_26 rfl ?_
    refine bz_bipush dX3_restore_27 kc_bipush_8 ?_
    refine bz_icmp_geN (tgt := 62) dX3_restore_29 rfl (by omega) (by omega) (fun q => absurd q (by omega)) (fun _ => ?_)
    refine bz_aload_n dX3_restore_32 rfl ?_
    refine bz_getf fl_X3_37 dX3_restore_33 rfl rfl (by omega) ?_
    refine bz_iload_n dX3_restore_36 rfl ?_
    refine bz_bipush dX3_restore_37 kc_bipush_8 ?_
    first | refine bz_imulN dX3_restore_39 ?_ | refine bz_imul dX3_restore_39 ?_
    refine bz_iload_n dX3_restore_40 rfl ?_
    first | refine bz_iaddN dX3_restore_41 ?_ | refine bz_iadd dX3_restore_41 ?_
    refine bz_aaload dX3_restore_42 rfl (by omega) (by omega) ?_
    refine bz_iconst dX3_restore_43 kc_iconst_0 ?_
    refine bz_aload_n dX3_restore_44 rfl ?_
    refine bz_getf fl_X3_34 dX3_restore_45 rfl rfl (by omega) ?_
    refine bz_iload_n dX3_restore_48 rfl ?_
    refine bz_aaload dX3_restore_49 rfl (by omega) (by omega) ?_
    refine bz_iconst dX3_restore_50 kc_iconst_0 ?_
    refine bz_bipush dX3_restore_51 kc_bipush_30 ?_
    refine bz_copy lk_X3_165 wac_n wac_s wi_java_lang_System (by omega) dX3_restore_53 h34 h25 (by omega) (by omega) (Nat.le_of_ble_eq_true rfl) ?_
    first | refine bz_iinc2N dX3_restore_56 (by decide) rfl ?_ | refine bz_iinc2 dX3_restore_56 rfl (by decide) rfl ?_
    refine bz_goto (tgt := 26) dX3_restore_59 rfl ?_
    refine bz_st (rs_s_s (by omega)) ?_
    exact ih (i + 1) (by omega)
theorem x_restore {k : Nat} (hk : k < 2) (hi : ¬ σ.2.1 50 k = 0) : bz_V l ad K 73 mX3_restore 2 (some (.int (nI 1))) (rs_s σ k 8) 0 [some (.ref (ad 23)), some (.int (nI k)), none] [] σ := by
  refine bz_iload_n dX3_restore_0 rfl ?_
  refine bz_if_lt (tgt := 9) dX3_restore_1 rfl (fun q => absurd q (nI_pos (by omega))) (fun _ => ?_)
  refine bz_iload_n dX3_restore_4 rfl ?_
  refine bz_iconst dX3_restore_5 kc_iconst_2 ?_
  refine bz_icmp_ltN (tgt := 12) dX3_restore_6 rfl (by omega) (by omega) (fun _ => ?_) (fun q => absurd q (by omega))
  refine bz_aload_n dX3_restore_12 rfl ?_
  refine bz_getf fl_X3_40 dX3_restore_13 rfl rfl (by omega) ?_
  refine bz_iload_n dX3_restore_16 rfl ?_
  refine bz_baload dX3_restore_17 rfl (by omega) hk ?_
  refine bz_if_ne (tgt := 24) dX3_restore_18 rfl (fun _ => ?_) (fun q => absurd q (hi))
  refine bz_iconst dX3_restore_24 kc_iconst_0 ?_
  refine bz_ist2 dX3_restore_25 (by decide) rfl ?_
  refine bz_st (rs_s_0 σ k).symm (t_rs_loop hk 8 0 rfl)
theorem x_restore_s {k : Nat} (hk : k < 2) (hi : σ.2.1 50 k = 0) : bz_V l ad K 73 mX3_restore 2 (some (.int (-3))) σ 0 [some (.ref (ad 23)), some (.int (nI k)), none] [] σ := by
  refine bz_iload_n dX3_restore_0 rfl ?_
  refine bz_if_lt (tgt := 9) dX3_restore_1 rfl (fun q => absurd q (nI_pos (by omega))) (fun _ => ?_)
  refine bz_iload_n dX3_restore_4 rfl ?_
  refine bz_iconst dX3_restore_5 kc_iconst_2 ?_
  refine bz_icmp_ltN (tgt := 12) dX3_restore_6 rfl (by omega) (by omega) (fun _ => ?_) (fun q => absurd q (by omega))
  refine bz_aload_n dX3_restore_12 rfl ?_
  refine bz_getf fl_X3_40 dX3_restore_13 rfl rfl (by omega) ?_
  refine bz_iload_n dX3_restore_16 rfl ?_
  refine bz_baload dX3_restore_17 rfl (by omega) hk ?_
  refine bz_if_ne (tgt := 24) dX3_restore_18 rfl (fun q => absurd (hi) q) (fun _ => ?_)
  refine bz_bipush dX3_restore_21 kc_bipush_m3 ?_
  refine bz_iret dX3_restore_23 rfl rfl rfl
theorem x_restore_1 {x : Int32} (h : x < 0 ∨ nI 2 ≤ x) : bz_V l ad K 73 mX3_restore 2 (some (.int (-2))) σ 0 [some (.ref (ad 23)), some (.int x), none] [] σ := by
  refine bz_iload_n dX3_restore_0 rfl ?_
  refine bz_if_lt (tgt := 9) dX3_restore_1 rfl (fun h1 => ?_) (fun h1 => ?_)
  · refine bz_bipush dX3_restore_9 kc_bipush_m2 ?_
    refine bz_iret dX3_restore_11 rfl rfl rfl
  · refine bz_iload_n dX3_restore_4 rfl ?_
    refine bz_iconst dX3_restore_5 kc_iconst_2 ?_
    refine bz_icmp_lt (tgt := 12) dX3_restore_6 rfl (fun q => absurd q (Int32.not_lt.mpr (h.resolve_left h1))) (fun _ => ?_)
    refine bz_bipush dX3_restore_9 kc_bipush_m2 ?_
    refine bz_iret dX3_restore_11 rfl rfl rfl
theorem x_count_0 (hT : pz_T σ.2.1) : bz_V l ad K 73 mX3_count 2 (some (.int (nI (nsum (fun s => if dgz (σ.1 (25 + s)) 30 = -6 then 0 else 1) 8)))) σ 0 [some (.ref (ad 23)), some (.int (nI 0))] [] σ := by
  refine bz_iload_n dX3_count_0 rfl ?_
  refine bz_if_ne (tgt := 9) dX3_count_1 rfl (fun q => absurd (by decide) q) (fun _ => ?_)
  refine bz_aload_n dX3_count_4 rfl ?_
  refine bz_cV0I (z := 2) mv_X3_filledSlots mi_X3_filledSlots lk_X3_171 dX3_count_5 (by exact t_filledSlots hT) (by omega) rfl (by omega) rfl rfl rfl (Nat.le_of_ble_eq_true rfl) (Nat.le_of_ble_eq_true rfl) ?_
  refine bz_iret dX3_count_8 rfl rfl rfl
theorem x_count_1 : bz_V l ad K 73 mX3_count 2 (some (.int (nI ((if σ.2.1 50 0 = 0 then 0 else 1) + (if σ.2.1 50 1 = 0 then 0 else 2))))) σ 0 [some (.ref (ad 23)), some (.int (nI 1))] [] σ := by
  refine bz_iload_n dX3_count_0 rfl ?_
  refine bz_if_ne (tgt := 9) dX3_count_1 rfl (fun _ => ?_) (fun q => absurd q (by decide))
  refine bz_iload_n dX3_count_9 rfl ?_
  refine bz_iconst dX3_count_10 kc_iconst_1 ?_
  refine bz_icmp_ne (tgt := 44) dX3_count_11 rfl (fun q => absurd (by decide) q) (fun _ => ?_)
  refine bz_aload_n dX3_count_14 rfl ?_
  refine bz_getf fl_X3_40 dX3_count_15 rfl rfl (by omega) ?_
  refine bz_iconst dX3_count_18 kc_iconst_0 ?_
  refine bz_baload dX3_count_19 rfl (by omega) (by omega) ?_
  have fin : ∀ x : Nat, x = (if σ.2.1 50 0 = 0 then 0 else 1) → bz_V l ad K 73 mX3_count 2 (some (.int (nI ((if σ.2.1 50 0 = 0 then 0 else 1) + (if σ.2.1 50 1 = 0 then 0 else 2))))) σ 28 [some (.ref (ad 23)), some (.int (nI 1))] [.int (nI x)] σ := by
    intro x hx
    refine bz_aload_n dX3_count_28 rfl ?_
    refine bz_getf fl_X3_40 dX3_count_29 rfl rfl (by omega) ?_
    refine bz_iconst dX3_count_32 kc_iconst_1 ?_
    refine bz_baload dX3_count_33 rfl (by omega) (by omega) ?_
    refine bz_if_eq (tgt := 41) dX3_count_34 rfl (fun h => ?_) (fun h => ?_)
    · refine bz_iconst dX3_count_41 kc_iconst_0 ?_
      first | refine bz_iaddN dX3_count_42 ?_ | refine bz_iadd dX3_count_42 ?_
      refine bz_iret dX3_count_43 rfl ?_ ?_
      · rw [hx, if_pos h]
      · rfl
    · refine bz_iconst dX3_count_37 kc_iconst_2 ?_
      refine bz_goto (tgt := 42) dX3_count_38 rfl ?_
      first | refine bz_iaddN dX3_count_42 ?_ | refine bz_iadd dX3_count_42 ?_
      refine bz_iret dX3_count_43 rfl ?_ ?_
      · rw [hx, if_neg h]
      · rfl
  refine bz_if_eq (tgt := 27) dX3_count_20 rfl (fun h => ?_) (fun h => ?_)
  · refine bz_iconst dX3_count_27 kc_iconst_0 ?_
    exact fin 0 (by rw [if_pos h])
  · refine bz_iconst dX3_count_23 kc_iconst_1 ?_
    refine bz_goto (tgt := 28) dX3_count_24 rfl ?_
    exact fin 1 (by rw [if_neg h])
theorem x_count_10 {d : Nat} (hd : d ≤ 6) : bz_V l ad K 73 mX3_count 2 (some (.int (nI (xp_start (d + 1) - xp_start d)))) σ 0 [some (.ref (ad 23)), some (.int (nI (10 + d)))] [] σ := by
  have hs := xp_start_le d hd
  refine bz_iload_n dX3_count_0 rfl ?_
  refine bz_if_ne (tgt := 9) dX3_count_1 rfl (fun _ => ?_) (fun q => absurd q (nI_ne0 (by omega) (by omega)))
  refine bz_iload_n dX3_count_9 rfl ?_
  refine bz_iconst dX3_count_10 kc_iconst_1 ?_
  refine bz_icmp_neN (tgt := 44) dX3_count_11 rfl (by omega) (by omega) (fun _ => ?_) (fun q => absurd q (by omega))
  refine bz_iload_n dX3_count_44 rfl ?_
  refine bz_bipush dX3_count_45 kc_bipush_10 ?_
  refine bz_icmp_ltN (tgt := 72) dX3_count_47 rfl (by omega) (by omega) (fun q => absurd q (by omega)) (fun _ => ?_)
  refine bz_iload_n dX3_count_50 rfl ?_
  refine bz_bipush dX3_count_51 kc_bipush_16 ?_
  refine bz_icmp_gtN (tgt := 72) dX3_count_53 rfl (by omega) (by omega) (fun q => absurd q (by omega)) (fun _ => ?_)
  refine bz_iload_n dX3_count_56 rfl ?_
  refine bz_bipush dX3_count_57 kc_bipush_10 ?_
  refine bz_isubN dX3_count_59 (by omega) ?_
  refine bz_topi (y := nI d) (by rw [Nat.add_sub_cancel_left]) ?_
  refine bz_cSN1I (z := 0) mv_X1_endOf ws_X1_endOf lk_X3_75 dX3_count_60 (by exact t_endOf hd) (by omega) rfl (Nat.le_of_ble_eq_true rfl) (Nat.le_of_ble_eq_true rfl) ?_
  refine bz_iload_n dX3_count_63 rfl ?_
  refine bz_bipush dX3_count_64 kc_bipush_10 ?_
  refine bz_isubN dX3_count_66 (by omega) ?_
  refine bz_topi (y := nI d) (by rw [Nat.add_sub_cancel_left]) ?_
  refine bz_cSN1I (z := 0) mv_X1_startOf ws_X1_startOf lk_X3_175 dX3_count_67 (by exact t_startOf hd) (by omega) rfl (Nat.le_of_ble_eq_true rfl) (Nat.le_of_ble_eq_true rfl) ?_
  refine bz_isubN dX3_count_70 hs.1 ?_
  refine bz_iret dX3_count_71 rfl rfl rfl
theorem x_count_20 {d : Nat} (hd : d ≤ 6) : bz_V l ad K 73 mX3_count 2 (some (.int (nI (xp_start d)))) σ 0 [some (.ref (ad 23)), some (.int (nI (20 + d)))] [] σ := by
  refine bz_iload_n dX3_count_0 rfl ?_
  refine bz_if_ne (tgt := 9) dX3_count_1 rfl (fun _ => ?_) (fun q => absurd q (nI_ne0 (by omega) (by omega)))
  refine bz_iload_n dX3_count_9 rfl ?_
  refine bz_iconst dX3_count_10 kc_iconst_1 ?_
  refine bz_icmp_neN (tgt := 44) dX3_count_11 rfl (by omega) (by omega) (fun _ => ?_) (fun q => absurd q (by omega))
  refine bz_iload_n dX3_count_44 rfl ?_
  refine bz_bipush dX3_count_45 kc_bipush_10 ?_
  refine bz_icmp_ltN (tgt := 72) dX3_count_47 rfl (by omega) (by omega) (fun q => absurd q (by omega)) (fun _ => ?_)
  refine bz_iload_n dX3_count_50 rfl ?_
  refine bz_bipush dX3_count_51 kc_bipush_16 ?_
  refine bz_icmp_gtN (tgt := 72) dX3_count_53 rfl (by omega) (by omega) (fun _ => ?_) (fun q => absurd q (by omega))
  refine bz_iload_n dX3_count_72 rfl ?_
  refine bz_bipush dX3_count_73 kc_bipush_20 ?_
  refine bz_icmp_ltN (tgt := 92) dX3_count_75 rfl (by omega) (by omega) (fun q => absurd q (by omega)) (fun _ => ?_)
  refine bz_iload_n dX3_count_78 rfl ?_
  refine bz_bipush dX3_count_79 kc_bipush_26 ?_
  refine bz_icmp_gtN (tgt := 92) dX3_count_81 rfl (by omega) (by omega) (fun q => absurd q (by omega)) (fun _ => ?_)
  refine bz_iload_n dX3_count_84 rfl ?_
  refine bz_bipush dX3_count_85 kc_bipush_20 ?_
  refine bz_isubN dX3_count_87 (by omega) ?_
  refine bz_topi (y := nI d) (by rw [Nat.add_sub_cancel_left]) ?_
  refine bz_cSN1I (z := 0) mv_X1_startOf ws_X1_startOf lk_X3_175 dX3_count_88 (by exact t_startOf hd) (by omega) rfl (Nat.le_of_ble_eq_true rfl) (Nat.le_of_ble_eq_true rfl) ?_
  refine bz_iret dX3_count_91 rfl rfl rfl
theorem x_count_o {x : Int32} (h0 : ¬ x = 0) (h1 : ¬ x = nI 1) (h2 : x < nI 10 ∨ nI 16 < x) (h3 : x < nI 20 ∨ nI 26 < x) : bz_V l ad K 73 mX3_count 2 (some (.int (-2))) σ 0 [some (.ref (ad 23)), some (.int x)] [] σ := by
  refine bz_iload_n dX3_count_0 rfl ?_
  refine bz_if_ne (tgt := 9) dX3_count_1 rfl (fun _ => ?_) (fun q => absurd q (h0))
  refine bz_iload_n dX3_count_9 rfl ?_
  refine bz_iconst dX3_count_10 kc_iconst_1 ?_
  refine bz_icmp_ne (tgt := 44) dX3_count_11 rfl (fun _ => ?_) (fun q => absurd q (h1))
  refine bz_iload_n dX3_count_44 rfl ?_
  refine bz_bipush dX3_count_45 kc_bipush_10 ?_
  have fin : bz_V l ad K 73 mX3_count 2 (some (.int (-2))) σ 72 [some (.ref (ad 23)), some (.int x)] [] σ := by
    refine bz_iload_n dX3_count_72 rfl ?_
    refine bz_bipush dX3_count_73 kc_bipush_20 ?_
    refine bz_icmp_lt (tgt := 92) dX3_count_75 rfl (fun hq => ?_) (fun hq => ?_)
    · refine bz_bipush dX3_count_92 kc_bipush_m2 ?_
      refine bz_iret dX3_count_94 rfl rfl rfl
    · refine bz_iload_n dX3_count_78 rfl ?_
      refine bz_bipush dX3_count_79 kc_bipush_26 ?_
      refine bz_icmp_gt (tgt := 92) dX3_count_81 rfl (fun _ => ?_) (fun q => absurd (h3.resolve_left hq) q)
      refine bz_bipush dX3_count_92 kc_bipush_m2 ?_
      refine bz_iret dX3_count_94 rfl rfl rfl
  refine bz_icmp_lt (tgt := 72) dX3_count_47 rfl (fun hq => ?_) (fun hq => ?_)
  · exact fin
  · refine bz_iload_n dX3_count_50 rfl ?_
    refine bz_bipush dX3_count_51 kc_bipush_16 ?_
    refine bz_icmp_gt (tgt := 72) dX3_count_53 rfl (fun _ => ?_) (fun q => absurd (h2.resolve_left hq) q)
    exact fin
end X3E
