/-! the partitions' methods that read tables -/
def xp_start (d : Nat) : Nat := [0, 1, 2, 4, 7, 12, 19, 30].getD d 0
theorem xp_STARTS (j : Nat) : bz_STARTS j = nI (xp_start j) := rfl
theorem xp_PARTS (j : Nat) : bz_PARTS j = nI (bz_parts.getD j 0) := rfl
def xp_part (a k : Nat) : Nat := if a < 30 ∧ k < 6 then bz_parts.getD (a * 6 + k) 0 else 0
section XP1
variable {l : Launch} {ad : Nat → Nat} {K : bz_K} {n : Nat} {σ : bz_S}
theorem t_isPart {a : Nat} (h : a < 30) : bz_V l ad K n mX3_isPartition 0 (some (.int (nI 1))) σ 0 [some (.int (nI a))] [] σ := by
  refine bz_iload_n dX3_isPartition_0 rfl ?_
  refine bz_if_lt (tgt := 14) dX3_isPartition_1 rfl (fun q => absurd q (nI_pos (by omega))) (fun _ => ?_)
  refine bz_iload_n dX3_isPartition_4 rfl ?_
  refine bz_bipush dX3_isPartition_5 kc_bipush_30 ?_
  refine bz_icmp_geN (tgt := 14) dX3_isPartition_7 rfl (by omega) (by omega) (fun q => absurd q (by omega)) (fun _ => ?_)
  refine bz_iconst dX3_isPartition_10 kc_iconst_1 ?_
  refine bz_goto (tgt := 15) dX3_isPartition_11 rfl ?_
  refine bz_zret dX3_isPartition_15 rfl rfl rfl rfl
theorem t_isPartF {x : Int32} (h : x < 0 ∨ nI 30 ≤ x) : bz_V l ad K n mX3_isPartition 0 (some (.int (nI 0))) σ 0 [some (.int x)] [] σ := by
  refine bz_iload_n dX3_isPartition_0 rfl ?_
  refine bz_if_lt (tgt := 14) dX3_isPartition_1 rfl (fun h1 => ?_) (fun h1 => ?_)
  · refine bz_iconst dX3_isPartition_14 kc_iconst_0 ?_
    refine bz_zret dX3_isPartition_15 rfl rfl rfl rfl
  · refine bz_iload_n dX3_isPartition_4 rfl ?_
    refine bz_bipush dX3_isPartition_5 kc_bipush_30 ?_
    refine bz_icmp_ge (tgt := 14) dX3_isPartition_7 rfl (fun _ => ?_) (fun q => absurd (h.resolve_left h1) q)
    refine bz_iconst dX3_isPartition_14 kc_iconst_0 ?_
    refine bz_zret dX3_isPartition_15 rfl rfl rfl rfl
theorem t_isPlace {a : Nat} (h : a < 6) : bz_V l ad K n mX1_isPlace 0 (some (.int (nI 1))) σ 0 [some (.int (nI a))] [] σ := by
  refine bz_iload_n dX1_isPlace_0 rfl ?_
  refine bz_if_lt (tgt := 14) dX1_isPlace_1 rfl (fun q => absurd q (nI_pos (by omega))) (fun _ => ?_)
  refine bz_iload_n dX1_isPlace_4 rfl ?_
  refine bz_bipush dX1_isPlace_5 kc_bipush_6 ?_
  refine bz_icmp_geN (tgt := 14) dX1_isPlace_7 rfl (by omega) (by omega) (fun q => absurd q (by omega)) (fun _ => ?_)
  refine bz_iconst dX1_isPlace_10 kc_iconst_1 ?_
  refine bz_goto (tgt := 15) dX1_isPlace_11 rfl ?_
  refine bz_zret dX1_isPlace_15 rfl rfl rfl rfl
theorem t_isPlaceF {x : Int32} (h : x < 0 ∨ nI 6 ≤ x) : bz_V l ad K n mX1_isPlace 0 (some (.int (nI 0))) σ 0 [some (.int x)] [] σ := by
  refine bz_iload_n dX1_isPlace_0 rfl ?_
  refine bz_if_lt (tgt := 14) dX1_isPlace_1 rfl (fun h1 => ?_) (fun h1 => ?_)
  · refine bz_iconst dX1_isPlace_14 kc_iconst_0 ?_
    refine bz_zret dX1_isPlace_15 rfl rfl rfl rfl
  · refine bz_iload_n dX1_isPlace_4 rfl ?_
    refine bz_bipush dX1_isPlace_5 kc_bipush_6 ?_
    refine bz_icmp_ge (tgt := 14) dX1_isPlace_7 rfl (fun _ => ?_) (fun q => absurd (h.resolve_left h1) q)
    refine bz_iconst dX1_isPlace_14 kc_iconst_0 ?_
    refine bz_zret dX1_isPlace_15 rfl rfl rfl rfl
theorem t_startOf {a : Nat} (h : a ≤ 6) : bz_V l ad K n mX1_startOf 0 (some (.int (nI (xp_start a)))) σ 0 [some (.int (nI a))] [] σ := by
  refine bz_iload_n dX1_startOf_0 rfl ?_
  refine bz_if_lt (tgt := 18) dX1_startOf_1 rfl (fun q => absurd q (nI_pos (by omega))) (fun _ => ?_)
  refine bz_iload_n dX1_startOf_4 rfl ?_
  refine bz_bipush dX1_startOf_5 kc_bipush_6 ?_
  refine bz_icmp_gtN (tgt := 18) dX1_startOf_7 rfl (by omega) (by omega) (fun q => absurd q (by omega)) (fun _ => ?_)
  refine bz_getST fs_X1_51 dX1_startOf_10 ?_
  refine bz_iload_n dX1_startOf_13 rfl ?_
  refine bz_ldST dX1_startOf_14 (by omega) ?_
  refine bz_goto (tgt := 19) dX1_startOf_15 rfl ?_
  refine bz_iret dX1_startOf_19 rfl rfl rfl
theorem t_startOfF {x : Int32} (h : x < 0 ∨ nI 6 < x) : bz_V l ad K n mX1_startOf 0 (some (.int (nI 0))) σ 0 [some (.int x)] [] σ := by
  refine bz_iload_n dX1_startOf_0 rfl ?_
  refine bz_if_lt (tgt := 18) dX1_startOf_1 rfl (fun h1 => ?_) (fun h1 => ?_)
  · refine bz_iconst dX1_startOf_18 kc_iconst_0 ?_
    refine bz_iret dX1_startOf_19 rfl rfl rfl
  · refine bz_iload_n dX1_startOf_4 rfl ?_
    refine bz_bipush dX1_startOf_5 kc_bipush_6 ?_
    refine bz_icmp_gt (tgt := 18) dX1_startOf_7 rfl (fun _ => ?_) (fun q => absurd (h.resolve_left h1) q)
    refine bz_iconst dX1_startOf_18 kc_iconst_0 ?_
    refine bz_iret dX1_startOf_19 rfl rfl rfl
theorem t_endOf {a : Nat} (h : a ≤ 6) : bz_V l ad K n mX1_endOf 0 (some (.int (nI (xp_start (a + 1))))) σ 0 [some (.int (nI a))] [] σ := by
  refine bz_iload_n dX1_endOf_0 rfl ?_
  refine bz_if_lt (tgt := 20) dX1_endOf_1 rfl (fun q => absurd q (nI_pos (by omega))) (fun _ => ?_)
  refine bz_iload_n dX1_endOf_4 rfl ?_
  refine bz_bipush dX1_endOf_5 kc_bipush_6 ?_
  refine bz_icmp_gtN (tgt := 20) dX1_endOf_7 rfl (by omega) (by omega) (fun q => absurd q (by omega)) (fun _ => ?_)
  refine bz_getST fs_X1_51 dX1_endOf_10 ?_
  refine bz_iload_n dX1_endOf_13 rfl ?_
  refine bz_iconst dX1_endOf_14 kc_iconst_1 ?_
  first | refine bz_iaddN dX1_endOf_15 ?_ | refine bz_iadd dX1_endOf_15 ?_
  refine bz_ldST dX1_endOf_16 (by omega) ?_
  refine bz_goto (tgt := 21) dX1_endOf_17 rfl ?_
  refine bz_iret dX1_endOf_21 rfl rfl rfl
theorem t_endOfF {x : Int32} (h : x < 0 ∨ nI 6 < x) : bz_V l ad K n mX1_endOf 0 (some (.int (nI 0))) σ 0 [some (.int x)] [] σ := by
  refine bz_iload_n dX1_endOf_0 rfl ?_
  refine bz_if_lt (tgt := 20) dX1_endOf_1 rfl (fun h1 => ?_) (fun h1 => ?_)
  · refine bz_iconst dX1_endOf_20 kc_iconst_0 ?_
    refine bz_iret dX1_endOf_21 rfl rfl rfl
  · refine bz_iload_n dX1_endOf_4 rfl ?_
    refine bz_bipush dX1_endOf_5 kc_bipush_6 ?_
    refine bz_icmp_gt (tgt := 20) dX1_endOf_7 rfl (fun _ => ?_) (fun q => absurd (h.resolve_left h1) q)
    refine bz_iconst dX1_endOf_20 kc_iconst_0 ?_
    refine bz_iret dX1_endOf_21 rfl rfl rfl
theorem t_partAt {p : Nat} {a k : Nat} (ha : a < 30) (hk : k < 6) : bz_V l ad K n mX1_partAt 1 (some (.int (nI (xp_part a k)))) σ 0 [some (.ref p), some (.int (nI a)), some (.int (nI k))] [] σ := by
  refine bz_iload_n dX1_partAt_0 rfl ?_
  refine bz_cSN1I (z := 0) mv_X3_isPartition ws_X3_isPartition lk_X1_54 dX1_partAt_1 (by exact t_isPart ha) (by omega) rfl (Nat.le_of_ble_eq_true rfl) (Nat.le_of_ble_eq_true rfl) ?_
  refine bz_if_eq (tgt := 27) dX1_partAt_4 rfl (fun q => absurd q (by decide)) (fun _ => ?_)
  refine bz_iload_n dX1_partAt_7 rfl ?_
  refine bz_cS1I (z := 0) mv_X1_isPlace ws_X1_isPlace lk_X1_58 dX1_partAt_8 (by exact t_isPlace hk) (by omega) rfl (Nat.le_of_ble_eq_true rfl) (Nat.le_of_ble_eq_true rfl) ?_
  refine bz_if_eq (tgt := 27) dX1_partAt_11 rfl (fun q => absurd q (by decide)) (fun _ => ?_)
  refine bz_getPA fs_X1_61 dX1_partAt_14 ?_
  refine bz_iload_n dX1_partAt_17 rfl ?_
  refine bz_bipush dX1_partAt_18 kc_bipush_6 ?_
  first | refine bz_imulN dX1_partAt_20 ?_ | refine bz_imul dX1_partAt_20 ?_
  refine bz_iload_n dX1_partAt_21 rfl ?_
  first | refine bz_iaddN dX1_partAt_22 ?_ | refine bz_iadd dX1_partAt_22 ?_
  refine bz_ldPA dX1_partAt_23 (by omega) ?_
  refine bz_goto (tgt := 28) dX1_partAt_24 rfl ?_
  refine bz_iret dX1_partAt_28 rfl ?_ ?_
  · rw [xp_PARTS]
    simp [xp_part, ha, hk]
  · rfl
theorem t_partAtK {p : Nat} {a : Nat} {x : Int32} (ha : a < 30) (hk : x < 0 ∨ nI 6 ≤ x) : bz_V l ad K n mX1_partAt 1 (some (.int (nI 0))) σ 0 [some (.ref p), some (.int (nI a)), some (.int x)] [] σ := by
  refine bz_iload_n dX1_partAt_0 rfl ?_
  refine bz_cSN1I (z := 0) mv_X3_isPartition ws_X3_isPartition lk_X1_54 dX1_partAt_1 (by exact t_isPart ha) (by omega) rfl (Nat.le_of_ble_eq_true rfl) (Nat.le_of_ble_eq_true rfl) ?_
  refine bz_if_eq (tgt := 27) dX1_partAt_4 rfl (fun q => absurd q (by decide)) (fun _ => ?_)
  refine bz_iload_n dX1_partAt_7 rfl ?_
  refine bz_cS1I (z := 0) mv_X1_isPlace ws_X1_isPlace lk_X1_58 dX1_partAt_8 (by exact t_isPlaceF hk) (by omega) rfl (Nat.le_of_ble_eq_true rfl) (Nat.le_of_ble_eq_true rfl) ?_
  refine bz_if_eq (tgt := 27) dX1_partAt_11 rfl (fun _ => ?_) (fun q => absurd (by decide) q)
  refine bz_iconst dX1_partAt_27 kc_iconst_0 ?_
  refine bz_iret dX1_partAt_28 rfl rfl rfl
theorem t_kostkaOf (hn : 9 ≤ n) {a b : Nat} (ha : a < 30) (hb : b < 30) : bz_V l ad K n mX1_kostkaOf 1 (some (.int (σ.2.1 7 (a * 30 + b)))) σ 0 [some (.ref (ad 0)), some (.int (nI a)), some (.int (nI b))] [] σ := by
  refine bz_iload_n dX1_kostkaOf_0 rfl ?_
  refine bz_cSN1I (z := 0) mv_X3_isPartition ws_X3_isPartition lk_X1_54 dX1_kostkaOf_1 (by exact t_isPart ha) (by omega) rfl (Nat.le_of_ble_eq_true rfl) (Nat.le_of_ble_eq_true rfl) ?_
  refine bz_if_eq (tgt := 28) dX1_kostkaOf_4 rfl (fun q => absurd q (by decide)) (fun _ => ?_)
  refine bz_iload_n dX1_kostkaOf_7 rfl ?_
  refine bz_cSN1I (z := 0) mv_X3_isPartition ws_X3_isPartition lk_X1_54 dX1_kostkaOf_8 (by exact t_isPart hb) (by omega) rfl (Nat.le_of_ble_eq_true rfl) (Nat.le_of_ble_eq_true rfl) ?_
  refine bz_if_eq (tgt := 28) dX1_kostkaOf_11 rfl (fun q => absurd q (by decide)) (fun _ => ?_)
  refine bz_aload_n dX1_kostkaOf_14 rfl ?_
  refine bz_getf fl_X1_30 dX1_kostkaOf_15 rfl rfl (by omega) ?_
  refine bz_iload_n dX1_kostkaOf_18 rfl ?_
  refine bz_bipush dX1_kostkaOf_19 kc_bipush_30 ?_
  first | refine bz_imulN dX1_kostkaOf_21 ?_ | refine bz_imul dX1_kostkaOf_21 ?_
  refine bz_iload_n dX1_kostkaOf_22 rfl ?_
  first | refine bz_iaddN dX1_kostkaOf_23 ?_ | refine bz_iadd dX1_kostkaOf_23 ?_
  refine bz_iaload dX1_kostkaOf_24 rfl (by omega) (by omega) ?_
  refine bz_goto (tgt := 29) dX1_kostkaOf_25 rfl ?_
  refine bz_iret dX1_kostkaOf_29 rfl rfl rfl
theorem t_characterOf (hn : 9 ≤ n) {a b : Nat} (ha : a < 30) (hb : b < 30) : bz_V l ad K n mX1_characterOf 1 (some (.int (σ.2.1 8 (a * 30 + b)))) σ 0 [some (.ref (ad 0)), some (.int (nI a)), some (.int (nI b))] [] σ := by
  refine bz_iload_n dX1_characterOf_0 rfl ?_
  refine bz_cSN1I (z := 0) mv_X3_isPartition ws_X3_isPartition lk_X1_54 dX1_characterOf_1 (by exact t_isPart ha) (by omega) rfl (Nat.le_of_ble_eq_true rfl) (Nat.le_of_ble_eq_true rfl) ?_
  refine bz_if_eq (tgt := 28) dX1_characterOf_4 rfl (fun q => absurd q (by decide)) (fun _ => ?_)
  refine bz_iload_n dX1_characterOf_7 rfl ?_
  refine bz_cSN1I (z := 0) mv_X3_isPartition ws_X3_isPartition lk_X1_54 dX1_characterOf_8 (by exact t_isPart hb) (by omega) rfl (Nat.le_of_ble_eq_true rfl) (Nat.le_of_ble_eq_true rfl) ?_
  refine bz_if_eq (tgt := 28) dX1_characterOf_11 rfl (fun q => absurd q (by decide)) (fun _ => ?_)
  refine bz_aload_n dX1_characterOf_14 rfl ?_
  refine bz_getf fl_X1_33 dX1_characterOf_15 rfl rfl (by omega) ?_
  refine bz_iload_n dX1_characterOf_18 rfl ?_
  refine bz_bipush dX1_characterOf_19 kc_bipush_30 ?_
  first | refine bz_imulN dX1_characterOf_21 ?_ | refine bz_imul dX1_characterOf_21 ?_
  refine bz_iload_n dX1_characterOf_22 rfl ?_
  first | refine bz_iaddN dX1_characterOf_23 ?_ | refine bz_iadd dX1_characterOf_23 ?_
  refine bz_iaload dX1_characterOf_24 rfl (by omega) (by omega) ?_
  refine bz_goto (tgt := 29) dX1_characterOf_25 rfl ?_
  refine bz_iret dX1_characterOf_29 rfl rfl rfl
theorem t_joined (hn : 9 ≤ n) {a b : Nat} (ha : a < 30) (hb : b < 30) : bz_V l ad K n mX1_joined 1 (some (.int (σ.2.1 6 (a * 30 + b)))) σ 0 [some (.ref (ad 0)), some (.int (nI a)), some (.int (nI b))] [] σ := by
  refine bz_iload_n dX1_joined_0 rfl ?_
  refine bz_cSN1I (z := 0) mv_X3_isPartition ws_X3_isPartition lk_X1_54 dX1_joined_1 (by exact t_isPart ha) (by omega) rfl (Nat.le_of_ble_eq_true rfl) (Nat.le_of_ble_eq_true rfl) ?_
  refine bz_if_eq (tgt := 28) dX1_joined_4 rfl (fun q => absurd q (by decide)) (fun _ => ?_)
  refine bz_iload_n dX1_joined_7 rfl ?_
  refine bz_cSN1I (z := 0) mv_X3_isPartition ws_X3_isPartition lk_X1_54 dX1_joined_8 (by exact t_isPart hb) (by omega) rfl (Nat.le_of_ble_eq_true rfl) (Nat.le_of_ble_eq_true rfl) ?_
  refine bz_if_eq (tgt := 28) dX1_joined_11 rfl (fun q => absurd q (by decide)) (fun _ => ?_)
  refine bz_aload_n dX1_joined_14 rfl ?_
  refine bz_getf fl_X1_27 dX1_joined_15 rfl rfl (by omega) ?_
  refine bz_iload_n dX1_joined_18 rfl ?_
  refine bz_bipush dX1_joined_19 kc_bipush_30 ?_
  first | refine bz_imulN dX1_joined_21 ?_ | refine bz_imul dX1_joined_21 ?_
  refine bz_iload_n dX1_joined_22 rfl ?_
  first | refine bz_iaddN dX1_joined_23 ?_ | refine bz_iadd dX1_joined_23 ?_
  refine bz_iaload dX1_joined_24 rfl (by omega) (by omega) ?_
  refine bz_goto (tgt := 29) dX1_joined_25 rfl ?_
  refine bz_iret dX1_joined_29 rfl rfl rfl
end XP1
