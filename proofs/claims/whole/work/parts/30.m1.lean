/-! the reference: keys, parts, products -/
def mt_bkL : List Nat := [0, 1, 3, 6, 11, 18, 29, 2, 5, 10, 17, 28, 0, 0, 9, 16, 27, 0, 0, 0, 0, 26, 0, 0, 0, 0, 0, 0, 4, 8, 15, 25, 0, 0, 0, 14, 24, 0, 0, 0, 0, 0, 0, 0, 0, 0, 0, 0, 0, 0, 0, 0, 0, 0, 0, 0, 23, 0, 0, 0, 0, 0, 0, 0, 0, 0, 0, 0, 0, 0, 0, 0, 0, 0, 0, 0, 0, 0, 0, 0, 0, 0, 0, 0, 7, 13, 22, 0, 0, 0, 0, 21, 0, 0, 0, 0, 0, 0, 0, 0, 0, 0, 0, 0, 0, 0, 0, 0, 0, 0, 0, 0, 0, 0, 0, 0, 0, 0, 0, 0, 0, 0, 0, 0, 0, 0, 0, 0, 0, 0, 0, 0, 0, 0, 0, 0, 0, 0, 0, 0, 0, 0, 0, 0, 0, 0, 0, 0, 0, 0, 0, 0, 0, 0, 0, 0, 0, 0, 0, 0, 0, 0, 0, 0, 0, 0, 0, 0, 12, 20, 0, 0, 0, 0, 0, 0, 0, 0, 0, 0, 0, 0, 0, 0, 0, 0, 0, 0, 0, 0, 0, 0, 0, 0, 0, 0, 0, 0, 0, 0, 0, 0, 0, 0, 0, 0, 0, 0, 0, 0, 0, 0, 0, 0, 0, 0, 0, 0, 0, 0, 0, 0, 0, 0, 0, 0, 0, 0, 0, 0, 0, 0, 0, 0, 0, 0, 0, 0, 0, 0, 0, 0, 0, 0, 0, 0, 0, 0, 0, 0, 0, 0, 0, 0, 0, 0, 0, 0, 0, 0, 0, 0, 0, 0, 0, 0, 0, 0, 0, 0, 0, 0, 0, 0, 0, 0, 0, 0, 0, 0, 0, 0, 0, 0, 0, 0, 0, 0, 0, 0, 0, 0, 0, 0, 0, 0, 0, 0, 0, 0, 0, 0, 0, 0, 0, 0, 0, 0, 0, 0, 0, 0, 0, 0, 0, 0, 0, 0, 0, 0, 0, 0, 0, 0, 0, 0, 0, 0, 0, 0, 0, 0, 0, 0, 0, 0, 19, 0, 0, 0, 0, 0, 0, 0, 0, 0, 0, 0, 0, 0, 0, 0, 0, 0, 0, 0, 0, 0, 0, 0, 0, 0, 0, 0, 0, 0, 0, 0, 0, 0, 0, 0, 0, 0, 0, 0, 0, 0, 0, 0, 0, 0, 0, 0, 0, 0, 0, 0, 0, 0, 0, 0, 0, 0, 0, 0, 0, 0, 0, 0, 0, 0, 0, 0, 0, 0, 0, 0, 0, 0, 0, 0, 0, 0, 0, 0, 0, 0, 0, 0, 0, 0, 0, 0, 0, 0, 0, 0, 0, 0, 0, 0, 0, 0, 0, 0, 0, 0, 0, 0, 0, 0, 0, 0, 0, 0, 0, 0, 0, 0, 0, 0, 0, 0, 0, 0, 0, 0, 0, 0, 0, 0, 0, 0, 0, 0, 0, 0, 0, 0, 0, 0, 0, 0, 0, 0, 0, 0, 0, 0, 0, 0, 0, 0, 0, 0, 0, 0, 0, 0, 0, 0, 0, 0, 0, 0, 0, 0, 0, 0, 0, 0, 0, 0, 0, 0, 0, 0, 0, 0, 0, 0, 0, 0, 0, 0, 0, 0, 0, 0, 0, 0, 0, 0, 0, 0, 0, 0, 0, 0, 0, 0, 0, 0, 0, 0, 0, 0, 0, 0, 0, 0, 0, 0, 0, 0, 0, 0, 0, 0, 0, 0, 0, 0, 0, 0, 0, 0, 0, 0, 0, 0, 0, 0, 0, 0, 0, 0, 0, 0, 0, 0, 0, 0, 0, 0, 0, 0, 0, 0, 0, 0, 0, 0, 0, 0, 0, 0, 0, 0, 0, 0, 0, 0, 0, 0, 0, 0, 0, 0, 0, 0, 0, 0, 0, 0, 0, 0, 0, 0, 0, 0, 0, 0, 0, 0, 0, 0, 0, 0, 0, 0, 0, 0, 0, 0, 0, 0, 0, 0, 0, 0, 0, 0, 0, 0, 0, 0, 0, 0, 0, 0, 0, 0, 0, 0, 0, 0, 0, 0, 0, 0, 0, 0, 0, 0, 0, 0, 0, 0, 0, 0, 0, 0, 0, 0, 0, 0, 0, 0, 0, 0]
def mt_prL : List (List (Nat × Nat)) := [[(0, 0)], [(0, 1), (1, 0)], [(0, 2), (1, 1), (2, 0)], [(0, 3), (1, 1), (1, 1), (3, 0)], [(0, 4), (1, 2), (2, 1), (4, 0)], [(0, 5), (1, 3), (2, 1), (1, 2), (3, 1), (5, 0)], [(0, 6), (1, 3), (1, 3), (3, 1), (1, 3), (3, 1), (3, 1), (6, 0)], [(0, 7), (1, 4), (2, 2), (4, 1), (7, 0)], [(0, 8), (1, 5), (2, 3), (4, 1), (1, 4), (3, 2), (5, 1), (8, 0)], [(0, 9), (1, 5), (2, 2), (1, 5), (3, 3), (5, 1), (2, 2), (5, 1), (9, 0)], [(0, 10), (1, 6), (2, 3), (1, 5), (3, 3), (5, 1), (1, 5), (3, 3), (5, 1), (3, 2), (6, 1), (10, 0)], [(0, 11), (1, 6), (1, 6), (3, 3), (1, 6), (3, 3), (3, 3), (6, 1), (1, 6), (3, 3), (3, 3), (6, 1), (3, 3), (6, 1), (6, 1), (11, 0)], [(0, 12), (1, 7), (2, 4), (4, 2), (7, 1), (12, 0)], [(0, 13), (1, 8), (2, 5), (4, 3), (7, 1), (1, 7), (3, 4), (5, 2), (8, 1), (13, 0)], [(0, 14), (1, 9), (2, 5), (4, 2), (1, 8), (3, 5), (5, 3), (8, 1), (2, 4), (5, 2), (9, 1), (14, 0)], [(0, 15), (1, 10), (2, 6), (4, 3), (1, 8), (3, 5), (5, 3), (8, 1), (1, 8), (3, 5), (5, 3), (8, 1), (3, 4), (6, 2), (10, 1), (15, 0)], [(0, 16), (1, 10), (2, 5), (1, 10), (3, 6), (5, 3), (2, 5), (5, 3), (9, 1), (1, 9), (3, 5), (5, 2), (3, 5), (6, 3), (10, 1), (5, 2), (10, 1), (16, 0)], [(0, 17), (1, 11), (2, 6), (1, 10), (3, 6), (5, 3), (1, 10), (3, 6), (5, 3), (3, 5), (6, 3), (10, 1), (1, 10), (3, 6), (5, 3), (3, 5), (6, 3), (10, 1), (3, 5), (6, 3), (10, 1), (6, 2), (11, 1), (17, 0)], [(0, 18), (1, 11), (1, 11), (3, 6), (1, 11), (3, 6), (3, 6), (6, 3), (1, 11), (3, 6), (3, 6), (6, 3), (3, 6), (6, 3), (6, 3), (11, 1), (1, 11), (3, 6), (3, 6), (6, 3), (3, 6), (6, 3), (6, 3), (11, 1), (3, 6), (6, 3), (6, 3), (11, 1), (6, 3), (11, 1), (11, 1), (18, 0)], [(0, 19), (1, 12), (2, 7), (4, 4), (7, 2), (12, 1), (19, 0)], [(0, 20), (1, 13), (2, 8), (4, 5), (7, 3), (12, 1), (1, 12), (3, 7), (5, 4), (8, 2), (13, 1), (20, 0)], [(0, 21), (1, 14), (2, 9), (4, 5), (7, 2), (1, 13), (3, 8), (5, 5), (8, 3), (13, 1), (2, 7), (5, 4), (9, 2), (14, 1), (21, 0)], [(0, 22), (1, 15), (2, 10), (4, 6), (7, 3), (1, 13), (3, 8), (5, 5), (8, 3), (13, 1), (1, 13), (3, 8), (5, 5), (8, 3), (13, 1), (3, 7), (6, 4), (10, 2), (15, 1), (22, 0)], [(0, 23), (1, 14), (2, 8), (4, 4), (1, 14), (3, 9), (5, 5), (8, 2), (2, 8), (5, 5), (9, 3), (14, 1), (4, 4), (8, 2), (14, 1), (23, 0)], [(0, 24), (1, 16), (2, 10), (4, 5), (1, 15), (3, 10), (5, 6), (8, 3), (2, 8), (5, 5), (9, 3), (14, 1), (1, 14), (3, 9), (5, 5), (8, 2), (3, 8), (6, 5), (10, 3), (15, 1), (5, 4), (10, 2), (16, 1), (24, 0)], [(0, 25), (1, 17), (2, 11), (4, 6), (1, 15), (3, 10), (5, 6), (8, 3), (1, 15), (3, 10), (5, 6), (8, 3), (3, 8), (6, 5), (10, 3), (15, 1), (1, 15), (3, 10), (5, 6), (8, 3), (3, 8), (6, 5), (10, 3), (15, 1), (3, 8), (6, 5), (10, 3), (15, 1), (6, 4), (11, 2), (17, 1), (25, 0)], [(0, 26), (1, 16), (2, 9), (1, 16), (3, 10), (5, 5), (2, 9), (5, 5), (9, 2), (1, 16), (3, 10), (5, 5), (3, 10), (6, 6), (10, 3), (5, 5), (10, 3), (16, 1), (2, 9), (5, 5), (9, 2), (5, 5), (10, 3), (16, 1), (9, 2), (16, 1), (26, 0)], [(0, 27), (1, 17), (2, 10), (1, 17), (3, 11), (5, 6), (2, 10), (5, 6), (9, 3), (1, 16), (3, 10), (5, 5), (3, 10), (6, 6), (10, 3), (5, 5), (10, 3), (16, 1), (1, 16), (3, 10), (5, 5), (3, 10), (6, 6), (10, 3), (5, 5), (10, 3), (16, 1), (3, 9), (6, 5), (10, 2), (6, 5), (11, 3), (17, 1), (10, 2), (17, 1), (27, 0)], [(0, 28), (1, 18), (2, 11), (1, 17), (3, 11), (5, 6), (1, 17), (3, 11), (5, 6), (3, 10), (6, 6), (10, 3), (1, 17), (3, 11), (5, 6), (3, 10), (6, 6), (10, 3), (3, 10), (6, 6), (10, 3), (6, 5), (11, 3), (17, 1), (1, 17), (3, 11), (5, 6), (3, 10), (6, 6), (10, 3), (3, 10), (6, 6), (10, 3), (6, 5), (11, 3), (17, 1), (3, 10), (6, 6), (10, 3), (6, 5), (11, 3), (17, 1), (6, 5), (11, 3), (17, 1), (11, 2), (18, 1), (28, 0)], [(0, 29), (1, 18), (1, 18), (3, 11), (1, 18), (3, 11), (3, 11), (6, 6), (1, 18), (3, 11), (3, 11), (6, 6), (3, 11), (6, 6), (6, 6), (11, 3), (1, 18), (3, 11), (3, 11), (6, 6), (3, 11), (6, 6), (6, 6), (11, 3), (3, 11), (6, 6), (6, 6), (11, 3), (6, 6), (11, 3), (11, 3), (18, 1), (1, 18), (3, 11), (3, 11), (6, 6), (3, 11), (6, 6), (6, 6), (11, 3), (3, 11), (6, 6), (6, 6), (11, 3), (6, 6), (11, 3), (11, 3), (18, 1), (3, 11), (6, 6), (6, 6), (11, 3), (6, 6), (11, 3), (11, 3), (18, 1), (6, 6), (11, 3), (11, 3), (18, 1), (11, 3), (18, 1), (18, 1), (29, 0)]]
def mt_key (e : Nat) : Nat := if e = 0 then 0 else if e = 1 then 1 else if e = 2 then 7 else if e = 3 then 28 else if e = 4 then 84 else if e = 5 then 168 else 336
def mt_bk (k : Nat) : Nat := mt_bkL.getD k 0
def mt_ways (c : Nat) : Nat := ((List.range 6).map (fun k => xp_part c k + 1)).foldl (· * ·) 1
def mt_w (c : Nat) : Nat → Nat
  | 0 => 1
  | k + 1 => mt_w c k * (xp_part c k + 1)
/-- what is left of a way behind k figures, and the keys of the two rows of exponents up to there -/
def mt_left (c w : Nat) : Nat → Nat
  | 0 => w
  | k + 1 => mt_left c w k / (xp_part c k + 1)
def mt_one (c w : Nat) : Nat → Nat
  | 0 => 0
  | k + 1 => mt_one c w k + mt_key (mt_left c w k % (xp_part c k + 1))
def mt_oth (c w : Nat) : Nat → Nat
  | 0 => 0
  | k + 1 => mt_oth c w k + mt_key (xp_part c k - mt_left c w k % (xp_part c k + 1))
def mt_pr (c w : Nat) : Nat × Nat := (mt_prL.getD c []).getD w (0, 0)
def mt_nw (c : Nat) : Nat := (mt_prL.getD c []).length
theorem mt_nw_ok : ∀ c, c < 30 → mt_w c 6 = mt_nw c := by decide +kernel
theorem mt_pr_ok : ∀ c, c < 30 → ∀ w, w < mt_nw c → mt_one c w 6 < 672 ∧ mt_oth c w 6 < 672 ∧ mt_bk (mt_one c w 6) = (mt_pr c w).1 ∧ mt_bk (mt_oth c w 6) = (mt_pr c w).2 ∧ (mt_pr c w).1 < 30 ∧ (mt_pr c w).2 < 30 := by decide +kernel
theorem mt_w_b : ∀ c, c < 30 → ∀ k, k < 7 → mt_w c k ≤ 64 := by decide +kernel
theorem mt_nw_64 : ∀ c, c < 30 → mt_nw c ≤ 64 := by decide +kernel
theorem mt_left_le (c w : Nat) : ∀ k, mt_left c w k ≤ w
  | 0 => Nat.le_refl w
  | k + 1 => Nat.le_trans (Nat.div_le_self _ _) (mt_left_le c w k)
/-- the reference's tables, once they are laid -/
def mz_T (I : Nat → Nat → Int32) : Prop := (∀ i, i < 180 → I 55 i = nI (bz_parts.getD i 0)) ∧ (∀ i, i < 30 → I 56 i = nI (xt_deg i)) ∧ ∀ i, i < 672 → I 57 i = nI (mt_bk i)
section M1
variable {l : Launch} {ad : Nat → Nat} {K : bz_K} {σ σ' : bz_S} {r : Option Value}
theorem m_key {e : Nat} (he : e < 2 ^ 31) : bz_V l ad K 73 mX4_key 0 (some (.int (nI (mt_key e)))) σ 0 [some (.int (nI e))] [] σ := by
  refine bz_iload_n dX4_key_0 rfl ?_
  refine bz_if_ne (tgt := 8) dX4_key_1 rfl (fun h0 => ?_) (fun h0 => ?_)
  · have q0 : e ≠ 0 := fun q => h0 (by rw [q]; rfl)
    refine bz_iload_n dX4_key_8 rfl ?_
    refine bz_iconst dX4_key_9 kc_iconst_1 ?_
    refine bz_icmp_neN (tgt := 17) dX4_key_10 rfl (by omega) (by omega) (fun h1 => ?_) (fun h1 => ?_)
    · refine bz_iload_n dX4_key_17 rfl ?_
      refine bz_iconst dX4_key_18 kc_iconst_2 ?_
      refine bz_icmp_neN (tgt := 27) dX4_key_19 rfl (by omega) (by omega) (fun h2 => ?_) (fun h2 => ?_)
      · refine bz_iload_n dX4_key_27 rfl ?_
        refine bz_iconst dX4_key_28 kc_iconst_3 ?_
        refine bz_icmp_neN (tgt := 37) dX4_key_29 rfl (by omega) (by omega) (fun h3 => ?_) (fun h3 => ?_)
        · refine bz_iload_n dX4_key_37 rfl ?_
          refine bz_iconst dX4_key_38 kc_iconst_4 ?_
          refine bz_icmp_neN (tgt := 47) dX4_key_39 rfl (by omega) (by omega) (fun h4 => ?_) (fun h4 => ?_)
          · refine bz_iload_n dX4_key_47 rfl ?_
            refine bz_iconst dX4_key_48 kc_iconst_5 ?_
            refine bz_icmp_neN (tgt := 58) dX4_key_49 rfl (by omega) (by omega) (fun h5 => ?_) (fun h5 => ?_)
            · refine bz_sipush dX4_key_58 kc_sipush_336 ?_
              refine bz_iret dX4_key_61 rfl ?_ ?_
              · simp [mt_key, q0, h1, h2, h3, h4, h5]
              · rfl
            · refine bz_sipush dX4_key_52 kc_sipush_168 ?_
              refine bz_goto (tgt := 61) dX4_key_55 rfl ?_
              refine bz_iret dX4_key_61 rfl ?_ ?_
              · subst h5; rfl
              · rfl
          · refine bz_bipush dX4_key_42 kc_bipush_84 ?_
            refine bz_goto (tgt := 61) dX4_key_44 rfl ?_
            refine bz_iret dX4_key_61 rfl ?_ ?_
            · subst h4; rfl
            · rfl
        · refine bz_bipush dX4_key_32 kc_bipush_28 ?_
          refine bz_goto (tgt := 61) dX4_key_34 rfl ?_
          refine bz_iret dX4_key_61 rfl ?_ ?_
          · subst h3; rfl
          · rfl
      · refine bz_bipush dX4_key_22 kc_bipush_7 ?_
        refine bz_goto (tgt := 61) dX4_key_24 rfl ?_
        refine bz_iret dX4_key_61 rfl ?_ ?_
        · subst h2; rfl
        · rfl
    · refine bz_iconst dX4_key_13 kc_iconst_1 ?_
      refine bz_goto (tgt := 61) dX4_key_14 rfl ?_
      refine bz_iret dX4_key_61 rfl ?_ ?_
      · subst h1; rfl
      · rfl
  · refine bz_iconst dX4_key_4 kc_iconst_0 ?_
    refine bz_goto (tgt := 61) dX4_key_5 rfl ?_
    refine bz_iret dX4_key_61 rfl ?_ ?_
    · have : e = 0 := (nI_eq (b := 0) he (by omega)).mp h0
      subst this
      rfl
    · rfl
theorem m_at {a b c : Nat} : bz_V l ad K 73 mX4_at 0 (some (.int (nI (30 * (30 * a + b) + c)))) σ 0 [some (.int (nI a)), some (.int (nI b)), some (.int (nI c))] [] σ := by
  refine bz_bipush dX4_at_0 kc_bipush_30 ?_
  refine bz_bipush dX4_at_2 kc_bipush_30 ?_
  refine bz_iload_n dX4_at_4 rfl ?_
  first | refine bz_imulN dX4_at_5 ?_ | refine bz_imul dX4_at_5 ?_
  refine bz_iload_n dX4_at_6 rfl ?_
  first | refine bz_iaddN dX4_at_7 ?_ | refine bz_iadd dX4_at_7 ?_
  first | refine bz_imulN dX4_at_8 ?_ | refine bz_imul dX4_at_8 ?_
  refine bz_iload_n dX4_at_9 rfl ?_
  first | refine bz_iaddN dX4_at_10 ?_ | refine bz_iadd dX4_at_10 ?_
  refine bz_iret dX4_at_11 rfl rfl rfl
theorem m_partOf (hT : mz_T σ.2.1) {a k : Nat} (ha : a < 30) (hk : k < 6) : bz_V l ad K 73 mX4_partOf 0 (some (.int (nI (xp_part a k)))) σ 0 [some (.ref (ad 54)), some (.int (nI a)), some (.int (nI k))] [] σ := by
  refine bz_aload_n dX4_partOf_0 rfl ?_
  refine bz_getf fl_X4_7 dX4_partOf_1 rfl rfl (by omega) ?_
  refine bz_bipush dX4_partOf_4 kc_bipush_6 ?_
  refine bz_iload_n dX4_partOf_6 rfl ?_
  first | refine bz_imulN dX4_partOf_7 ?_ | refine bz_imul dX4_partOf_7 ?_
  refine bz_iload_n dX4_partOf_8 rfl ?_
  first | refine bz_iaddN dX4_partOf_9 ?_ | refine bz_iadd dX4_partOf_9 ?_
  refine bz_iaload dX4_partOf_10 rfl (by omega) (by omega) ?_
  refine bz_topi (hT.1 _ (by omega)) ?_
  refine bz_iret dX4_partOf_11 rfl ?_ ?_
  · rw [show 6 * a + k = a * 6 + k by omega]
    simp [xp_part, ha, hk]
  · rfl
theorem m_len_loop (hT : mz_T σ.2.1) {a : Nat} (ha : a < 30) : ∀ (m k acc : Nat), k + m = 6 → nsum (fun k => if 0 < xp_part a k then 1 else 0) k = acc → bz_V l ad K 73 mX4_lengthOf 1 (some (.int (nI (nsum (fun k => if 0 < xp_part a k then 1 else 0) 6)))) σ 4 [some (.ref (ad 54)), some (.int (nI a)), some (.int (nI acc)), some (.int (nI k))] [] σ := by
  intro m
  induction m with
  | zero =>
    intro k acc hk hs
    obtain rfl : k = 6 := by omega
    refine bz_iload_n dX4_lengthOf_4 rfl ?_
    refine bz_bipush dX4_lengthOf_5 kc_bipush_6 ?_
    refine bz_icmp_geN (tgt := 33) dX4_lengthOf_7 rfl (by omega) (by omega) (fun _ => ?_) (fun q => absurd q (by omega))
    refine bz_iload_n dX4_lengthOf_33 rfl ?_
    refine bz_iret dX4_lengthOf_34 rfl ?_ ?_
    · rw [hs]
    · rfl
  | succ m ih =>
    intro k acc hk hs
    have h6 : k < 6 := by omega
    have hp := xt_part6 a ha k h6
    refine bz_iload_n dX4_lengthOf_4 rfl ?_
    refine bz_bipush dX4_lengthOf_5 kc_bipush_6 ?_
    refine bz_icmp_geN (tgt := 33) dX4_lengthOf_7 rfl (by omega) (by omega) (fun q => absurd q (by omega)) (fun _ => ?_)
    refine bz_iload_n dX4_lengthOf_10 rfl ?_
    refine bz_aload_n dX4_lengthOf_11 rfl ?_
    refine bz_iload_n dX4_lengthOf_12 rfl ?_
    refine bz_iload_n dX4_lengthOf_13 rfl ?_
    refine bz_cV2I (z := 0) mv_X4_partOf mi_X4_partOf lk_X4_91 dX4_lengthOf_14 (by exact m_partOf (by exact hT) ha h6) (by omega) rfl (by omega) rfl rfl rfl (Nat.le_of_ble_eq_true rfl) (Nat.le_of_ble_eq_true rfl) ?_
    refine bz_if_le (tgt := 24) dX4_lengthOf_17 rfl (fun h => ?_) (fun h => ?_)
    · have h0 : ¬ 0 < xp_part a k := fun q => absurd h (nI_nle q (by omega))
      refine bz_iconst dX4_lengthOf_24 kc_iconst_0 ?_
      first | refine bz_iaddN dX4_lengthOf_25 ?_ | refine bz_iadd dX4_lengthOf_25 ?_
      refine bz_ist2 dX4_lengthOf_26 (by decide) rfl ?_
      first | refine bz_iinc3N dX4_lengthOf_27 (by decide) rfl ?_ | refine bz_iinc3 dX4_lengthOf_27 rfl (by decide) rfl ?_
      refine bz_goto (tgt := 4) dX4_lengthOf_30 rfl ?_
      exact ih (k + 1) acc (by omega) (by rw [nsum, hs, if_neg h0, Nat.add_zero])
    · have h0 : 0 < xp_part a k := by
        rcases Nat.eq_zero_or_pos (xp_part a k) with q | q
        · rw [q] at h; exact absurd (by decide) h
        · exact q
      refine bz_iconst dX4_lengthOf_20 kc_iconst_1 ?_
      refine bz_goto (tgt := 25) dX4_lengthOf_21 rfl ?_
      first | refine bz_iaddN dX4_lengthOf_25 ?_ | refine bz_iadd dX4_lengthOf_25 ?_
      refine bz_ist2 dX4_lengthOf_26 (by decide) rfl ?_
      first | refine bz_iinc3N dX4_lengthOf_27 (by decide) rfl ?_ | refine bz_iinc3 dX4_lengthOf_27 rfl (by decide) rfl ?_
      refine bz_goto (tgt := 4) dX4_lengthOf_30 rfl ?_
      exact ih (k + 1) (acc + 1) (by omega) (by rw [nsum, hs, if_pos h0])
theorem xt_len_ok : ∀ a, a < 30 → nsum (fun k => if 0 < xp_part a k then 1 else 0) 6 = xt_len a := by decide +kernel
theorem m_lengthOf (hT : mz_T σ.2.1) {a : Nat} (ha : a < 30) : bz_V l ad K 73 mX4_lengthOf 1 (some (.int (nI (xt_len a)))) σ 0 [some (.ref (ad 54)), some (.int (nI a)), none, none] [] σ := by
  rw [← xt_len_ok a ha]
  refine bz_iconst dX4_lengthOf_0 kc_iconst_0 ?_
  refine bz_ist2 dX4_lengthOf_1 (by decide) rfl ?_
  refine bz_iconst dX4_lengthOf_2 kc_iconst_0 ?_
  refine bz_ist3 dX4_lengthOf_3 (by decide) rfl ?_
  exact m_len_loop hT ha 6 0 0 rfl rfl
theorem m_in {x lo hi : Int32} (h1 : ¬ x < lo) (h2 : ¬ hi < x) : bz_V l ad K 73 mX4_in 0 (some (.int (nI 1))) σ 0 [some (.int x), some (.int lo), some (.int hi)] [] σ := by
  refine bz_iload_n dX4_in_0 rfl ?_
  refine bz_iload_n dX4_in_1 rfl ?_
  refine bz_icmp_lt (tgt := 14) dX4_in_2 rfl (fun q => absurd q (h1)) (fun _ => ?_)
  refine bz_iload_n dX4_in_5 rfl ?_
  refine bz_iload_n dX4_in_6 rfl ?_
  refine bz_icmp_gt (tgt := 14) dX4_in_7 rfl (fun q => absurd q (h2)) (fun _ => ?_)
  refine bz_iconst dX4_in_10 kc_iconst_1 ?_
  refine bz_goto (tgt := 15) dX4_in_11 rfl ?_
  refine bz_zret dX4_in_15 rfl rfl rfl rfl
theorem m_inF {x lo hi : Int32} (h : x < lo ∨ hi < x) : bz_V l ad K 73 mX4_in 0 (some (.int (nI 0))) σ 0 [some (.int x), some (.int lo), some (.int hi)] [] σ := by
  refine bz_iload_n dX4_in_0 rfl ?_
  refine bz_iload_n dX4_in_1 rfl ?_
  refine bz_icmp_lt (tgt := 14) dX4_in_2 rfl (fun h1 => ?_) (fun h1 => ?_)
  · refine bz_iconst dX4_in_14 kc_iconst_0 ?_
    refine bz_zret dX4_in_15 rfl rfl rfl rfl
  · refine bz_iload_n dX4_in_5 rfl ?_
    refine bz_iload_n dX4_in_6 rfl ?_
    refine bz_icmp_gt (tgt := 14) dX4_in_7 rfl (fun _ => ?_) (fun q => absurd (h.resolve_left h1) q)
    refine bz_iconst dX4_in_14 kc_iconst_0 ?_
    refine bz_zret dX4_in_15 rfl rfl rfl rfl
theorem m_inN {a lo hi : Nat} (h1 : lo ≤ a) (h2 : a ≤ hi) (h3 : hi < 2 ^ 31) : bz_V l ad K 73 mX4_in 0 (some (.int (nI 1))) σ 0 [some (.int (nI a)), some (.int (nI lo)), some (.int (nI hi))] [] σ :=
  m_in (nI_nlt h1 (by omega)) (nI_nlt h2 h3)
theorem m_isPart {a : Nat} (h : a < 30) : bz_V l ad K 73 mX4_isPartition 1 (some (.int (nI 1))) σ 0 [some (.int (nI a))] [] σ := by
  refine bz_iload_n dX4_isPartition_0 rfl ?_
  refine bz_iconst dX4_isPartition_1 kc_iconst_0 ?_
  refine bz_bipush dX4_isPartition_2 kc_bipush_29 ?_
  refine bz_cS3I (z := 0) mv_X4_in ws_X4_in lk_X4_101 dX4_isPartition_4 (by exact m_inN (Nat.zero_le a) (by omega) (by omega)) (by omega) rfl (Nat.le_of_ble_eq_true rfl) (Nat.le_of_ble_eq_true rfl) ?_
  refine bz_zret dX4_isPartition_7 rfl rfl rfl rfl
theorem m_lt {x : Int32} {N : Nat} (hN : N + 1 < 2 ^ 31) (h : x < 0 ∨ nI (N + 1) ≤ x) : x < nI 0 ∨ nI N < x := by
  rcases h with h | h
  · exact Or.inl h
  · exact Or.inr (bz_ge_lt hN h)
theorem m_isPartF {x : Int32} (h : x < 0 ∨ nI 30 ≤ x) : bz_V l ad K 73 mX4_isPartition 1 (some (.int (nI 0))) σ 0 [some (.int x)] [] σ := by
  refine bz_iload_n dX4_isPartition_0 rfl ?_
  refine bz_iconst dX4_isPartition_1 kc_iconst_0 ?_
  refine bz_bipush dX4_isPartition_2 kc_bipush_29 ?_
  refine bz_cS3I (z := 0) mv_X4_in ws_X4_in lk_X4_101 dX4_isPartition_4 (by exact m_inF (m_lt (N := 29) (by decide) h)) (by omega) rfl (Nat.le_of_ble_eq_true rfl) (Nat.le_of_ble_eq_true rfl) ?_
  refine bz_zret dX4_isPartition_7 rfl rfl rfl rfl
theorem m_isSlot {a : Nat} (h : a < 8) : bz_V l ad K 73 mX4_isSlot 1 (some (.int (nI 1))) σ 0 [some (.int (nI a))] [] σ := by
  refine bz_iload_n dX4_isSlot_0 rfl ?_
  refine bz_iconst dX4_isSlot_1 kc_iconst_0 ?_
  refine bz_bipush dX4_isSlot_2 kc_bipush_7 ?_
  refine bz_cS3I (z := 0) mv_X4_in ws_X4_in lk_X4_101 dX4_isSlot_4 (by exact m_inN (Nat.zero_le a) (by omega) (by omega)) (by omega) rfl (Nat.le_of_ble_eq_true rfl) (Nat.le_of_ble_eq_true rfl) ?_
  refine bz_zret dX4_isSlot_7 rfl rfl rfl rfl
theorem m_isSlotF {x : Int32} (h : x < 0 ∨ nI 8 ≤ x) : bz_V l ad K 73 mX4_isSlot 1 (some (.int (nI 0))) σ 0 [some (.int x)] [] σ := by
  refine bz_iload_n dX4_isSlot_0 rfl ?_
  refine bz_iconst dX4_isSlot_1 kc_iconst_0 ?_
  refine bz_bipush dX4_isSlot_2 kc_bipush_7 ?_
  refine bz_cS3I (z := 0) mv_X4_in ws_X4_in lk_X4_101 dX4_isSlot_4 (by exact m_inF (m_lt (N := 7) (by decide) h)) (by omega) rfl (Nat.le_of_ble_eq_true rfl) (Nat.le_of_ble_eq_true rfl) ?_
  refine bz_zret dX4_isSlot_7 rfl rfl rfl rfl
end M1
