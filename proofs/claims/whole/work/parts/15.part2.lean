/-! marks and numbers -/
def xt_mk (p : Nat) : Nat := if 1 ≤ p ∧ p ≤ 6 then 8 ^ (p - 1) else 0
def xt_find (mk : Nat) : Nat → Nat → Option Nat
  | _, 0 => none
  | a, m + 1 => if xt_mark a = mk then some a else xt_find mk (a + 1) m
def xt_num (mk d : Nat) : Option Nat := if d ≤ 6 then xt_find mk (xp_start d) (xp_start (d + 1) - xp_start d) else none
def xt_o (o : Option Nat) : Int32 := match o with
  | some a => nI a
  | none => -1
theorem xp_start_le : ∀ d, d ≤ 6 → xp_start d ≤ xp_start (d + 1) ∧ xp_start (d + 1) ≤ 30 := by decide +kernel
theorem xt_mark_lt : ∀ i, i < 30 → xt_mark i < 2 ^ 31 := by decide +kernel
theorem xt_shl : ∀ p, p < 7 → 1 ≤ p → nI 1 <<< ((nI 3 * (nI p - nI 1)) &&& 31) = nI (8 ^ (p - 1)) := by decide +kernel
section XP3
variable {l : Launch} {ad : Nat → Nat} {K : bz_K} {n : Nat} {σ : bz_S}
theorem t_markOf {p : Nat} (hp : p < 2 ^ 31) : bz_V l ad K n mX1_markOf 0 (some (.int (nI (xt_mk p)))) σ 0 [some (.int (nI p))] [] σ := by
  refine bz_iload_n dX1_markOf_0 rfl ?_
  refine bz_if_le (tgt := 20) dX1_markOf_1 rfl (fun h1 => ?_) (fun h1 => ?_)
  · refine bz_iconst dX1_markOf_20 kc_iconst_0 ?_
    refine bz_iret dX1_markOf_21 rfl ?_ ?_
    · have : p = 0 := by
        rcases Nat.eq_zero_or_pos p with q | q
        · exact q
        · exact absurd h1 (nI_nle q hp)
      subst this
      rfl
    · rfl
  · have h0 : 1 ≤ p := by
      rcases Nat.eq_zero_or_pos p with q | q
      · subst q; exact absurd (by decide) h1
      · exact q
    refine bz_iload_n dX1_markOf_4 rfl ?_
    refine bz_bipush dX1_markOf_5 kc_bipush_6 ?_
    refine bz_icmp_gtN (tgt := 20) dX1_markOf_7 rfl (by omega) (by omega) (fun h2 => ?_) (fun h2 => ?_)
    · refine bz_iconst dX1_markOf_20 kc_iconst_0 ?_
      refine bz_iret dX1_markOf_21 rfl ?_ ?_
      · simp [xt_mk, Nat.not_le.mpr h2]
      · rfl
    · refine bz_iconst dX1_markOf_10 kc_iconst_1 ?_
      refine bz_iconst dX1_markOf_11 kc_iconst_3 ?_
      refine bz_iload_n dX1_markOf_12 rfl ?_
      refine bz_iconst dX1_markOf_13 kc_iconst_1 ?_
      refine bz_isub dX1_markOf_14 ?_
      refine bz_imul dX1_markOf_15 ?_
      refine bz_ishl dX1_markOf_16 ?_
      refine bz_goto (tgt := 21) dX1_markOf_17 rfl ?_
      refine bz_iret dX1_markOf_21 rfl ?_ ?_
      · rw [xt_shl p (by omega) h0]
        simp [xt_mk, h0, h2]
      · rfl
theorem t_num_loop (hn : 9 ≤ n) {mk d e : Nat} (hmk : mk < 2 ^ 31) (he : e ≤ 30) (hm : ∀ i, i < 30 → σ.2.1 3 i = nI (xt_mark i)) {x2 : Option Value} :
    ∀ (m a : Nat), a + m = e → bz_V l ad K n mX1_numberOf 1 (some (.int (xt_o (xt_find mk a m)))) σ 11 [some (.ref (ad 0)), some (.int (nI mk)), x2, some (.int (nI e)), some (.int (nI a))] [] σ := by
  intro m
  induction m with
  | zero =>
    intro a ha
    obtain rfl : a = e := by omega
    refine bz_iload dX1_numberOf_11 rfl ?_
    refine bz_iload_n dX1_numberOf_13 rfl ?_
    refine bz_icmp_geN (tgt := 37) dX1_numberOf_14 rfl (by omega) (by omega) (fun _ => ?_) (fun q => absurd q (by omega))
    refine bz_iconst dX1_numberOf_37 kc_iconst_m1 ?_
    refine bz_iret dX1_numberOf_38 rfl rfl rfl
  | succ m ih =>
    intro a ha
    have h30 : a < 30 := by omega
    have hlt := xt_mark_lt a h30
    refine bz_iload dX1_numberOf_11 rfl ?_
    refine bz_iload_n dX1_numberOf_13 rfl ?_
    refine bz_icmp_geN (tgt := 37) dX1_numberOf_14 rfl (by omega) (by omega) (fun q => absurd q (by omega)) (fun _ => ?_)
    refine bz_aload_n dX1_numberOf_17 rfl ?_
    refine bz_getf fl_X1_18 dX1_numberOf_18 rfl rfl (by omega) ?_
    refine bz_iload dX1_numberOf_21 rfl ?_
    refine bz_iaload dX1_numberOf_23 rfl (by omega) (by omega) ?_
    refine bz_topi (hm a h30) ?_
    refine bz_iload_n dX1_numberOf_24 rfl ?_
    refine bz_icmp_neN (tgt := 31) dX1_numberOf_25 rfl (by omega) (by omega) (fun h => ?_) (fun h => ?_)
    · first | refine bz_iinc4N dX1_numberOf_31 (by decide) rfl ?_ | refine bz_iinc4 dX1_numberOf_31 rfl (by decide) rfl ?_
      refine bz_goto (tgt := 11) dX1_numberOf_34 rfl ?_
      have := ih (a + 1) (by omega)
      rw [xt_find, if_neg h]
      exact this
    · refine bz_iload dX1_numberOf_28 rfl ?_
      refine bz_iret dX1_numberOf_30 rfl ?_ ?_
      · rw [xt_find, if_pos h]
        rfl
      · rfl
theorem t_numberOf (hn : 9 ≤ n) {mk d : Nat} (hmk : mk < 2 ^ 31) (hd : d < 2 ^ 31) (hm : ∀ i, i < 30 → σ.2.1 3 i = nI (xt_mark i)) : bz_V l ad K n mX1_numberOf 1 (some (.int (xt_o (xt_num mk d)))) σ 0 [some (.ref (ad 0)), some (.int (nI mk)), some (.int (nI d)), none, none] [] σ := by
  by_cases h : d ≤ 6
  · have hs := xp_start_le d h
    refine bz_iload_n dX1_numberOf_0 rfl ?_
    refine bz_cS1I (z := 0) mv_X1_endOf ws_X1_endOf lk_X1_64 dX1_numberOf_1 (by exact t_endOf h) (by omega) rfl (Nat.le_of_ble_eq_true rfl) (Nat.le_of_ble_eq_true rfl) ?_
    refine bz_ist3 dX1_numberOf_4 (by decide) rfl ?_
    refine bz_iload_n dX1_numberOf_5 rfl ?_
    refine bz_cS1I (z := 0) mv_X1_startOf ws_X1_startOf lk_X1_67 dX1_numberOf_6 (by exact t_startOf h) (by omega) rfl (Nat.le_of_ble_eq_true rfl) (Nat.le_of_ble_eq_true rfl) ?_
    refine bz_ist4 dX1_numberOf_9 (by decide) rfl ?_
    have := t_num_loop (l := l) (ad := ad) (K := K) (d := d) (σ := σ) hn hmk hs.2 hm (x2 := some (.int (nI d))) (xp_start (d + 1) - xp_start d) (xp_start d) (by omega)
    rw [xt_num, if_pos h]
    exact this
  · have hg : nI d < 0 ∨ nI 6 < nI d := Or.inr ((nI_ltI (by omega) hd).mpr (by omega))
    refine bz_iload_n dX1_numberOf_0 rfl ?_
    refine bz_cS1I (z := 0) mv_X1_endOf ws_X1_endOf lk_X1_64 dX1_numberOf_1 (by exact t_endOfF hg) (by omega) rfl (Nat.le_of_ble_eq_true rfl) (Nat.le_of_ble_eq_true rfl) ?_
    refine bz_ist3 dX1_numberOf_4 (by decide) rfl ?_
    refine bz_iload_n dX1_numberOf_5 rfl ?_
    refine bz_cS1I (z := 0) mv_X1_startOf ws_X1_startOf lk_X1_67 dX1_numberOf_6 (by exact t_startOfF hg) (by omega) rfl (Nat.le_of_ble_eq_true rfl) (Nat.le_of_ble_eq_true rfl) ?_
    refine bz_ist4 dX1_numberOf_9 (by decide) rfl ?_
    have := t_num_loop (l := l) (ad := ad) (K := K) (d := d) (σ := σ) hn hmk (e := 0) (by omega) hm (x2 := some (.int (nI d))) 0 0 rfl
    rw [xt_num, if_neg h]
    exact this
end XP3
