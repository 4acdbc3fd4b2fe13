/-! the reference: its small methods -/
def xt_alL : List Nat := [1, 1, 1, 2, 1, 1, 6, 1, 1, 2, 2, 24, 1, 1, 1, 2, 2, 6, 120, 1, 1, 1, 2, 2, 1, 6, 6, 4, 24, 720]
def xt_al (a : Nat) : Nat := xt_alL.getD a 0
def mt_cn (a k : Nat) : Nat := nsum (fun i => if k ≤ xp_part a i then 1 else 0) 6
def mt_cs (a : Nat) (q : Nat) : Nat := nsum (fun q => mt_key (mt_cn a (q + 1))) q
theorem mt_cs_ok : ∀ a, a < 30 → mt_cs a 6 < 672 ∧ mt_bk (mt_cs a 6) = xt_conj a := by decide +kernel
def mt_ti (a p : Nat) : Nat := nsum (fun i => if xp_part a i = p then 1 else 0) 6
def mt_f : Nat → Nat → Nat → Nat
  | pr, _, 0 => pr
  | pr, k, m + 1 => mt_f (pr * k) (k + 1) m
def mt_al (a : Nat) : Nat → Nat
  | 0 => 1
  | q + 1 => mt_f (mt_al a q) 2 (mt_ti a (q + 1) - 1)
theorem mt_al_ok : ∀ a, a < 30 → mt_al a 6 = xt_al a := by decide +kernel
theorem nsum_le (f : Nat → Nat) (h : ∀ i, f i ≤ 1) : ∀ n, nsum f n ≤ n
  | 0 => Nat.le_refl 0
  | n + 1 => by rw [nsum]; have := h n; have := nsum_le f h n; omega
theorem mt_ti_6 (a p : Nat) : mt_ti a p ≤ 6 := nsum_le _ (fun i => by by_cases q : xp_part a i = p <;> simp [q]) 6
theorem mt_cn_6 (a k : Nat) : mt_cn a k ≤ 6 := nsum_le _ (fun i => by by_cases q : k ≤ xp_part a i <;> simp [q]) 6
def mt_z (a : Nat) : Nat → Nat
  | 0 => xt_al a
  | i + 1 => mt_z a i * (if 0 < xp_part a i then xp_part a i else 1)
theorem mt_z_ok : ∀ a, a < 30 → mt_z a 6 = xt_z a := by decide +kernel
section M3
variable {l : Launch} {ad : Nat → Nat} {K : bz_K} {σ σ' : bz_S} {r : Option Value}
theorem m_cj_in (hT : mz_T σ.2.1) {a k : Nat} (ha : a < 30) (hk : k < 2 ^ 31) {x2 : Int32}
    (kk : ∀ x5, bz_V l ad K 73 mX4_conjugate 1 r σ' 50 [some (.ref (ad 54)), some (.int (nI a)), some (.int x2), some (.int (nI k)), some (.int (nI (mt_cn a k))), x5] [] σ) :
    ∀ (m i acc : Nat), i + m = 6 → nsum (fun i => if k ≤ xp_part a i then 1 else 0) i = acc → bz_V l ad K 73 mX4_conjugate 1 r σ' 16 [some (.ref (ad 54)), some (.int (nI a)), some (.int x2), some (.int (nI k)), some (.int (nI acc)), some (.int (nI i))] [] σ := by
  intro m
  induction m with
  | zero =>
    intro i acc hi hs
    obtain rfl : i = 6 := by omega
    obtain rfl := hs
    refine bz_iload dX4_conjugate_16 rfl ?_
    refine bz_bipush dX4_conjugate_18 kc_bipush_6 ?_
    refine bz_icmp_geN (tgt := 50) dX4_conjugate_20 rfl (by omega) (by omega) (fun _ => ?_) (fun q => absurd q (by omega))
    exact kk _
  | succ m ih =>
    intro i acc hi hs
    have h6 : i < 6 := by omega
    have hp := xt_part6 a ha i h6
    refine bz_iload dX4_conjugate_16 rfl ?_
    refine bz_bipush dX4_conjugate_18 kc_bipush_6 ?_
    refine bz_icmp_geN (tgt := 50) dX4_conjugate_20 rfl (by omega) (by omega) (fun q => absurd q (by omega)) (fun _ => ?_)
    refine bz_iload dX4_conjugate_23 rfl ?_
    refine bz_aload_n dX4_conjugate_25 rfl ?_
    refine bz_iload_n dX4_conjugate_26 rfl ?_
    refine bz_iload dX4_conjugate_27 rfl ?_
    refine bz_cV2I (z := 0) mv_X4_partOf mi_X4_partOf lk_X4_91 dX4_conjugate_29 (by exact m_partOf (by exact hT) ha h6) (by omega) rfl (by omega) rfl rfl rfl (Nat.le_of_ble_eq_true rfl) (Nat.le_of_ble_eq_true rfl) ?_
    refine bz_iload_n dX4_conjugate_32 rfl ?_
    refine bz_icmp_ltN (tgt := 40) dX4_conjugate_33 rfl (by omega) (by omega) (fun h => ?_) (fun h => ?_)
    · refine bz_iconst dX4_conjugate_40 kc_iconst_0 ?_
      first | refine bz_iaddN dX4_conjugate_41 ?_ | refine bz_iadd dX4_conjugate_41 ?_
      refine bz_ist4 dX4_conjugate_42 (by decide) rfl ?_
      first | refine bz_iinc5N dX4_conjugate_44 (by decide) rfl ?_ | refine bz_iinc5 dX4_conjugate_44 rfl (by decide) rfl ?_
      refine bz_goto (tgt := 16) dX4_conjugate_47 rfl ?_
      exact ih (i + 1) acc (by omega) (by rw [nsum, hs, if_neg (by omega), Nat.add_zero])
    · refine bz_iconst dX4_conjugate_36 kc_iconst_1 ?_
      refine bz_goto (tgt := 41) dX4_conjugate_37 rfl ?_
      first | refine bz_iaddN dX4_conjugate_41 ?_ | refine bz_iadd dX4_conjugate_41 ?_
      refine bz_ist4 dX4_conjugate_42 (by decide) rfl ?_
      first | refine bz_iinc5N dX4_conjugate_44 (by decide) rfl ?_ | refine bz_iinc5 dX4_conjugate_44 rfl (by decide) rfl ?_
      refine bz_goto (tgt := 16) dX4_conjugate_47 rfl ?_
      exact ih (i + 1) (acc + 1) (by omega) (by rw [nsum, hs, if_pos (by omega)])
theorem m_cj_out (hT : mz_T σ.2.1) {a : Nat} (ha : a < 30) : ∀ (m q : Nat) (x4 x5 : Option Value), q + m = 6 → bz_V l ad K 73 mX4_conjugate 1 (some (.int (nI (xt_conj a)))) σ 4 [some (.ref (ad 54)), some (.int (nI a)), some (.int (nI (mt_cs a q))), some (.int (nI (q + 1))), x4, x5] [] σ := by
  have hok := mt_cs_ok a ha
  intro m
  induction m with
  | zero =>
    intro q x4 x5 hq
    obtain rfl : q = 6 := by omega
    refine bz_iload_n dX4_conjugate_4 rfl ?_
    refine bz_bipush dX4_conjugate_5 kc_bipush_6 ?_
    refine bz_icmp_gtN (tgt := 64) dX4_conjugate_7 rfl (by omega) (by omega) (fun _ => ?_) (fun q => absurd q (by omega))
    refine bz_aload_n dX4_conjugate_64 rfl ?_
    refine bz_getf fl_X4_16 dX4_conjugate_65 rfl rfl (by omega) ?_
    refine bz_iload_n dX4_conjugate_68 rfl ?_
    refine bz_iaload dX4_conjugate_69 rfl (by omega) hok.1 ?_
    refine bz_topi (hT.2.2 _ hok.1) ?_
    refine bz_iret dX4_conjugate_70 rfl ?_ ?_
    · rw [hok.2]
    · rfl
  | succ m ih =>
    intro q x4 x5 hq
    have h6 := mt_cn_6 a (q + 1)
    refine bz_iload_n dX4_conjugate_4 rfl ?_
    refine bz_bipush dX4_conjugate_5 kc_bipush_6 ?_
    refine bz_icmp_gtN (tgt := 64) dX4_conjugate_7 rfl (by omega) (by omega) (fun q => absurd q (by omega)) (fun _ => ?_)
    refine bz_iconst dX4_conjugate_10 kc_iconst_0 ?_
    refine bz_ist4 dX4_conjugate_11 (by decide) rfl ?_
    refine bz_iconst dX4_conjugate_13 kc_iconst_0 ?_
    refine bz_ist5 dX4_conjugate_14 (by decide) rfl ?_
    refine m_cj_in hT ha (by omega) (fun x5 => ?_) 6 0 0 rfl rfl
    refine bz_iload_n dX4_conjugate_50 rfl ?_
    refine bz_iload dX4_conjugate_51 rfl ?_
    refine bz_cS1I (z := 0) mv_X4_key ws_X4_key lk_X4_87 dX4_conjugate_53 (by exact m_key (by omega)) (by omega) rfl (Nat.le_of_ble_eq_true rfl) (Nat.le_of_ble_eq_true rfl) ?_
    first | refine bz_iaddN dX4_conjugate_56 ?_ | refine bz_iadd dX4_conjugate_56 ?_
    refine bz_ist2 dX4_conjugate_57 (by decide) rfl ?_
    first | refine bz_iinc3N dX4_conjugate_58 (by decide) rfl ?_ | refine bz_iinc3 dX4_conjugate_58 rfl (by decide) rfl ?_
    refine bz_goto (tgt := 4) dX4_conjugate_61 rfl ?_
    exact ih (q + 1) _ _ (by omega)
theorem m_conjugate (hT : mz_T σ.2.1) {a : Nat} (ha : a < 30) : bz_V l ad K 73 mX4_conjugate 1 (some (.int (nI (xt_conj a)))) σ 0 [some (.ref (ad 54)), some (.int (nI a)), none, none, none, none] [] σ := by
  refine bz_iconst dX4_conjugate_0 kc_iconst_0 ?_
  refine bz_ist2 dX4_conjugate_1 (by decide) rfl ?_
  refine bz_iconst dX4_conjugate_2 kc_iconst_1 ?_
  refine bz_ist3 dX4_conjugate_3 (by decide) rfl ?_
  exact m_cj_out hT ha 6 0 _ _ rfl
theorem m_ti_loop (hT : mz_T σ.2.1) {a p : Nat} (ha : a < 30) (hp : p < 2 ^ 31) : ∀ (m i acc : Nat), i + m = 6 → nsum (fun i => if xp_part a i = p then 1 else 0) i = acc → bz_V l ad K 73 mX4_timesOf 1 (some (.int (nI (mt_ti a p)))) σ 5 [some (.ref (ad 54)), some (.int (nI a)), some (.int (nI p)), some (.int (nI acc)), some (.int (nI i))] [] σ := by
  intro m
  induction m with
  | zero =>
    intro i acc hi hs
    obtain rfl : i = 6 := by omega
    obtain rfl := hs
    refine bz_iload dX4_timesOf_5 rfl ?_
    refine bz_bipush dX4_timesOf_7 kc_bipush_6 ?_
    refine bz_icmp_geN (tgt := 37) dX4_timesOf_9 rfl (by omega) (by omega) (fun _ => ?_) (fun q => absurd q (by omega))
    refine bz_iload_n dX4_timesOf_37 rfl ?_
    refine bz_iret dX4_timesOf_38 rfl rfl rfl
  | succ m ih =>
    intro i acc hi hs
    have h6 : i < 6 := by omega
    have hpp := xt_part6 a ha i h6
    refine bz_iload dX4_timesOf_5 rfl ?_
    refine bz_bipush dX4_timesOf_7 kc_bipush_6 ?_
    refine bz_icmp_geN (tgt := 37) dX4_timesOf_9 rfl (by omega) (by omega) (fun q => absurd q (by omega)) (fun _ => ?_)
    refine bz_iload_n dX4_timesOf_12 rfl ?_
    refine bz_aload_n dX4_timesOf_13 rfl ?_
    refine bz_iload_n dX4_timesOf_14 rfl ?_
    refine bz_iload dX4_timesOf_15 rfl ?_
    refine bz_cV2I (z := 0) mv_X4_partOf mi_X4_partOf lk_X4_91 dX4_timesOf_17 (by exact m_partOf (by exact hT) ha h6) (by omega) rfl (by omega) rfl rfl rfl (Nat.le_of_ble_eq_true rfl) (Nat.le_of_ble_eq_true rfl) ?_
    refine bz_iload_n dX4_timesOf_20 rfl ?_
    refine bz_icmp_neN (tgt := 28) dX4_timesOf_21 rfl (by omega) (by omega) (fun h => ?_) (fun h => ?_)
    · refine bz_iconst dX4_timesOf_28 kc_iconst_0 ?_
      first | refine bz_iaddN dX4_timesOf_29 ?_ | refine bz_iadd dX4_timesOf_29 ?_
      refine bz_ist3 dX4_timesOf_30 (by decide) rfl ?_
      first | refine bz_iinc4N dX4_timesOf_31 (by decide) rfl ?_ | refine bz_iinc4 dX4_timesOf_31 rfl (by decide) rfl ?_
      refine bz_goto (tgt := 5) dX4_timesOf_34 rfl ?_
      exact ih (i + 1) acc (by omega) (by rw [nsum, hs, if_neg h, Nat.add_zero])
    · refine bz_iconst dX4_timesOf_24 kc_iconst_1 ?_
      refine bz_goto (tgt := 29) dX4_timesOf_25 rfl ?_
      first | refine bz_iaddN dX4_timesOf_29 ?_ | refine bz_iadd dX4_timesOf_29 ?_
      refine bz_ist3 dX4_timesOf_30 (by decide) rfl ?_
      first | refine bz_iinc4N dX4_timesOf_31 (by decide) rfl ?_ | refine bz_iinc4 dX4_timesOf_31 rfl (by decide) rfl ?_
      refine bz_goto (tgt := 5) dX4_timesOf_34 rfl ?_
      exact ih (i + 1) (acc + 1) (by omega) (by rw [nsum, hs, if_pos h])
theorem m_timesOf (hT : mz_T σ.2.1) {a p : Nat} (ha : a < 30) (hp : p < 2 ^ 31) : bz_V l ad K 73 mX4_timesOf 1 (some (.int (nI (mt_ti a p)))) σ 0 [some (.ref (ad 54)), some (.int (nI a)), some (.int (nI p)), none, none] [] σ := by
  refine bz_iconst dX4_timesOf_0 kc_iconst_0 ?_
  refine bz_ist3 dX4_timesOf_1 (by decide) rfl ?_
  refine bz_iconst dX4_timesOf_2 kc_iconst_0 ?_
  refine bz_ist4 dX4_timesOf_3 (by decide) rfl ?_
  exact m_ti_loop hT ha hp 6 0 0 rfl rfl
theorem m_al_in {a q n : Nat} (hn : n ≤ 6) {T : Nat}
    (kk : ∀ x5, bz_V l ad K 73 mX4_alike 2 r σ' 39 [some (.ref (ad 54)), some (.int (nI a)), some (.int (nI T)), some (.int (nI q)), some (.int (nI n)), x5] [] σ) :
    ∀ (m k pr : Nat), (k + m = n + 1 ∨ (m = 0 ∧ n < k)) → 2 ≤ k → k < 9 → mt_f pr k m = T → bz_V l ad K 73 mX4_alike 2 r σ' 21 [some (.ref (ad 54)), some (.int (nI a)), some (.int (nI pr)), some (.int (nI q)), some (.int (nI n)), some (.int (nI k))] [] σ := by
  intro m
  induction m with
  | zero =>
    intro k pr hk h2 h9 ht
    obtain rfl := ht
    refine bz_iload dX4_alike_21 rfl ?_
    refine bz_iload dX4_alike_23 rfl ?_
    refine bz_icmp_gtN (tgt := 39) dX4_alike_25 rfl (by omega) (by omega) (fun _ => ?_) (fun q => absurd q (by omega))
    exact kk _
  | succ m ih =>
    intro k pr hk h2 h9 ht
    refine bz_iload dX4_alike_21 rfl ?_
    refine bz_iload dX4_alike_23 rfl ?_
    refine bz_icmp_gtN (tgt := 39) dX4_alike_25 rfl (by omega) (by omega) (fun q => absurd q (by omega)) (fun _ => ?_)
    refine bz_iload_n dX4_alike_28 rfl ?_
    refine bz_iload dX4_alike_29 rfl ?_
    first | refine bz_imulN dX4_alike_31 ?_ | refine bz_imul dX4_alike_31 ?_
    refine bz_ist2 dX4_alike_32 (by decide) rfl ?_
    first | refine bz_iinc5N dX4_alike_33 (by decide) rfl ?_ | refine bz_iinc5 dX4_alike_33 rfl (by decide) rfl ?_
    refine bz_goto (tgt := 21) dX4_alike_36 rfl ?_
    exact ih (k + 1) (pr * k) (by omega) (by omega) (by omega) ht
theorem m_al_out (hT : mz_T σ.2.1) {a : Nat} (ha : a < 30) : ∀ (m q : Nat) (x4 x5 : Option Value), q + m = 6 → bz_V l ad K 73 mX4_alike 2 (some (.int (nI (xt_al a)))) σ 4 [some (.ref (ad 54)), some (.int (nI a)), some (.int (nI (mt_al a q))), some (.int (nI (q + 1))), x4, x5] [] σ := by
  intro m
  induction m with
  | zero =>
    intro q x4 x5 hq
    obtain rfl : q = 6 := by omega
    refine bz_iload_n dX4_alike_4 rfl ?_
    refine bz_bipush dX4_alike_5 kc_bipush_6 ?_
    refine bz_icmp_gtN (tgt := 45) dX4_alike_7 rfl (by omega) (by omega) (fun _ => ?_) (fun q => absurd q (by omega))
    refine bz_iload_n dX4_alike_45 rfl ?_
    refine bz_iret dX4_alike_46 rfl ?_ ?_
    · rw [mt_al_ok a ha]
    · rfl
  | succ m ih =>
    intro q x4 x5 hq
    have h6 := mt_ti_6 a (q + 1)
    refine bz_iload_n dX4_alike_4 rfl ?_
    refine bz_bipush dX4_alike_5 kc_bipush_6 ?_
    refine bz_icmp_gtN (tgt := 45) dX4_alike_7 rfl (by omega) (by omega) (fun q => absurd q (by omega)) (fun _ => ?_)
    refine bz_aload_n dX4_alike_10 rfl ?_
    refine bz_iload_n dX4_alike_11 rfl ?_
    refine bz_iload_n dX4_alike_12 rfl ?_
    refine bz_cV2I (z := 2) mv_X4_timesOf mi_X4_timesOf lk_X4_120 dX4_alike_13 (by exact m_timesOf (by exact hT) ha (by omega)) (by omega) rfl (by omega) rfl rfl rfl (Nat.le_of_ble_eq_true rfl) (Nat.le_of_ble_eq_true rfl) ?_
    refine bz_ist4 dX4_alike_16 (by decide) rfl ?_
    refine bz_iconst dX4_alike_18 kc_iconst_2 ?_
    refine bz_ist5 dX4_alike_19 (by decide) rfl ?_
    refine m_al_in (T := mt_al a (q + 1)) h6 (fun x5 => ?_) (mt_ti a (q + 1) - 1) 2 (mt_al a q) (by omega) (by omega) (by omega) rfl
    first | refine bz_iinc3N dX4_alike_39 (by decide) rfl ?_ | refine bz_iinc3 dX4_alike_39 rfl (by decide) rfl ?_
    refine bz_goto (tgt := 4) dX4_alike_42 rfl ?_
    exact ih (q + 1) _ _ (by omega)
theorem m_alike (hT : mz_T σ.2.1) {a : Nat} (ha : a < 30) : bz_V l ad K 73 mX4_alike 2 (some (.int (nI (xt_al a)))) σ 0 [some (.ref (ad 54)), some (.int (nI a)), none, none, none, none] [] σ := by
  refine bz_iconst dX4_alike_0 kc_iconst_1 ?_
  refine bz_ist2 dX4_alike_1 (by decide) rfl ?_
  refine bz_iconst dX4_alike_2 kc_iconst_1 ?_
  refine bz_ist3 dX4_alike_3 (by decide) rfl ?_
  exact m_al_out hT ha 6 0 _ _ rfl
theorem m_z_loop (hT : mz_T σ.2.1) {a : Nat} (ha : a < 30) : ∀ (m i : Nat), i + m = 6 → bz_V l ad K 73 mX4_z 3 (some (.int (nI (xt_z a)))) σ 8 [some (.ref (ad 54)), some (.int (nI a)), some (.int (nI (mt_z a i))), some (.int (nI i))] [] σ := by
  intro m
  induction m with
  | zero =>
    intro i hi
    obtain rfl : i = 6 := by omega
    refine bz_iload_n dX4_z_8 rfl ?_
    refine bz_bipush dX4_z_9 kc_bipush_6 ?_
    refine bz_icmp_geN (tgt := 42) dX4_z_11 rfl (by omega) (by omega) (fun _ => ?_) (fun q => absurd q (by omega))
    refine bz_iload_n dX4_z_42 rfl ?_
    refine bz_iret dX4_z_43 rfl ?_ ?_
    · rw [mt_z_ok a ha]
    · rfl
  | succ m ih =>
    intro i hi
    have h6 : i < 6 := by omega
    have hp := xt_part6 a ha i h6
    have hih := ih (i + 1) (by omega)
    refine bz_iload_n dX4_z_8 rfl ?_
    refine bz_bipush dX4_z_9 kc_bipush_6 ?_
    refine bz_icmp_geN (tgt := 42) dX4_z_11 rfl (by omega) (by omega) (fun q => absurd q (by omega)) (fun _ => ?_)
    refine bz_iload_n dX4_z_14 rfl ?_
    refine bz_aload_n dX4_z_15 rfl ?_
    refine bz_iload_n dX4_z_16 rfl ?_
    refine bz_iload_n dX4_z_17 rfl ?_
    refine bz_cV2I (z := 0) mv_X4_partOf mi_X4_partOf lk_X4_91 dX4_z_18 (by exact m_partOf (by exact hT) ha h6) (by omega) rfl (by omega) rfl rfl rfl (Nat.le_of_ble_eq_true rfl) (Nat.le_of_ble_eq_true rfl) ?_
    refine bz_if_le (tgt := 33) dX4_z_21 rfl (fun h => ?_) (fun h => ?_)
    · have h0 : ¬ 0 < xp_part a i := fun q => absurd h (nI_nle q (by omega))
      refine bz_iconst dX4_z_33 kc_iconst_1 ?_
      first | refine bz_imulN dX4_z_34 ?_ | refine bz_imul dX4_z_34 ?_
      refine bz_ist2 dX4_z_35 (by decide) rfl ?_
      first | refine bz_iinc3N dX4_z_36 (by decide) rfl ?_ | refine bz_iinc3 dX4_z_36 rfl (by decide) rfl ?_
      refine bz_goto (tgt := 8) dX4_z_39 rfl ?_
      rw [mt_z, if_neg h0] at hih
      exact hih
    · have h0 : 0 < xp_part a i := by
        rcases Nat.eq_zero_or_pos (xp_part a i) with q | q
        · rw [q] at h; exact absurd (by decide) h
        · exact q
      refine bz_aload_n dX4_z_24 rfl ?_
      refine bz_iload_n dX4_z_25 rfl ?_
      refine bz_iload_n dX4_z_26 rfl ?_
      refine bz_cV2I (z := 0) mv_X4_partOf mi_X4_partOf lk_X4_91 dX4_z_27 (by exact m_partOf (by exact hT) ha h6) (by omega) rfl (by omega) rfl rfl rfl (Nat.le_of_ble_eq_true rfl) (Nat.le_of_ble_eq_true rfl) ?_
      refine bz_goto (tgt := 34) dX4_z_30 rfl ?_
      first | refine bz_imulN dX4_z_34 ?_ | refine bz_imul dX4_z_34 ?_
      refine bz_ist2 dX4_z_35 (by decide) rfl ?_
      first | refine bz_iinc3N dX4_z_36 (by decide) rfl ?_ | refine bz_iinc3 dX4_z_36 rfl (by decide) rfl ?_
      refine bz_goto (tgt := 8) dX4_z_39 rfl ?_
      rw [mt_z, if_pos h0] at hih
      exact hih
theorem m_z (hT : mz_T σ.2.1) {a : Nat} (ha : a < 30) : bz_V l ad K 73 mX4_z 3 (some (.int (nI (xt_z a)))) σ 0 [some (.ref (ad 54)), some (.int (nI a)), none, none] [] σ := by
  refine bz_aload_n dX4_z_0 rfl ?_
  refine bz_iload_n dX4_z_1 rfl ?_
  refine bz_cV1I (z := 4) mv_X4_alike mi_X4_alike lk_X4_123 dX4_z_2 (by exact m_alike (by exact hT) ha) (by omega) rfl (by omega) rfl rfl rfl (Nat.le_of_ble_eq_true rfl) (Nat.le_of_ble_eq_true rfl) ?_
  refine bz_ist2 dX4_z_5 (by decide) rfl ?_
  refine bz_iconst dX4_z_6 kc_iconst_0 ?_
  refine bz_ist3 dX4_z_7 (by decide) rfl ?_
  exact m_z_loop hT ha 6 0 rfl
theorem m_to_loop {base a : Nat} {t : Int64} (hb : base < 5) (ha : a < 30) {F : Nat → Int64} (hF : ∀ b, F b = σ.1 63 b - t * σ.1 58 (30 * (30 * base + a) + b)) : ∀ (m b : Nat), b + m = 30 → bz_V l ad K 73 mX4_takeOff 1 none (bz_setJ σ 63 (bz_upto (σ.1 63) F 30)) 10 [some (.ref (ad 54)), some (.int (nI base)), some (.int (nI a)), some (.long t), none, some (.int (nI b))] [] (bz_setJ σ 63 (bz_upto (σ.1 63) F b)) := by
  intro m
  induction m with
  | zero =>
    intro b hb2
    obtain rfl : b = 30 := by omega
    refine bz_iload dX4_takeOff_10 rfl ?_
    refine bz_bipush dX4_takeOff_12 kc_bipush_30 ?_
    refine bz_icmp_geN (tgt := 47) dX4_takeOff_14 rfl (by omega) (by omega) (fun _ => ?_) (fun q => absurd q (by omega))
    refine bz_vret dX4_takeOff_47 rfl rfl
  | succ m ih =>
    intro b hb2
    refine bz_iload dX4_takeOff_10 rfl ?_
    refine bz_bipush dX4_takeOff_12 kc_bipush_30 ?_
    refine bz_icmp_geN (tgt := 47) dX4_takeOff_14 rfl (by omega) (by omega) (fun q => absurd q (by omega)) (fun _ => ?_)
    refine bz_aload_n dX4_takeOff_17 rfl ?_
    refine bz_getf fl_X4_35 dX4_takeOff_18 rfl rfl (by omega) ?_
    refine bz_iload dX4_takeOff_21 rfl ?_
    refine bz_dup2 dX4_takeOff_23 rfl rfl ?_
    refine bz_laload dX4_takeOff_24 rfl (by omega) (by omega) ?_
    refine bz_topl (y := σ.1 63 b) (by rw [bz_setJ_at, bz_upto_ge (Nat.le_refl b)]) ?_
    refine bz_lload_n dX4_takeOff_25 rfl ?_
    refine bz_aload_n dX4_takeOff_26 rfl ?_
    refine bz_getf fl_X4_19 dX4_takeOff_27 rfl rfl (by omega) ?_
    refine bz_iload_n dX4_takeOff_30 rfl ?_
    refine bz_iload_n dX4_takeOff_31 rfl ?_
    refine bz_iload dX4_takeOff_32 rfl ?_
    refine bz_cS3I (z := 0) mv_X4_at ws_X4_at lk_X4_75 dX4_takeOff_34 (by exact m_at) (by omega) rfl (Nat.le_of_ble_eq_true rfl) (Nat.le_of_ble_eq_true rfl) ?_
    refine bz_laload dX4_takeOff_37 rfl (by omega) (by omega) ?_
    refine bz_topl (y := σ.1 58 (30 * (30 * base + a) + b)) (by rw [bz_setJ_ne (by omega)]) ?_
    refine bz_lmul dX4_takeOff_38 ?_
    refine bz_lsub dX4_takeOff_39 ?_
    refine bz_lastore dX4_takeOff_40 rfl (by omega) (by omega) ?_
    first | refine bz_iinc5N dX4_takeOff_41 (by decide) rfl ?_ | refine bz_iinc5 dX4_takeOff_41 rfl (by decide) rfl ?_
    refine bz_goto (tgt := 10) dX4_takeOff_44 rfl ?_
    refine bz_st (by rw [bz_upJ_set, bz_upto_s (hF b).symm]) ?_
    exact ih (b + 1) (by omega)
theorem m_takeOff {base a : Nat} {t : Int64} (hb : base < 5) (ha : a < 30) : bz_V l ad K 73 mX4_takeOff 1 none (bz_setJ (bz_upJ σ 64 a t) 63 (bz_upto (σ.1 63) (fun b => σ.1 63 b - t * σ.1 58 (30 * (30 * base + a) + b)) 30)) 0 [some (.ref (ad 54)), some (.int (nI base)), some (.int (nI a)), some (.long t), none, none] [] σ := by
  refine bz_aload_n dX4_takeOff_0 rfl ?_
  refine bz_getf fl_X4_38 dX4_takeOff_1 rfl rfl (by omega) ?_
  refine bz_iload_n dX4_takeOff_4 rfl ?_
  refine bz_lload_n dX4_takeOff_5 rfl ?_
  refine bz_lastore dX4_takeOff_6 rfl (by omega) (by omega) ?_
  refine bz_iconst dX4_takeOff_7 kc_iconst_0 ?_
  refine bz_ist5 dX4_takeOff_8 (by decide) rfl ?_
  refine bz_st (by rw [bz_setJ_id (bz_upto_0 _ (fun b => σ.1 63 b - t * σ.1 58 (30 * (30 * base + a) + b)))]) (m_to_loop (σ := bz_upJ σ 64 a t) hb ha (fun b => by rw [bz_upJ_as, bz_setJ_ne (by omega), bz_setJ_ne (by omega)]) 30 0 rfl)
theorem m_cw_loop : ∀ (m b : Nat), b + m = 30 → bz_V l ad K 73 mX4_clearWork 0 none (bz_setJ σ 66 (bz_upto (σ.1 66) (fun _ => 0) 30)) 2 [some (.ref (ad 54)), some (.int (nI b))] [] (bz_setJ σ 66 (bz_upto (σ.1 66) (fun _ => 0) b)) := by
  intro m
  induction m with
  | zero =>
    intro b hb2
    obtain rfl : b = 30 := by omega
    refine bz_iload_n dX4_clearWork_2 rfl ?_
    refine bz_bipush dX4_clearWork_3 kc_bipush_30 ?_
    refine bz_icmp_geN (tgt := 21) dX4_clearWork_5 rfl (by omega) (by omega) (fun _ => ?_) (fun q => absurd q (by omega))
    refine bz_vret dX4_clearWork_21 rfl rfl
  | succ m ih =>
    intro b hb2
    refine bz_iload_n dX4_clearWork_2 rfl ?_
    refine bz_bipush dX4_clearWork_3 kc_bipush_30 ?_
    refine bz_icmp_geN (tgt := 21) dX4_clearWork_5 rfl (by omega) (by omega) (fun q => absurd q (by omega)) (fun _ => ?_)
    refine bz_aload_n dX4_clearWork_8 rfl ?_
    refine bz_getf fl_X4_44 dX4_clearWork_9 rfl rfl (by omega) ?_
    refine bz_iload_n dX4_clearWork_12 rfl ?_
    refine bz_lconst dX4_clearWork_13 kc_lconst_0 ?_
    refine bz_lastore dX4_clearWork_14 rfl (by omega) (by omega) ?_
    first | refine bz_iinc1N dX4_clearWork_15 (by decide) rfl ?_ | refine bz_iinc1 dX4_clearWork_15 rfl (by decide) rfl ?_
    refine bz_goto (tgt := 2) dX4_clearWork_18 rfl ?_
    refine bz_st (by rw [bz_upJ_set, bz_upto_s rfl]) ?_
    exact ih (b + 1) (by omega)
theorem m_clearWork : bz_V l ad K 73 mX4_clearWork 0 none (bz_setJ σ 66 (bz_upto (σ.1 66) (fun _ => 0) 30)) 0 [some (.ref (ad 54)), none] [] σ := by
  refine bz_iconst dX4_clearWork_0 kc_iconst_0 ?_
  refine bz_ist1 dX4_clearWork_1 (by decide) rfl ?_
  refine bz_st (by rw [bz_setJ_id (bz_upto_0 _ (fun _ => 0))]) (m_cw_loop 30 0 rfl)
theorem m_am_loop {base a : Nat} {t : Int64} (hb : base < 5) (ha : a < 30) {F : Nat → Int64} (hF : ∀ b, F b = σ.1 66 b + t * σ.1 58 (30 * (30 * base + a) + b)) : ∀ (m b : Nat), b + m = 30 → bz_V l ad K 73 mX4_addMember 1 none (bz_setJ σ 66 (bz_upto (σ.1 66) F 30)) 3 [some (.ref (ad 54)), some (.int (nI base)), some (.int (nI a)), some (.long t), none, some (.int (nI b))] [] (bz_setJ σ 66 (bz_upto (σ.1 66) F b)) := by
  intro m
  induction m with
  | zero =>
    intro b hb2
    obtain rfl : b = 30 := by omega
    refine bz_iload dX4_addMember_3 rfl ?_
    refine bz_bipush dX4_addMember_5 kc_bipush_30 ?_
    refine bz_icmp_geN (tgt := 40) dX4_addMember_7 rfl (by omega) (by omega) (fun _ => ?_) (fun q => absurd q (by omega))
    refine bz_vret dX4_addMember_40 rfl rfl
  | succ m ih =>
    intro b hb2
    refine bz_iload dX4_addMember_3 rfl ?_
    refine bz_bipush dX4_addMember_5 kc_bipush_30 ?_
    refine bz_icmp_geN (tgt := 40) dX4_addMember_7 rfl (by omega) (by omega) (fun q => absurd q (by omega)) (fun _ => ?_)
    refine bz_aload_n dX4_addMember_10 rfl ?_
    refine bz_getf fl_X4_44 dX4_addMember_11 rfl rfl (by omega) ?_
    refine bz_iload dX4_addMember_14 rfl ?_
    refine bz_dup2 dX4_addMember_16 rfl rfl ?_
    refine bz_laload dX4_addMember_17 rfl (by omega) (by omega) ?_
    refine bz_topl (y := σ.1 66 b) (by rw [bz_setJ_at, bz_upto_ge (Nat.le_refl b)]) ?_
    refine bz_lload_n dX4_addMember_18 rfl ?_
    refine bz_aload_n dX4_addMember_19 rfl ?_
    refine bz_getf fl_X4_19 dX4_addMember_20 rfl rfl (by omega) ?_
    refine bz_iload_n dX4_addMember_23 rfl ?_
    refine bz_iload_n dX4_addMember_24 rfl ?_
    refine bz_iload dX4_addMember_25 rfl ?_
    refine bz_cS3I (z := 0) mv_X4_at ws_X4_at lk_X4_75 dX4_addMember_27 (by exact m_at) (by omega) rfl (Nat.le_of_ble_eq_true rfl) (Nat.le_of_ble_eq_true rfl) ?_
    refine bz_laload dX4_addMember_30 rfl (by omega) (by omega) ?_
    refine bz_topl (y := σ.1 58 (30 * (30 * base + a) + b)) (by rw [bz_setJ_ne (by omega)]) ?_
    refine bz_lmul dX4_addMember_31 ?_
    refine bz_ladd dX4_addMember_32 ?_
    refine bz_lastore dX4_addMember_33 rfl (by omega) (by omega) ?_
    first | refine bz_iinc5N dX4_addMember_34 (by decide) rfl ?_ | refine bz_iinc5 dX4_addMember_34 rfl (by decide) rfl ?_
    refine bz_goto (tgt := 3) dX4_addMember_37 rfl ?_
    refine bz_st (by rw [bz_upJ_set, bz_upto_s (hF b).symm]) ?_
    exact ih (b + 1) (by omega)
theorem m_addMember {base a : Nat} {t : Int64} (hb : base < 5) (ha : a < 30) : bz_V l ad K 73 mX4_addMember 1 none (bz_setJ σ 66 (bz_upto (σ.1 66) (fun b => σ.1 66 b + t * σ.1 58 (30 * (30 * base + a) + b)) 30)) 0 [some (.ref (ad 54)), some (.int (nI base)), some (.int (nI a)), some (.long t), none, none] [] σ := by
  refine bz_iconst dX4_addMember_0 kc_iconst_0 ?_
  refine bz_ist5 dX4_addMember_1 (by decide) rfl ?_
  refine bz_st (by rw [bz_setJ_id (bz_upto_0 _ (fun b => σ.1 66 b + t * σ.1 58 (30 * (30 * base + a) + b)))]) (m_am_loop hb ha (fun b => rfl) 30 0 rfl)
theorem m_kp_2 {to : Nat} (ht : to < 8) : ∀ (m b : Nat), b + m = 30 → bz_V l ad K 73 mX4_keep 0 (some (.int (nI 1))) (bz_setJ σ 59 (mt_up (σ.1 59) (30 * to) (σ.1 66) 30)) 45 [some (.ref (ad 54)), some (.int (nI to)), some (.int (nI b))] [] (bz_setJ σ 59 (mt_up (σ.1 59) (30 * to) (σ.1 66) b)) := by
  intro m
  induction m with
  | zero =>
    intro b hb
    obtain rfl : b = 30 := by omega
    refine bz_iload_n dX4_keep_45 rfl ?_
    refine bz_bipush dX4_keep_46 kc_bipush_30 ?_
    refine bz_icmp_geN (tgt := 74) dX4_keep_48 rfl (by omega) (by omega) (fun _ => ?_) (fun q => absurd q (by omega))
    refine bz_iconst dX4_keep_74 kc_iconst_1 ?_
    refine bz_iret dX4_keep_75 rfl rfl rfl
  | succ m ih =>
    intro b hb
    refine bz_iload_n dX4_keep_45 rfl ?_
    refine bz_bipush dX4_keep_46 kc_bipush_30 ?_
    refine bz_icmp_geN (tgt := 74) dX4_keep_48 rfl (by omega) (by omega) (fun q => absurd q (by omega)) (fun _ => ?_)
    refine bz_aload_n dX4_keep_51 rfl ?_
    refine bz_getf fl_X4_23 dX4_keep_52 rfl rfl (by omega) ?_
    refine bz_bipush dX4_keep_55 kc_bipush_30 ?_
    refine bz_iload_n dX4_keep_57 rfl ?_
    first | refine bz_imulN dX4_keep_58 ?_ | refine bz_imul dX4_keep_58 ?_
    refine bz_iload_n dX4_keep_59 rfl ?_
    first | refine bz_iaddN dX4_keep_60 ?_ | refine bz_iadd dX4_keep_60 ?_
    refine bz_aload_n dX4_keep_61 rfl ?_
    refine bz_getf fl_X4_44 dX4_keep_62 rfl rfl (by omega) ?_
    refine bz_iload_n dX4_keep_65 rfl ?_
    refine bz_laload dX4_keep_66 rfl (by omega) (by omega) ?_
    refine bz_topl (y := σ.1 66 b) (by rw [bz_setJ_ne (by omega)]) ?_
    refine bz_lastore dX4_keep_67 rfl (by omega) (by omega) ?_
    first | refine bz_iinc2N dX4_keep_68 (by decide) rfl ?_ | refine bz_iinc2 dX4_keep_68 rfl (by decide) rfl ?_
    refine bz_goto (tgt := 45) dX4_keep_71 rfl ?_
    refine bz_st (by rw [bz_upJ_set, mt_up_s rfl]) ?_
    exact ih (b + 1) (by omega)
def kp_s (σ : bz_S) (to : Nat) : bz_S := if zwA (σ.1 66) 100000 then bz_setJ σ 59 (mt_up (σ.1 59) (30 * to) (σ.1 66) 30) else σ
theorem m_kp_1 {to : Nat} (ht : to < 8) : ∀ (m b : Nat), b + m = 30 → (∀ j, j < b → zw (σ.1 66 j) 100000) → bz_V l ad K 73 mX4_keep 0 (some (.int (hz_r (σ.1 66)))) (kp_s σ to) 2 [some (.ref (ad 54)), some (.int (nI to)), some (.int (nI b))] [] σ := by
  intro m
  induction m with
  | zero =>
    intro b hb hw
    obtain rfl : b = 30 := by omega
    refine bz_iload_n dX4_keep_2 rfl ?_
    refine bz_bipush dX4_keep_3 kc_bipush_30 ?_
    refine bz_icmp_geN (tgt := 43) dX4_keep_5 rfl (by omega) (by omega) (fun _ => ?_) (fun q => absurd q (by omega))
    refine bz_iconst dX4_keep_43 kc_iconst_0 ?_
    refine bz_ist2 dX4_keep_44 (by decide) rfl ?_
    rw [hz_r, if_pos hw, kp_s, if_pos hw]
    refine bz_st (by rw [bz_setJ_id (mt_up_0 _ (30 * to) (σ.1 66))]) (m_kp_2 ht 30 0 rfl)
  | succ m ih =>
    intro b hb hw
    have bad : ¬ zw (σ.1 66 b) 100000 → bz_V l ad K 73 mX4_keep 0 (some (.int (hz_r (σ.1 66)))) (kp_s σ to) 34 [some (.ref (ad 54)), some (.int (nI to)), some (.int (nI b))] [] σ := by
      intro hz
      have hn : ¬ zwA (σ.1 66) 100000 := fun q => hz (q b (by omega))
      refine bz_bipush dX4_keep_34 kc_bipush_m4 ?_
      refine bz_iret dX4_keep_36 rfl ?_ ?_
      · rw [hz_r, if_neg hn]
      · rw [kp_s, if_neg hn]
    refine bz_iload_n dX4_keep_2 rfl ?_
    refine bz_bipush dX4_keep_3 kc_bipush_30 ?_
    refine bz_icmp_geN (tgt := 43) dX4_keep_5 rfl (by omega) (by omega) (fun q => absurd q (by omega)) (fun _ => ?_)
    refine bz_aload_n dX4_keep_8 rfl ?_
    refine bz_getf fl_X4_44 dX4_keep_9 rfl rfl (by omega) ?_
    refine bz_iload_n dX4_keep_12 rfl ?_
    refine bz_laload dX4_keep_13 rfl (by omega) (by omega) ?_
    refine bz_ldc2 kl_X4_152 dX4_keep_14 ?_
    refine bz_lcmp dX4_keep_17 ?_
    refine bz_if_gt (tgt := 34) dX4_keep_18 rfl (fun h1 => ?_) (fun h1 => ?_)
    · exact bad (fun q => q.2 (cmp_gt.mp h1))
    · refine bz_aload_n dX4_keep_21 rfl ?_
      refine bz_getf fl_X4_44 dX4_keep_22 rfl rfl (by omega) ?_
      refine bz_iload_n dX4_keep_25 rfl ?_
      refine bz_laload dX4_keep_26 rfl (by omega) (by omega) ?_
      refine bz_ldc2 kl_X4_154 dX4_keep_27 ?_
      refine bz_lcmp dX4_keep_30 ?_
      refine bz_if_ge (tgt := 37) dX4_keep_31 rfl (fun h2 => ?_) (fun h2 => ?_)
      · first | refine bz_iinc2N dX4_keep_37 (by decide) rfl ?_ | refine bz_iinc2 dX4_keep_37 rfl (by decide) rfl ?_
        refine bz_goto (tgt := 2) dX4_keep_40 rfl ?_
        refine ih (b + 1) (by omega) (fun j hj => ?_)
        rcases Nat.lt_or_eq_of_le (Nat.le_of_lt_succ hj) with q | q
        · exact hw j q
        · rw [q]; exact ⟨fun z => absurd (cmp_lt.mpr z) (Int32.not_lt.mpr h2), fun z => h1 (cmp_gt.mpr z)⟩
      · exact bad (fun q => q.1 (cmp_lt.mp (Int32.not_le.mp h2)))
theorem m_keep {to : Nat} (ht : to < 8) : bz_V l ad K 73 mX4_keep 0 (some (.int (hz_r (σ.1 66)))) (kp_s σ to) 0 [some (.ref (ad 54)), some (.int (nI to)), none] [] σ := by
  refine bz_iconst dX4_keep_0 kc_iconst_0 ?_
  refine bz_ist2 dX4_keep_1 (by decide) rfl ?_
  exact m_kp_1 ht 30 0 rfl (fun j hj => absurd hj (Nat.not_lt_zero j))
theorem m_dg_loop (hT : mz_T σ.2.1) {s : Nat} (hs : s < 8) : ∀ (m b : Nat), b + m = 30 → bz_V l ad K 73 mX4_degreeOf 0 (some (.int (dgz (fun j => σ.1 59 (30 * s + j)) 30))) σ 5 [some (.ref (ad 54)), some (.int (nI s)), some (.int (dgz (fun j => σ.1 59 (30 * s + j)) b)), some (.int (nI b))] [] σ := by
  intro m
  induction m with
  | zero =>
    intro b hb
    obtain rfl : b = 30 := by omega
    refine bz_iload_n dX4_degreeOf_5 rfl ?_
    refine bz_bipush dX4_degreeOf_6 kc_bipush_30 ?_
    refine bz_icmp_geN (tgt := 44) dX4_degreeOf_8 rfl (by omega) (by omega) (fun _ => ?_) (fun q => absurd q (by omega))
    refine bz_iload_n dX4_degreeOf_44 rfl ?_
    refine bz_iret dX4_degreeOf_45 rfl rfl rfl
  | succ m ih =>
    intro b hb
    have hih := ih (b + 1) (by omega)
    have e : dgz (fun j => σ.1 59 (30 * s + j)) (b + 1) = if σ.1 59 (30 * s + b) = 0 then dgz (fun j => σ.1 59 (30 * s + j)) b else nI (xt_deg b) := rfl
    rw [e] at hih
    refine bz_iload_n dX4_degreeOf_5 rfl ?_
    refine bz_bipush dX4_degreeOf_6 kc_bipush_30 ?_
    refine bz_icmp_geN (tgt := 44) dX4_degreeOf_8 rfl (by omega) (by omega) (fun q => absurd q (by omega)) (fun _ => ?_)
    refine bz_aload_n dX4_degreeOf_11 rfl ?_
    refine bz_getf fl_X4_23 dX4_degreeOf_12 rfl rfl (by omega) ?_
    refine bz_bipush dX4_degreeOf_15 kc_bipush_30 ?_
    refine bz_iload_n dX4_degreeOf_17 rfl ?_
    first | refine bz_imulN dX4_degreeOf_18 ?_ | refine bz_imul dX4_degreeOf_18 ?_
    refine bz_iload_n dX4_degreeOf_19 rfl ?_
    first | refine bz_iaddN dX4_degreeOf_20 ?_ | refine bz_iadd dX4_degreeOf_20 ?_
    refine bz_laload dX4_degreeOf_21 rfl (by omega) (by omega) ?_
    refine bz_lconst dX4_degreeOf_22 kc_lconst_0 ?_
    refine bz_lcmp dX4_degreeOf_23 ?_
    refine bz_if_eq (tgt := 36) dX4_degreeOf_24 rfl (fun h => ?_) (fun h => ?_)
    · rw [if_pos (bz_cmp0.mp h)] at hih
      refine bz_iload_n dX4_degreeOf_36 rfl ?_
      refine bz_ist2 dX4_degreeOf_37 (by decide) rfl ?_
      first | refine bz_iinc3N dX4_degreeOf_38 (by decide) rfl ?_ | refine bz_iinc3 dX4_degreeOf_38 rfl (by decide) rfl ?_
      refine bz_goto (tgt := 5) dX4_degreeOf_41 rfl ?_
      exact hih
    · rw [if_neg (fun q => h (bz_cmp0.mpr q))] at hih
      refine bz_aload_n dX4_degreeOf_27 rfl ?_
      refine bz_getf fl_X4_13 dX4_degreeOf_28 rfl rfl (by omega) ?_
      refine bz_iload_n dX4_degreeOf_31 rfl ?_
      refine bz_iaload dX4_degreeOf_32 rfl (by omega) (by omega) ?_
      refine bz_topi (hT.2.1 b (by omega)) ?_
      refine bz_goto (tgt := 37) dX4_degreeOf_33 rfl ?_
      refine bz_ist2 dX4_degreeOf_37 (by decide) rfl ?_
      first | refine bz_iinc3N dX4_degreeOf_38 (by decide) rfl ?_ | refine bz_iinc3 dX4_degreeOf_38 rfl (by decide) rfl ?_
      refine bz_goto (tgt := 5) dX4_degreeOf_41 rfl ?_
      exact hih
theorem m_degreeOf (hT : mz_T σ.2.1) {s : Nat} (hs : s < 8) : bz_V l ad K 73 mX4_degreeOf 0 (some (.int (dgz (fun j => σ.1 59 (30 * s + j)) 30))) σ 0 [some (.ref (ad 54)), some (.int (nI s)), none, none] [] σ := by
  refine bz_bipush dX4_degreeOf_0 kc_bipush_m6 ?_
  refine bz_ist2 dX4_degreeOf_2 (by decide) rfl ?_
  refine bz_iconst dX4_degreeOf_3 kc_iconst_0 ?_
  refine bz_ist3 dX4_degreeOf_4 (by decide) rfl ?_
  exact m_dg_loop hT hs 30 0 rfl
theorem m_gc_loop {T a b : Int64} : ∀ (m i : Nat) (x y : Int64) (x9 x10 : Option Value), i + m = 200 → gcz m x y = T → bz_V l ad K 73 mX4_common 0 (some (.long T)) σ 20 [some (.long a), none, some (.long b), none, some (.long x), none, some (.long y), none, some (.int (nI i)), x9, x10] [] σ := by
  intro m
  induction m with
  | zero =>
    intro i x y x9 x10 hi hg
    obtain rfl : i = 200 := by omega
    refine bz_iload dX4_common_20 rfl ?_
    refine bz_sipush dX4_common_22 kc_sipush_200 ?_
    refine bz_icmp_geN (tgt := 56) dX4_common_25 rfl (by omega) (by omega) (fun _ => ?_) (fun q => absurd q (by omega))
    refine bz_lload dX4_common_56 rfl ?_
    refine bz_lret dX4_common_58 rfl ?_ ?_
    · exact hg
    · rfl
  | succ m ih =>
    intro i x y x9 x10 hi hg
    rw [gcz] at hg
    refine bz_iload dX4_common_20 rfl ?_
    refine bz_sipush dX4_common_22 kc_sipush_200 ?_
    refine bz_icmp_geN (tgt := 56) dX4_common_25 rfl (by omega) (by omega) (fun q => absurd q (by omega)) (fun _ => ?_)
    refine bz_lload dX4_common_28 rfl ?_
    refine bz_lconst dX4_common_30 kc_lconst_0 ?_
    refine bz_lcmp dX4_common_31 ?_
    refine bz_if_eq (tgt := 56) dX4_common_32 rfl (fun h => ?_) (fun h => ?_)
    · refine bz_lload dX4_common_56 rfl ?_
      refine bz_lret dX4_common_58 rfl ?_ ?_
      · rw [if_pos (bz_cmp0.mp h)] at hg
        exact hg
      · rfl
    · rw [if_neg (fun q => h (bz_cmp0.mpr q))] at hg
      refine bz_lload dX4_common_35 rfl ?_
      refine bz_lload dX4_common_37 rfl ?_
      refine bz_lrem dX4_common_39 (fun q => h (bz_cmp0.mpr q)) ?_
      refine bz_lst9 dX4_common_40 (by decide) rfl ?_
      refine bz_lload dX4_common_42 rfl ?_
      refine bz_lst4 dX4_common_44 (by decide) rfl ?_
      refine bz_lload dX4_common_46 rfl ?_
      refine bz_lst6 dX4_common_48 (by decide) rfl ?_
      first | refine bz_iinc8N dX4_common_50 (by decide) rfl ?_ | refine bz_iinc8 dX4_common_50 rfl (by decide) rfl ?_
      refine bz_goto (tgt := 20) dX4_common_53 rfl ?_
      exact ih (i + 1) _ _ _ _ (by omega) hg
theorem m_common {a b : Int64} : bz_V l ad K 73 mX4_common 0 (some (.long (gcz 200 (if a < 0 then -a else a) b))) σ 0 [some (.long a), none, some (.long b), none, none, none, none, none, none, none, none] [] σ := by
  refine bz_lload_n dX4_common_0 rfl ?_
  refine bz_lconst dX4_common_1 kc_lconst_0 ?_
  refine bz_lcmp dX4_common_2 ?_
  refine bz_if_ge (tgt := 11) dX4_common_3 rfl (fun h => ?_) (fun h => ?_)
  · have h0 : ¬ a < 0 := fun q => absurd (cmp_lt.mpr q) (Int32.not_lt.mpr h)
    rw [if_neg h0]
    refine bz_lload_n dX4_common_11 rfl ?_
    refine bz_lst4 dX4_common_12 (by decide) rfl ?_
    refine bz_lload_n dX4_common_14 rfl ?_
    refine bz_lst6 dX4_common_15 (by decide) rfl ?_
    refine bz_iconst dX4_common_17 kc_iconst_0 ?_
    refine bz_ist8 dX4_common_18 (by decide) rfl ?_
    exact m_gc_loop 200 0 _ _ none none rfl rfl
  · have h0 : a < 0 := cmp_lt.mp (Int32.not_le.mp h)
    rw [if_pos h0]
    refine bz_lload_n dX4_common_6 rfl ?_
    refine bz_lneg dX4_common_7 ?_
    refine bz_goto (tgt := 12) dX4_common_8 rfl ?_
    refine bz_lst4 dX4_common_12 (by decide) rfl ?_
    refine bz_lload_n dX4_common_14 rfl ?_
    refine bz_lst6 dX4_common_15 (by decide) rfl ?_
    refine bz_iconst dX4_common_17 kc_iconst_0 ?_
    refine bz_ist8 dX4_common_18 (by decide) rfl ?_
    exact m_gc_loop 200 0 _ _ none none rfl rfl
theorem m_pw_loop {x : Int32} {e : Nat} (he : e < 2 ^ 31) : ∀ (m i : Nat), i + m = e → bz_V l ad K 73 mX4_power 0 (some (.long (zpow x.toInt64 e))) σ 5 [some (.int x), some (.int (nI e)), some (.long (zpow x.toInt64 i)), none, some (.int (nI i))] [] σ := by
  intro m
  induction m with
  | zero =>
    intro i hi
    obtain rfl : i = e := by omega
    refine bz_iload dX4_power_5 rfl ?_
    refine bz_iload_n dX4_power_7 rfl ?_
    refine bz_icmp_geN (tgt := 22) dX4_power_8 rfl (by omega) (by omega) (fun _ => ?_) (fun q => absurd q (by omega))
    refine bz_lload_n dX4_power_22 rfl ?_
    refine bz_lret dX4_power_23 rfl rfl rfl
  | succ m ih =>
    intro i hi
    refine bz_iload dX4_power_5 rfl ?_
    refine bz_iload_n dX4_power_7 rfl ?_
    refine bz_icmp_geN (tgt := 22) dX4_power_8 rfl (by omega) (by omega) (fun q => absurd q (by omega)) (fun _ => ?_)
    refine bz_lload_n dX4_power_11 rfl ?_
    refine bz_iload_n dX4_power_12 rfl ?_
    refine bz_i2l dX4_power_13 ?_
    refine bz_lmul dX4_power_14 ?_
    refine bz_lst2 dX4_power_15 (by decide) rfl ?_
    first | refine bz_iinc4N dX4_power_16 (by decide) rfl ?_ | refine bz_iinc4 dX4_power_16 rfl (by decide) rfl ?_
    refine bz_goto (tgt := 5) dX4_power_19 rfl ?_
    exact ih (i + 1) (by omega)
theorem m_power {x : Int32} {e : Nat} (he : e < 2 ^ 31) : bz_V l ad K 73 mX4_power 0 (some (.long (zpow x.toInt64 e))) σ 0 [some (.int x), some (.int (nI e)), none, none, none] [] σ := by
  refine bz_lconst dX4_power_0 kc_lconst_1 ?_
  refine bz_lst2 dX4_power_1 (by decide) rfl ?_
  refine bz_iconst dX4_power_2 kc_iconst_0 ?_
  refine bz_ist4 dX4_power_3 (by decide) rfl ?_
  exact m_pw_loop he e 0 (Nat.zero_add _)
end M3
