/-! the reference: plug -/
def pw_k (b k : Nat) : Nat → Nat := nsum (fun i => mt_key (k * xp_part b i))
theorem pw_ok : ∀ b, b < 30 → ∀ k, k < 7 → k = 0 ∨ (if xt_deg b * k ≤ 6 then pw_k b k 6 < 672 ∧ xt_mul b k = some (mt_bk (pw_k b k 6)) else xt_mul b k = none) := by decide +kernel
def mp (w : Nat → Int64) (c : Nat) : Nat → Nat → Int64
  | 0 => fun j => if j = 0 then 1 else 0
  | i + 1 => fun j => mt_s (mp w c i) (wk_str w (xp_part c i)) j
def pl_r (F w : Nat → Int64) (j : Nat) : Int64 := zsum (fun c => F c * mp w c (xt_len c) j) 0 30
/-- rows 67, 69, 70 alone have changed -/
def bz_mp (σ σ2 : bz_S) : Prop := σ2.2 = σ.2 ∧ ∀ j, j ≠ 67 → j ≠ 69 → j ≠ 70 → σ2.1 j = σ.1 j
theorem bz_mp_tr {a b c : bz_S} (h2 : bz_mp b c) (h1 : bz_mp a b) : bz_mp a c := ⟨h2.1.trans h1.1, fun j q1 q2 q3 => (h2.2 j q1 q2 q3).trans (h1.2 j q1 q2 q3)⟩
theorem bz_mp_set {σ : bz_S} {k : Nat} {f : Nat → Int64} (h : k = 67 ∨ k = 69 ∨ k = 70) : bz_mp σ (bz_setJ σ k f) := ⟨rfl, fun j q1 q2 q3 => bz_setJ_ne (by omega)⟩
theorem mt_s_congr {F F' G G' : Nat → Int64} (hF : ∀ j, j < 30 → F j = F' j) (hG : ∀ j, j < 30 → G j = G' j) {c : Nat} (hc : c < 30) : mt_s F G c = mt_s F' G' c := by
  unfold mt_s
  refine zsum_congr _ _ (fun w _ hw => ?_)
  have hp := mt_pr_ok c hc w (by omega)
  rw [hF _ hp.2.2.2.2.1, hG _ hp.2.2.2.2.2]
def wi (f : Nat → Int64) (b : Int64) : Nat → Nat
  | 0 => 1
  | k + 1 => if wi f b k = 0 then 0 else if zw (f k) b then 1 else 0
theorem wi01 (f : Nat → Int64) (b : Int64) : ∀ k, wi f b k = 0 ∨ wi f b k = 1
  | 0 => Or.inr rfl
  | k + 1 => by
    unfold wi
    by_cases q : wi f b k = 0
    · rw [if_pos q]; exact Or.inl rfl
    · rw [if_neg q]
      by_cases z : zw (f k) b
      · rw [if_pos z]; exact Or.inr rfl
      · rw [if_neg z]; exact Or.inl rfl
theorem wi_iff (f : Nat → Int64) (b : Int64) : ∀ k, wi f b k = 1 ↔ ∀ j, j < k → zw (f j) b
  | 0 => ⟨fun _ j hj => absurd hj (Nat.not_lt_zero j), fun _ => rfl⟩
  | k + 1 => by
    have ih := wi_iff f b k
    unfold wi
    constructor
    · intro h j hj
      by_cases q : wi f b k = 0
      · rw [if_pos q] at h; cases h
      · rw [if_neg q] at h
        by_cases z : zw (f k) b
        · rcases Nat.lt_or_eq_of_le (Nat.le_of_lt_succ hj) with y | y
          · exact ih.mp ((wi01 f b k).resolve_left q) j y
          · rw [y]; exact z
        · rw [if_neg z] at h; cases h
    · intro h
      have h1 := ih.mpr (fun j hj => h j (by omega))
      rw [if_neg (by omega), if_pos (h k (by omega))]
theorem wi_30 (f : Nat → Int64) (b : Int64) : wi f b 30 = if zwA f b then 1 else 0 := by
  by_cases q : zwA f b
  · rw [if_pos q]; exact (wi_iff f b 30).mpr q
  · rw [if_neg q]
    rcases wi01 f b 30 with h | h
    · exact h
    · exact absurd ((wi_iff f b 30).mp h) q
section MD
variable {l : Launch} {ad : Nat → Nat} {K : bz_K} {σ σ0 σ' : bz_S} {r : Option Value}
theorem m_lpw_0 {s k : Nat} (kk : bz_V l ad K 73 mX4_layPower 1 r σ' 21 [some (.ref (ad 54)), some (.int (nI s)), some (.int (nI k)), some (.int (nI 30)), none, none] [] (bz_setJ σ 69 (bz_upto (σ.1 69) (fun _ => 0) 30))) : ∀ (m b : Nat), b + m = 30 → bz_V l ad K 73 mX4_layPower 1 r σ' 2 [some (.ref (ad 54)), some (.int (nI s)), some (.int (nI k)), some (.int (nI b)), none, none] [] (bz_setJ σ 69 (bz_upto (σ.1 69) (fun _ => 0) b)) := by
  intro m
  induction m with
  | zero =>
    intro b hb
    obtain rfl : b = 30 := by omega
    refine bz_iload_n dX4_layPower_2 rfl ?_
    refine bz_bipush dX4_layPower_3 kc_bipush_30 ?_
    refine bz_icmp_geN (tgt := 21) dX4_layPower_5 rfl (by omega) (by omega) (fun _ => ?_) (fun q => absurd q (by omega))
    exact kk
  | succ m ih =>
    intro b hb
    refine bz_iload_n dX4_layPower_2 rfl ?_
    refine bz_bipush dX4_layPower_3 kc_bipush_30 ?_
    refine bz_icmp_geN (tgt := 21) dX4_layPower_5 rfl (by omega) (by omega) (fun q => absurd q (by omega)) (fun _ => ?_)
    refine bz_aload_n dX4_layPower_8 rfl ?_
    refine bz_getf fl_X4_53 dX4_layPower_9 rfl rfl (by omega) ?_
    refine bz_iload_n dX4_layPower_12 rfl ?_
    refine bz_lconst dX4_layPower_13 kc_lconst_0 ?_
    refine bz_lastore dX4_layPower_14 rfl (by omega) (by omega) ?_
    first | refine bz_iinc3N dX4_layPower_15 (by decide) rfl ?_ | refine bz_iinc3 dX4_layPower_15 rfl (by decide) rfl ?_
    refine bz_goto (tgt := 2) dX4_layPower_18 rfl ?_
    refine bz_st (by rw [bz_upJ_set, bz_upto_s rfl]) ?_
    exact ih (b + 1) (by omega)
theorem m_lpw_in (hT : mz_T σ.2.1) {s k b : Nat} (hb : b < 30) (hk : k < 7) (kk : ∀ x5, bz_V l ad K 73 mX4_layPower 1 r σ' 78 [some (.ref (ad 54)), some (.int (nI s)), some (.int (nI k)), some (.int (nI b)), some (.int (nI (pw_k b k 6))), x5] [] σ) : ∀ (m i acc : Nat), i + m = 6 → pw_k b k i = acc → bz_V l ad K 73 mX4_layPower 1 r σ' 48 [some (.ref (ad 54)), some (.int (nI s)), some (.int (nI k)), some (.int (nI b)), some (.int (nI acc)), some (.int (nI i))] [] σ := by
  intro m
  induction m with
  | zero =>
    intro i acc hi hs
    obtain rfl : i = 6 := by omega
    obtain rfl := hs
    refine bz_iload dX4_layPower_48 rfl ?_
    refine bz_bipush dX4_layPower_50 kc_bipush_6 ?_
    refine bz_icmp_geN (tgt := 78) dX4_layPower_52 rfl (by omega) (by omega) (fun _ => ?_) (fun q => absurd q (by omega))
    exact kk _
  | succ m ih =>
    intro i acc hi hs
    have h6 : i < 6 := by omega
    have hp := xt_part6 b hb i h6
    have hkp : k * xp_part b i ≤ 36 := Nat.le_trans (Nat.mul_le_mul (show k ≤ 6 by omega) hp) (by omega)
    refine bz_iload dX4_layPower_48 rfl ?_
    refine bz_bipush dX4_layPower_50 kc_bipush_6 ?_
    refine bz_icmp_geN (tgt := 78) dX4_layPower_52 rfl (by omega) (by omega) (fun q => absurd q (by omega)) (fun _ => ?_)
    refine bz_iload dX4_layPower_55 rfl ?_
    refine bz_iload_n dX4_layPower_57 rfl ?_
    refine bz_aload_n dX4_layPower_58 rfl ?_
    refine bz_iload_n dX4_layPower_59 rfl ?_
    refine bz_iload dX4_layPower_60 rfl ?_
    refine bz_cV2I (z := 0) mv_X4_partOf mi_X4_partOf lk_X4_91 dX4_layPower_62 (by exact m_partOf (by exact hT) hb h6) (by omega) rfl (by omega) rfl rfl rfl (Nat.le_of_ble_eq_true rfl) (Nat.le_of_ble_eq_true rfl) ?_
    first | refine bz_imulN dX4_layPower_65 ?_ | refine bz_imul dX4_layPower_65 ?_
    refine bz_cS1I (z := 0) mv_X4_key ws_X4_key lk_X4_87 dX4_layPower_66 (by exact m_key (by omega)) (by omega) rfl (Nat.le_of_ble_eq_true rfl) (Nat.le_of_ble_eq_true rfl) ?_
    first | refine bz_iaddN dX4_layPower_69 ?_ | refine bz_iadd dX4_layPower_69 ?_
    refine bz_ist4 dX4_layPower_70 (by decide) rfl ?_
    first | refine bz_iinc5N dX4_layPower_72 (by decide) rfl ?_ | refine bz_iinc5 dX4_layPower_72 rfl (by decide) rfl ?_
    refine bz_goto (tgt := 48) dX4_layPower_75 rfl ?_
    exact ih (i + 1) _ (by omega) (by rw [← hs]; rfl)
theorem m_lpw_loop (hT : mz_T σ.2.1) {s k : Nat} {g : Nat → Int64} (hg : ∀ j, j < 30 → g j = 0) (hs : s < 8) (hk : k < 7) (hk1 : 1 ≤ k) : ∀ (m b : Nat) (x4 x5 : Option Value), b + m = 30 → bz_V l ad K 73 mX4_layPower 1 none (bz_setJ σ 69 (wk_st g (fun j => σ.1 59 (30 * s + j)) k 30)) 23 [some (.ref (ad 54)), some (.int (nI s)), some (.int (nI k)), some (.int (nI b)), x4, x5] [] (bz_setJ σ 69 (wk_st g (fun j => σ.1 59 (30 * s + j)) k b)) := by
  intro m
  induction m with
  | zero =>
    intro b x4 x5 hb
    obtain rfl : b = 30 := by omega
    refine bz_iload_n dX4_layPower_23 rfl ?_
    refine bz_bipush dX4_layPower_24 kc_bipush_30 ?_
    refine bz_icmp_geN (tgt := 107) dX4_layPower_26 rfl (by omega) (by omega) (fun _ => ?_) (fun q => absurd q (by omega))
    refine bz_vret dX4_layPower_107 rfl rfl
  | succ m ih =>
    intro b x4 x5 hb
    have h30 : b < 30 := by omega
    have hd6 := xt_deg6 b h30
    have hdk : xt_deg b * k ≤ 36 := Nat.le_trans (Nat.mul_le_mul hd6 (show k ≤ 6 by omega)) (by omega)
    have hok := (pw_ok b h30 k hk).resolve_left (by omega)
    refine bz_iload_n dX4_layPower_23 rfl ?_
    refine bz_bipush dX4_layPower_24 kc_bipush_30 ?_
    refine bz_icmp_geN (tgt := 107) dX4_layPower_26 rfl (by omega) (by omega) (fun q => absurd q (by omega)) (fun _ => ?_)
    refine bz_aload_n dX4_layPower_29 rfl ?_
    refine bz_getf fl_X4_13 dX4_layPower_30 rfl rfl (by omega) ?_
    refine bz_iload_n dX4_layPower_33 rfl ?_
    refine bz_iaload dX4_layPower_34 rfl (by omega) (by omega) ?_
    refine bz_topi (hT.2.1 b h30) ?_
    refine bz_iload_n dX4_layPower_35 rfl ?_
    first | refine bz_imulN dX4_layPower_36 ?_ | refine bz_imul dX4_layPower_36 ?_
    refine bz_bipush dX4_layPower_37 kc_bipush_6 ?_
    refine bz_icmp_gtN (tgt := 101) dX4_layPower_39 rfl (by omega) (by omega) (fun h => ?_) (fun h => ?_)
    · rw [if_neg (by omega)] at hok
      first | refine bz_iinc3N dX4_layPower_101 (by decide) rfl ?_ | refine bz_iinc3 dX4_layPower_101 rfl (by decide) rfl ?_
      refine bz_goto (tgt := 23) dX4_layPower_104 rfl ?_
      refine bz_st (by rw [wk_st_n hok]) ?_
      exact ih (b + 1) _ _ (by omega)
    · rw [if_pos h] at hok
      have hJ := xt_mul_lt b h30 k hk _ hok.2
      refine bz_iconst dX4_layPower_42 kc_iconst_0 ?_
      refine bz_ist4 dX4_layPower_43 (by decide) rfl ?_
      refine bz_iconst dX4_layPower_45 kc_iconst_0 ?_
      refine bz_ist5 dX4_layPower_46 (by decide) rfl ?_
      refine m_lpw_in (by exact hT) h30 hk (fun x5 => ?_) 6 0 0 rfl rfl
      refine bz_aload_n dX4_layPower_78 rfl ?_
      refine bz_getf fl_X4_53 dX4_layPower_79 rfl rfl (by omega) ?_
      refine bz_aload_n dX4_layPower_82 rfl ?_
      refine bz_getf fl_X4_16 dX4_layPower_83 rfl rfl (by omega) ?_
      refine bz_iload dX4_layPower_86 rfl ?_
      refine bz_iaload dX4_layPower_88 rfl (by omega) hok.1 ?_
      refine bz_topi (y := nI (mt_bk (pw_k b k 6))) (hT.2.2 _ hok.1) ?_
      refine bz_aload_n dX4_layPower_89 rfl ?_
      refine bz_getf fl_X4_23 dX4_layPower_90 rfl rfl (by omega) ?_
      refine bz_bipush dX4_layPower_93 kc_bipush_30 ?_
      refine bz_iload_n dX4_layPower_95 rfl ?_
      first | refine bz_imulN dX4_layPower_96 ?_ | refine bz_imul dX4_layPower_96 ?_
      refine bz_iload_n dX4_layPower_97 rfl ?_
      first | refine bz_iaddN dX4_layPower_98 ?_ | refine bz_iadd dX4_layPower_98 ?_
      refine bz_laload dX4_layPower_99 rfl (by omega) (by omega) ?_
      refine bz_topl (y := σ.1 59 (30 * s + b)) (by rw [bz_setJ_ne (by omega)]) ?_
      refine bz_lastore dX4_layPower_100 rfl (by omega) hJ ?_
      first | refine bz_iinc3N dX4_layPower_101 (by decide) rfl ?_ | refine bz_iinc3 dX4_layPower_101 rfl (by decide) rfl ?_
      refine bz_goto (tgt := 23) dX4_layPower_104 rfl ?_
      refine bz_st (by rw [bz_upJ_set, wk_st_s (x := fun j => σ.1 59 (30 * s + j)) hk hk1 h30 hok.2 (hg _ hJ)]) ?_
      exact ih (b + 1) _ _ (by omega)
theorem m_layPower (hT : mz_T σ.2.1) {s k : Nat} (hs : s < 8) (hk : k < 7) (hk1 : 1 ≤ k) : bz_V l ad K 73 mX4_layPower 1 none (bz_setJ σ 69 (wk_st (bz_upto (σ.1 69) (fun _ => 0) 30) (fun j => σ.1 59 (30 * s + j)) k 30)) 0 [some (.ref (ad 54)), some (.int (nI s)), some (.int (nI k)), none, none, none] [] σ := by
  refine bz_iconst dX4_layPower_0 kc_iconst_0 ?_
  refine bz_ist3 dX4_layPower_1 (by decide) rfl ?_
  refine bz_st (by rw [bz_setJ_id (bz_upto_0 _ (fun _ => 0))]) (m_lpw_0 ?_ 30 0 rfl)
  refine bz_iconst dX4_layPower_21 kc_iconst_0 ?_
  refine bz_ist3 dX4_layPower_22 (by decide) rfl ?_
  have := m_lpw_loop (l := l) (ad := ad) (K := K) hT (g := bz_upto (σ.1 69) (fun _ => 0) 30) (fun j hj => bz_upto_lt hj) hs hk hk1 30 0 none none rfl
  rw [wk_st_0] at this
  exact this
theorem m_pg_0 {c s : Nat} (kk : bz_V l ad K 73 mX4_layPlugged 2 r σ' 29 [some (.ref (ad 54)), some (.int (nI c)), some (.int (nI s)), some (.int (nI 30)), none] [] (bz_setJ σ 70 (bz_upto (σ.1 70) (fun j => if j = 0 then 1 else 0) 30))) : ∀ (m b : Nat), b + m = 30 → bz_V l ad K 73 mX4_layPlugged 2 r σ' 2 [some (.ref (ad 54)), some (.int (nI c)), some (.int (nI s)), some (.int (nI b)), none] [] (bz_setJ σ 70 (bz_upto (σ.1 70) (fun j => if j = 0 then 1 else 0) b)) := by
  intro m
  induction m with
  | zero =>
    intro b hb
    obtain rfl : b = 30 := by omega
    refine bz_iload_n dX4_layPlugged_2 rfl ?_
    refine bz_bipush dX4_layPlugged_3 kc_bipush_30 ?_
    refine bz_icmp_geN (tgt := 29) dX4_layPlugged_5 rfl (by omega) (by omega) (fun _ => ?_) (fun q => absurd q (by omega))
    exact kk
  | succ m ih =>
    intro b hb
    have hih := ih (b + 1) (by omega)
    refine bz_iload_n dX4_layPlugged_2 rfl ?_
    refine bz_bipush dX4_layPlugged_3 kc_bipush_30 ?_
    refine bz_icmp_geN (tgt := 29) dX4_layPlugged_5 rfl (by omega) (by omega) (fun q => absurd q (by omega)) (fun _ => ?_)
    refine bz_aload_n dX4_layPlugged_8 rfl ?_
    refine bz_getf fl_X4_56 dX4_layPlugged_9 rfl rfl (by omega) ?_
    refine bz_iload_n dX4_layPlugged_12 rfl ?_
    refine bz_iload_n dX4_layPlugged_13 rfl ?_
    refine bz_if_ne (tgt := 21) dX4_layPlugged_14 rfl (fun h => ?_) (fun h => ?_)
    · have hb0 : b ≠ 0 := fun q => h (by rw [q]; rfl)
      refine bz_lconst dX4_layPlugged_21 kc_lconst_0 ?_
      refine bz_lastore dX4_layPlugged_22 rfl (by omega) (by omega) ?_
      first | refine bz_iinc3N dX4_layPlugged_23 (by decide) rfl ?_ | refine bz_iinc3 dX4_layPlugged_23 rfl (by decide) rfl ?_
      refine bz_goto (tgt := 2) dX4_layPlugged_26 rfl ?_
      refine bz_st (by rw [bz_upJ_set, bz_upto_s (F := fun j => if j = 0 then 1 else 0) (by rw [if_neg hb0])]) ?_
      exact hih
    · have hb0 : b = 0 := (nI_eq (b := 0) (by omega) (by omega)).mp h
      refine bz_lconst dX4_layPlugged_17 kc_lconst_1 ?_
      refine bz_goto (tgt := 22) dX4_layPlugged_18 rfl ?_
      refine bz_lastore dX4_layPlugged_22 rfl (by omega) (by omega) ?_
      first | refine bz_iinc3N dX4_layPlugged_23 (by decide) rfl ?_ | refine bz_iinc3 dX4_layPlugged_23 rfl (by decide) rfl ?_
      refine bz_goto (tgt := 2) dX4_layPlugged_26 rfl ?_
      refine bz_st (by rw [bz_upJ_set, bz_upto_s (F := fun j => if j = 0 then 1 else 0) (by rw [if_pos hb0])]) ?_
      exact hih
theorem m_pg_c {c s i : Nat} (kk : bz_V l ad K 73 mX4_layPlugged 2 r σ' 100 [some (.ref (ad 54)), some (.int (nI c)), some (.int (nI s)), some (.int (nI i)), some (.int (nI 30))] [] (bz_setJ σ 70 (bz_upto (σ.1 70) (σ.1 67) 30))) : ∀ (m b : Nat), b + m = 30 → bz_V l ad K 73 mX4_layPlugged 2 r σ' 73 [some (.ref (ad 54)), some (.int (nI c)), some (.int (nI s)), some (.int (nI i)), some (.int (nI b))] [] (bz_setJ σ 70 (bz_upto (σ.1 70) (σ.1 67) b)) := by
  intro m
  induction m with
  | zero =>
    intro b hb
    obtain rfl : b = 30 := by omega
    refine bz_iload dX4_layPlugged_73 rfl ?_
    refine bz_bipush dX4_layPlugged_75 kc_bipush_30 ?_
    refine bz_icmp_geN (tgt := 100) dX4_layPlugged_77 rfl (by omega) (by omega) (fun _ => ?_) (fun q => absurd q (by omega))
    exact kk
  | succ m ih =>
    intro b hb
    refine bz_iload dX4_layPlugged_73 rfl ?_
    refine bz_bipush dX4_layPlugged_75 kc_bipush_30 ?_
    refine bz_icmp_geN (tgt := 100) dX4_layPlugged_77 rfl (by omega) (by omega) (fun q => absurd q (by omega)) (fun _ => ?_)
    refine bz_aload_n dX4_layPlugged_80 rfl ?_
    refine bz_getf fl_X4_56 dX4_layPlugged_81 rfl rfl (by omega) ?_
    refine bz_iload dX4_layPlugged_84 rfl ?_
    refine bz_aload_n dX4_layPlugged_86 rfl ?_
    refine bz_getf fl_X4_47 dX4_layPlugged_87 rfl rfl (by omega) ?_
    refine bz_iload dX4_layPlugged_90 rfl ?_
    refine bz_laload dX4_layPlugged_92 rfl (by omega) (by omega) ?_
    refine bz_topl (y := σ.1 67 b) (by rw [bz_setJ_ne (by omega)]) ?_
    refine bz_lastore dX4_layPlugged_93 rfl (by omega) (by omega) ?_
    first | refine bz_iinc4N dX4_layPlugged_94 (by decide) rfl ?_ | refine bz_iinc4 dX4_layPlugged_94 rfl (by decide) rfl ?_
    refine bz_goto (tgt := 73) dX4_layPlugged_97 rfl ?_
    refine bz_st (by rw [bz_upJ_set, bz_upto_s rfl]) ?_
    exact ih (b + 1) (by omega)
theorem m_pg_loop {c s : Nat} {w : Nat → Int64} (hc : c < 30) (hs : s < 8) : ∀ (m i : Nat) (σ : bz_S) (x4 : Option Value), i + m = xt_len c → mz_T σ.2.1 → (∀ j, j < 30 → σ.1 59 (30 * s + j) = w j) → (∀ j, j < 30 → σ.1 70 j = mp w c i j) → ∃ σ2, bz_V l ad K 73 mX4_layPlugged 2 none σ2 31 [some (.ref (ad 54)), some (.int (nI c)), some (.int (nI s)), some (.int (nI i)), x4] [] σ ∧ bz_mp σ σ2 ∧ ∀ j, j < 30 → σ2.1 70 j = mp w c (xt_len c) j := by
  have hl6 := xt_len6 c hc
  intro m
  induction m with
  | zero =>
    intro i σ x4 hi hT hw hP
    obtain rfl : i = xt_len c := by omega
    refine ⟨σ, ?_, ⟨rfl, fun _ _ _ _ => rfl⟩, hP⟩
    refine bz_iload_n dX4_layPlugged_31 rfl ?_
    refine bz_aload_n dX4_layPlugged_32 rfl ?_
    refine bz_iload_n dX4_layPlugged_33 rfl ?_
    refine bz_cV1I (z := 2) mv_X4_lengthOf mi_X4_lengthOf lk_X4_94 dX4_layPlugged_34 (by exact m_lengthOf hT hc) (by omega) rfl (by omega) rfl rfl rfl (Nat.le_of_ble_eq_true rfl) (Nat.le_of_ble_eq_true rfl) ?_
    refine bz_icmp_geN (tgt := 106) dX4_layPlugged_37 rfl (by omega) (by omega) (fun _ => ?_) (fun q => absurd q (by omega))
    refine bz_vret dX4_layPlugged_106 rfl rfl
  | succ m ih =>
    intro i σ x4 hi hT hw hP
    have hp6 := xt_part6 c hc i (by omega)
    have hp1 := xt_part1 c hc i (by omega)
    have hV1 := m_layPower (l := l) (ad := ad) (K := K) hT hs (show xp_part c i < 7 by omega) hp1
    generalize hS1 : bz_setJ σ 69 (wk_st (bz_upto (σ.1 69) (fun _ => 0) 30) (fun j => σ.1 59 (30 * s + j)) (xp_part c i) 30) = S1 at hV1
    have h69 : ∀ j, j < 30 → S1.1 69 j = wk_str w (xp_part c i) j := fun j hj => by
      rw [← hS1, bz_setJ_at]
      unfold wk_st
      rw [bz_upto_lt hj, Int64.zero_add]
      exact wk_str_congr hw (xp_part c i) j
    have m1 : bz_mp σ S1 := by rw [← hS1]; exact bz_mp_set (by omega)
    have h70 : S1.1 70 = σ.1 70 := by rw [← hS1, bz_setJ_ne (by omega)]
    have hV2 := m_multiply (l := l) (ad := ad) (K := K) (σ := S1) (kf := 70) (lf := 30) (fF := 0) (kg := 69) (lg := 30) (fG := 0) (kt := 67) (lt := 30) (fT := 0) (F := mp w c i) (G := wk_str w (xp_part c i)) (by rw [m1.1]; exact hT) rfl rfl rfl (by omega) (by omega) (by omega) (by omega) (by omega) (by omega) (fun j hj => by rw [h70, Nat.zero_add]; exact hP j hj) (fun j hj => by rw [Nat.zero_add]; exact h69 j hj) (by omega) (by omega)
    generalize hS2 : bz_setJ S1 67 (mt_up (S1.1 67) 0 (mt_s (mp w c i) (wk_str w (xp_part c i))) 30) = S2 at hV2
    have m2 : bz_mp σ S2 := by rw [← hS2]; exact bz_mp_tr (bz_mp_set (by omega)) m1
    have h67 : ∀ j, j < 30 → S2.1 67 j = mp w c (i + 1) j := fun j hj => by
      rw [← hS2, bz_setJ_at]
      have := mt_up_in (f := S1.1 67) (t := 0) (R := mt_s (mp w c i) (wk_str w (xp_part c i))) hj
      rw [Nat.zero_add] at this
      exact this
    have m3 : bz_mp σ (bz_setJ S2 70 (bz_upto (S2.1 70) (S2.1 67) 30)) := bz_mp_tr (bz_mp_set (by omega)) m2
    obtain ⟨σ2, hV, hm, hr⟩ := ih (i + 1) (bz_setJ S2 70 (bz_upto (S2.1 70) (S2.1 67) 30)) (some (.int (nI 30))) (by omega) (by rw [m3.1]; exact hT) (fun j hj => by rw [m3.2 59 (by omega) (by omega) (by omega)]; exact hw j hj) (fun j hj => by rw [bz_setJ_at, bz_upto_lt hj]; exact h67 j hj)
    refine ⟨σ2, ?_, bz_mp_tr hm m3, hr⟩
    refine bz_iload_n dX4_layPlugged_31 rfl ?_
    refine bz_aload_n dX4_layPlugged_32 rfl ?_
    refine bz_iload_n dX4_layPlugged_33 rfl ?_
    refine bz_cV1I (z := 2) mv_X4_lengthOf mi_X4_lengthOf lk_X4_94 dX4_layPlugged_34 (by exact m_lengthOf hT hc) (by omega) rfl (by omega) rfl rfl rfl (Nat.le_of_ble_eq_true rfl) (Nat.le_of_ble_eq_true rfl) ?_
    refine bz_icmp_geN (tgt := 106) dX4_layPlugged_37 rfl (by omega) (by omega) (fun q => absurd q (by omega)) (fun _ => ?_)
    refine bz_aload_n dX4_layPlugged_40 rfl ?_
    refine bz_iload_n dX4_layPlugged_41 rfl ?_
    refine bz_aload_n dX4_layPlugged_42 rfl ?_
    refine bz_iload_n dX4_layPlugged_43 rfl ?_
    refine bz_iload_n dX4_layPlugged_44 rfl ?_
    refine bz_cV2I (z := 0) mv_X4_partOf mi_X4_partOf lk_X4_91 dX4_layPlugged_45 (by exact m_partOf hT hc (by omega)) (by omega) rfl (by omega) rfl rfl rfl (Nat.le_of_ble_eq_true rfl) (Nat.le_of_ble_eq_true rfl) ?_
    refine bz_cV2U (z := 3) mv_X4_layPower mi_X4_layPower lk_X4_187 dX4_layPlugged_48 (by exact hV1) (by omega) rfl (by omega) rfl rfl rfl (Nat.le_of_ble_eq_true rfl) (Nat.le_of_ble_eq_true rfl) ?_
    refine bz_aload_n dX4_layPlugged_51 rfl ?_
    refine bz_aload_n dX4_layPlugged_52 rfl ?_
    refine bz_getf fl_X4_56 dX4_layPlugged_53 rfl rfl (by omega) ?_
    refine bz_iconst dX4_layPlugged_56 kc_iconst_0 ?_
    refine bz_aload_n dX4_layPlugged_57 rfl ?_
    refine bz_getf fl_X4_53 dX4_layPlugged_58 rfl rfl (by omega) ?_
    refine bz_iconst dX4_layPlugged_61 kc_iconst_0 ?_
    refine bz_aload_n dX4_layPlugged_62 rfl ?_
    refine bz_getf fl_X4_47 dX4_layPlugged_63 rfl rfl (by omega) ?_
    refine bz_iconst dX4_layPlugged_66 kc_iconst_0 ?_
    refine bz_cV6U (z := 10) mv_X4_multiply mi_X4_multiply lk_X4_97 dX4_layPlugged_67 (by exact hV2) (by omega) rfl (by omega) rfl rfl rfl (Nat.le_of_ble_eq_true rfl) (Nat.le_of_ble_eq_true rfl) ?_
    refine bz_iconst dX4_layPlugged_70 kc_iconst_0 ?_
    refine bz_ist4 dX4_layPlugged_71 (by decide) rfl ?_
    refine bz_st (by rw [bz_setJ_id (bz_upto_0 _ (S2.1 67))]) (m_pg_c ?_ 30 0 rfl)
    first | refine bz_iinc3N dX4_layPlugged_100 (by decide) rfl ?_ | refine bz_iinc3 dX4_layPlugged_100 rfl (by decide) rfl ?_
    refine bz_goto (tgt := 31) dX4_layPlugged_103 rfl ?_
    exact hV
theorem m_layPlugged {c s : Nat} {w : Nat → Int64} (hT : mz_T σ.2.1) (hc : c < 30) (hs : s < 8) (hw : ∀ j, j < 30 → σ.1 59 (30 * s + j) = w j) : ∃ σ2, bz_V l ad K 73 mX4_layPlugged 2 none σ2 0 [some (.ref (ad 54)), some (.int (nI c)), some (.int (nI s)), none, none] [] σ ∧ bz_mp σ σ2 ∧ ∀ j, j < 30 → σ2.1 70 j = mp w c (xt_len c) j := by
  obtain ⟨σ2, hV, hm, hr⟩ := m_pg_loop (l := l) (ad := ad) (K := K) (w := w) hc hs (xt_len c) 0 (bz_setJ σ 70 (bz_upto (σ.1 70) (fun j => if j = 0 then 1 else 0) 30)) none (Nat.zero_add _) (by exact hT) (fun j hj => by rw [bz_setJ_ne (by omega)]; exact hw j hj) (fun j hj => by rw [bz_setJ_at, bz_upto_lt hj]; rfl)
  refine ⟨σ2, ?_, bz_mp_tr hm (bz_mp_set (by omega)), hr⟩
  refine bz_iconst dX4_layPlugged_0 kc_iconst_0 ?_
  refine bz_ist3 dX4_layPlugged_1 (by decide) rfl ?_
  refine bz_st (by rw [bz_setJ_id (bz_upto_0 _ (fun j => if j = 0 then 1 else 0))]) (m_pg_0 ?_ 30 0 rfl)
  refine bz_iconst dX4_layPlugged_29 kc_iconst_0 ?_
  refine bz_ist3 dX4_layPlugged_30 (by decide) rfl ?_
  exact hV
theorem m_iw_loop {s m0 : Nat} {b : Int64} (hs : s < 8) (hb1 : (nI m0).toInt64 = b) (hb2 : (-(nI m0)).toInt64 = -b) : ∀ (m k : Nat) (x5 x6 : Option Value), k + m = 30 → bz_V l ad K 73 mX4_isWithin 0 (some (.int (nI (wi (fun j => σ.1 59 (30 * s + j)) b 30)))) σ 5 [some (.ref (ad 54)), some (.int (nI s)), some (.int (nI m0)), some (.int (nI (wi (fun j => σ.1 59 (30 * s + j)) b k))), some (.int (nI k)), x5, x6] [] σ := by
  intro m
  induction m with
  | zero =>
    intro k x5 x6 hk
    obtain rfl : k = 30 := by omega
    refine bz_iload dX4_isWithin_5 rfl ?_
    refine bz_bipush dX4_isWithin_7 kc_bipush_30 ?_
    refine bz_icmp_geN (tgt := 59) dX4_isWithin_9 rfl (by omega) (by omega) (fun _ => ?_) (fun q => absurd q (by omega))
    refine bz_iload_n dX4_isWithin_59 rfl ?_
    refine bz_zret dX4_isWithin_60 rfl ?_ ?_ ?_
    · rcases wi01 (fun j => σ.1 59 (30 * s + j)) b 30 with q | q <;> rw [q] <;> rfl
    · rfl
    · rfl
  | succ m ih =>
    intro k x5 x6 hk
    have hih := ih (k + 1) (some (.long (σ.1 59 (30 * s + k)))) none (by omega)
    have e : wi (fun j => σ.1 59 (30 * s + j)) b (k + 1) = if wi (fun j => σ.1 59 (30 * s + j)) b k = 0 then 0 else if zw (σ.1 59 (30 * s + k)) b then 1 else 0 := rfl
    rw [e] at hih
    refine bz_iload dX4_isWithin_5 rfl ?_
    refine bz_bipush dX4_isWithin_7 kc_bipush_30 ?_
    refine bz_icmp_geN (tgt := 59) dX4_isWithin_9 rfl (by omega) (by omega) (fun q => absurd q (by omega)) (fun _ => ?_)
    refine bz_aload_n dX4_isWithin_12 rfl ?_
    refine bz_getf fl_X4_23 dX4_isWithin_13 rfl rfl (by omega) ?_
    refine bz_bipush dX4_isWithin_16 kc_bipush_30 ?_
    refine bz_iload_n dX4_isWithin_18 rfl ?_
    first | refine bz_imulN dX4_isWithin_19 ?_ | refine bz_imul dX4_isWithin_19 ?_
    refine bz_iload dX4_isWithin_20 rfl ?_
    first | refine bz_iaddN dX4_isWithin_22 ?_ | refine bz_iadd dX4_isWithin_22 ?_
    refine bz_laload dX4_isWithin_23 rfl (by omega) (by omega) ?_
    refine bz_lst5 dX4_isWithin_24 (by decide) rfl ?_
    refine bz_iload_n dX4_isWithin_26 rfl ?_
    rcases wi01 (fun j => σ.1 59 (30 * s + j)) b k with q | q
    · rw [if_pos q] at hih
      rw [q]
      refine bz_if_eq (tgt := 51) dX4_isWithin_27 rfl (fun _ => ?_) (fun q => absurd (by decide) q)
      refine bz_iconst dX4_isWithin_51 kc_iconst_0 ?_
      refine bz_ist3 dX4_isWithin_52 (by decide) rfl ?_
      first | refine bz_iinc4N dX4_isWithin_53 (by decide) rfl ?_ | refine bz_iinc4 dX4_isWithin_53 rfl (by decide) rfl ?_
      refine bz_goto (tgt := 5) dX4_isWithin_56 rfl ?_
      exact hih
    · rw [if_neg (by omega)] at hih
      rw [q]
      refine bz_if_eq (tgt := 51) dX4_isWithin_27 rfl (fun q => absurd q (by decide)) (fun _ => ?_)
      refine bz_lload dX4_isWithin_30 rfl ?_
      refine bz_iload_n dX4_isWithin_32 rfl ?_
      refine bz_i2l dX4_isWithin_33 ?_
      refine bz_topl hb1 ?_
      refine bz_lcmp dX4_isWithin_34 ?_
      refine bz_if_gt (tgt := 51) dX4_isWithin_35 rfl (fun h1 => ?_) (fun h1 => ?_)
      · rw [if_neg (fun z => z.2 (cmp_gt.mp h1))] at hih
        refine bz_iconst dX4_isWithin_51 kc_iconst_0 ?_
        refine bz_ist3 dX4_isWithin_52 (by decide) rfl ?_
        first | refine bz_iinc4N dX4_isWithin_53 (by decide) rfl ?_ | refine bz_iinc4 dX4_isWithin_53 rfl (by decide) rfl ?_
        refine bz_goto (tgt := 5) dX4_isWithin_56 rfl ?_
        exact hih
      · refine bz_lload dX4_isWithin_38 rfl ?_
        refine bz_iload_n dX4_isWithin_40 rfl ?_
        refine bz_ineg dX4_isWithin_41 ?_
        refine bz_i2l dX4_isWithin_42 ?_
        refine bz_topl hb2 ?_
        refine bz_lcmp dX4_isWithin_43 ?_
        refine bz_if_lt (tgt := 51) dX4_isWithin_44 rfl (fun h2 => ?_) (fun h2 => ?_)
        · rw [if_neg (fun z => z.1 (cmp_lt.mp h2))] at hih
          refine bz_iconst dX4_isWithin_51 kc_iconst_0 ?_
          refine bz_ist3 dX4_isWithin_52 (by decide) rfl ?_
          first | refine bz_iinc4N dX4_isWithin_53 (by decide) rfl ?_ | refine bz_iinc4 dX4_isWithin_53 rfl (by decide) rfl ?_
          refine bz_goto (tgt := 5) dX4_isWithin_56 rfl ?_
          exact hih
        · rw [if_pos ⟨fun z => h2 (cmp_lt.mpr z), fun z => h1 (cmp_gt.mpr z)⟩] at hih
          refine bz_iconst dX4_isWithin_47 kc_iconst_1 ?_
          refine bz_goto (tgt := 52) dX4_isWithin_48 rfl ?_
          refine bz_ist3 dX4_isWithin_52 (by decide) rfl ?_
          first | refine bz_iinc4N dX4_isWithin_53 (by decide) rfl ?_ | refine bz_iinc4 dX4_isWithin_53 rfl (by decide) rfl ?_
          refine bz_goto (tgt := 5) dX4_isWithin_56 rfl ?_
          exact hih
theorem m_isWithin {s m0 : Nat} {b : Int64} (hs : s < 8) (hb1 : (nI m0).toInt64 = b) (hb2 : (-(nI m0)).toInt64 = -b) : bz_V l ad K 73 mX4_isWithin 0 (some (.int (nI (if zwA (fun j => σ.1 59 (30 * s + j)) b then 1 else 0)))) σ 0 [some (.ref (ad 54)), some (.int (nI s)), some (.int (nI m0)), none, none, none, none] [] σ := by
  rw [← wi_30]
  refine bz_iconst dX4_isWithin_0 kc_iconst_1 ?_
  refine bz_ist3 dX4_isWithin_1 (by decide) rfl ?_
  refine bz_iconst dX4_isWithin_2 kc_iconst_0 ?_
  refine bz_ist4 dX4_isWithin_3 (by decide) rfl ?_
  exact m_iw_loop hs hb1 hb2 30 0 none none rfl
theorem y_pl_in {to a b c : Nat} {F : Nat → Int64} (hc : c < 30) (hF : ∀ d, F d = σ.1 66 d + σ.1 64 c * σ.1 70 d)
    (kk : bz_V l ad K 73 mX4_plug 6 r σ' 169 [some (.ref (ad 54)), some (.int (nI to)), some (.int (nI a)), some (.int (nI b)), some (.int (nI c)), some (.int (nI 30))] [] (bz_setJ σ 66 (bz_upto (σ.1 66) F 30))) : ∀ (m d : Nat), d + m = 30 → bz_V l ad K 73 mX4_plug 6 r σ' 131 [some (.ref (ad 54)), some (.int (nI to)), some (.int (nI a)), some (.int (nI b)), some (.int (nI c)), some (.int (nI d))] [] (bz_setJ σ 66 (bz_upto (σ.1 66) F d)) := by
  intro m
  induction m with
  | zero =>
    intro d hd
    obtain rfl : d = 30 := by omega
    refine bz_iload dX4_plug_131 rfl ?_
    refine bz_bipush dX4_plug_133 kc_bipush_30 ?_
    refine bz_icmp_geN (tgt := 169) dX4_plug_135 rfl (by omega) (by omega) (fun _ => ?_) (fun q => absurd q (by omega))
    exact kk
  | succ m ih =>
    intro d hd
    refine bz_iload dX4_plug_131 rfl ?_
    refine bz_bipush dX4_plug_133 kc_bipush_30 ?_
    refine bz_icmp_geN (tgt := 169) dX4_plug_135 rfl (by omega) (by omega) (fun q => absurd q (by omega)) (fun _ => ?_)
    refine bz_aload_n dX4_plug_138 rfl ?_
    refine bz_getf fl_X4_44 dX4_plug_139 rfl rfl (by omega) ?_
    refine bz_iload dX4_plug_142 rfl ?_
    refine bz_dup2 dX4_plug_144 rfl rfl ?_
    refine bz_laload dX4_plug_145 rfl (by omega) (by omega) ?_
    refine bz_topl (y := σ.1 66 d) (by rw [bz_setJ_at, bz_upto_ge (Nat.le_refl d)]) ?_
    refine bz_aload_n dX4_plug_146 rfl ?_
    refine bz_getf fl_X4_38 dX4_plug_147 rfl rfl (by omega) ?_
    refine bz_iload dX4_plug_150 rfl ?_
    refine bz_laload dX4_plug_152 rfl (by omega) (by omega) ?_
    refine bz_topl (y := σ.1 64 c) (by rw [bz_setJ_ne (by omega)]) ?_
    refine bz_aload_n dX4_plug_153 rfl ?_
    refine bz_getf fl_X4_56 dX4_plug_154 rfl rfl (by omega) ?_
    refine bz_iload dX4_plug_157 rfl ?_
    refine bz_laload dX4_plug_159 rfl (by omega) (by omega) ?_
    refine bz_topl (y := σ.1 70 d) (by rw [bz_setJ_ne (by omega)]) ?_
    refine bz_lmul dX4_plug_160 ?_
    refine bz_ladd dX4_plug_161 ?_
    refine bz_lastore dX4_plug_162 rfl (by omega) (by omega) ?_
    first | refine bz_iinc5N dX4_plug_163 (by decide) rfl ?_ | refine bz_iinc5 dX4_plug_163 rfl (by decide) rfl ?_
    refine bz_goto (tgt := 131) dX4_plug_166 rfl ?_
    refine bz_st (by rw [bz_upJ_set, bz_upto_s (hF d).symm]) ?_
    exact ih (d + 1) (by omega)
theorem y_pl_d {to a b : Nat} {x5 : Option Value} (kk : bz_V l ad K 73 mX4_plug 6 r σ' 204 [some (.ref (ad 54)), some (.int (nI to)), some (.int (nI a)), some (.int (nI b)), some (.int (nI 30)), x5] [] (bz_setJ σ 66 (bz_upto (σ.1 66) (fun j => σ.1 66 j / 720) 30))) : ∀ (m c : Nat), c + m = 30 → bz_V l ad K 73 mX4_plug 6 r σ' 178 [some (.ref (ad 54)), some (.int (nI to)), some (.int (nI a)), some (.int (nI b)), some (.int (nI c)), x5] [] (bz_setJ σ 66 (bz_upto (σ.1 66) (fun j => σ.1 66 j / 720) c)) := by
  intro m
  induction m with
  | zero =>
    intro c hc
    obtain rfl : c = 30 := by omega
    refine bz_iload dX4_plug_178 rfl ?_
    refine bz_bipush dX4_plug_180 kc_bipush_30 ?_
    refine bz_icmp_geN (tgt := 204) dX4_plug_182 rfl (by omega) (by omega) (fun _ => ?_) (fun q => absurd q (by omega))
    exact kk
  | succ m ih =>
    intro c hc
    refine bz_iload dX4_plug_178 rfl ?_
    refine bz_bipush dX4_plug_180 kc_bipush_30 ?_
    refine bz_icmp_geN (tgt := 204) dX4_plug_182 rfl (by omega) (by omega) (fun q => absurd q (by omega)) (fun _ => ?_)
    refine bz_aload_n dX4_plug_185 rfl ?_
    refine bz_getf fl_X4_44 dX4_plug_186 rfl rfl (by omega) ?_
    refine bz_iload dX4_plug_189 rfl ?_
    refine bz_dup2 dX4_plug_191 rfl rfl ?_
    refine bz_laload dX4_plug_192 rfl (by omega) (by omega) ?_
    refine bz_topl (y := σ.1 66 c) (by rw [bz_setJ_at, bz_upto_ge (Nat.le_refl c)]) ?_
    refine bz_ldc2 kl_X4_132 dX4_plug_193 ?_
    refine bz_ldiv dX4_plug_196 (by decide) ?_
    refine bz_lastore dX4_plug_197 rfl (by omega) (by omega) ?_
    first | refine bz_iinc4N dX4_plug_198 (by decide) rfl ?_ | refine bz_iinc4 dX4_plug_198 rfl (by decide) rfl ?_
    refine bz_goto (tgt := 178) dX4_plug_201 rfl ?_
    refine bz_st (by rw [bz_upJ_set, bz_upto_s rfl]) ?_
    exact ih (c + 1) (by omega)
theorem y_pl_loop {to a b : Nat} {F w : Nat → Int64} {s0 : bz_S} (hT : mz_T s0.2.1) (ht : to < 8) (hb : b < 8) (hr0 : bz_mr σ s0) (hF : ∀ j, j < 30 → s0.1 64 j = F j) (hw : ∀ j, j < 30 → s0.1 59 (30 * b + j) = w j) :
    ∀ (m c : Nat) (S : bz_S) (x5 : Option Value), c + m = 30 → (S.2 = s0.2 ∧ ∀ j, j ≠ 66 → j ≠ 67 → j ≠ 69 → j ≠ 70 → S.1 j = s0.1 j) → (∀ j, j < 30 → S.1 66 j = zsum (fun c => F c * mp w c (xt_len c) j) 0 c) → ∃ σ2, bz_V l ad K 73 mX4_plug 6 (some (.int (hz_r (fun j => pl_r F w j / 720)))) σ2 102 [some (.ref (ad 54)), some (.int (nI to)), some (.int (nI a)), some (.int (nI b)), some (.int (nI c)), x5] [] S ∧ bz_mk σ σ2 to (fun j => pl_r F w j / 720) := by
  intro m
  induction m with
  | zero =>
    intro c S x5 hc hS hs
    obtain rfl : c = 30 := by omega
    have hrS : bz_mr σ S := bz_mr_tr ⟨fun j q => hS.2 j (by omega) (by omega) (by omega) (by omega), fun i _ => by rw [hS.2 58 (by omega) (by omega) (by omega) (by omega)], fun j _ _ => by rw [hS.1], fl_F_eq (hS.2 58 (by omega) (by omega) (by omega) (by omega)) (by rw [hS.1]) hr0.2.2.2⟩ hr0
    obtain ⟨σ2, hV, hk⟩ := m_keepR (l := l) (ad := ad) (K := K) (σ0 := σ) (σ := bz_setJ S 66 (bz_upto (S.1 66) (fun j => S.1 66 j / 720) 30)) (R := fun j => pl_r F w j / 720) ht (bz_mr_tr (bz_mr_set hrS.2.2.2 (by omega)) hrS) (fun j hj => by rw [bz_setJ_at, bz_upto_lt hj, hs j hj]; rfl)
    refine ⟨σ2, ?_, hk⟩
    refine bz_iload dX4_plug_102 rfl ?_
    refine bz_bipush dX4_plug_104 kc_bipush_30 ?_
    refine bz_icmp_geN (tgt := 175) dX4_plug_106 rfl (by omega) (by omega) (fun _ => ?_) (fun q => absurd q (by omega))
    refine bz_iconst dX4_plug_175 kc_iconst_0 ?_
    refine bz_ist4 dX4_plug_176 (by decide) rfl ?_
    refine bz_st (by rw [bz_setJ_id (bz_upto_0 _ (fun j => S.1 66 j / 720))]) (y_pl_d ?_ 30 0 rfl)
    refine bz_aload_n dX4_plug_204 rfl ?_
    refine bz_iload_n dX4_plug_205 rfl ?_
    refine bz_cV1I (z := 1) mv_X4_keep mi_X4_keep lk_X4_165 dX4_plug_206 (by exact hV) (by omega) rfl (by omega) rfl rfl rfl (Nat.le_of_ble_eq_true rfl) (Nat.le_of_ble_eq_true rfl) ?_
    refine bz_iret dX4_plug_209 rfl rfl rfl
  | succ m ih =>
    intro c S x5 hc hS hs
    have h30 : c < 30 := by omega
    have hTS : mz_T S.2.1 := by rw [hS.1]; exact hT
    have h64 : S.1 64 c = F c := by rw [hS.2 64 (by omega) (by omega) (by omega) (by omega)]; exact hF c h30
    by_cases h0 : F c = 0
    · obtain ⟨σ2, hV, hk⟩ := ih (c + 1) S x5 (by omega) hS (fun j hj => by rw [hs j hj, zsum_succ, Nat.zero_add, h0, Int64.zero_mul, Int64.add_zero])
      refine ⟨σ2, ?_, hk⟩
      refine bz_iload dX4_plug_102 rfl ?_
      refine bz_bipush dX4_plug_104 kc_bipush_30 ?_
      refine bz_icmp_geN (tgt := 175) dX4_plug_106 rfl (by omega) (by omega) (fun q => absurd q (by omega)) (fun _ => ?_)
      refine bz_aload_n dX4_plug_109 rfl ?_
      refine bz_getf fl_X4_38 dX4_plug_110 rfl rfl (by omega) ?_
      refine bz_iload dX4_plug_113 rfl ?_
      refine bz_laload dX4_plug_115 rfl (by omega) (by omega) ?_
      refine bz_topl (h64.trans h0) ?_
      refine bz_lconst dX4_plug_116 kc_lconst_0 ?_
      refine bz_lcmp dX4_plug_117 ?_
      refine bz_if_eq (tgt := 169) dX4_plug_118 rfl (fun _ => ?_) (fun q => absurd (bz_cmp0.mpr rfl) q)
      first | refine bz_iinc4N dX4_plug_169 (by decide) rfl ?_ | refine bz_iinc4 dX4_plug_169 rfl (by decide) rfl ?_
      refine bz_goto (tgt := 102) dX4_plug_172 rfl ?_
      exact hV
    · obtain ⟨S1, hV1, hm1, hr1⟩ := m_layPlugged (l := l) (ad := ad) (K := K) (w := w) hTS h30 hb (fun j hj => by rw [hS.2 59 (by omega) (by omega) (by omega) (by omega)]; exact hw j hj)
      have e66 : S1.1 66 = S.1 66 := hm1.2 66 (by omega) (by omega) (by omega)
      have e64 : S1.1 64 c = F c := by rw [hm1.2 64 (by omega) (by omega) (by omega)]; exact h64
      obtain ⟨σ2, hV, hk⟩ := ih (c + 1) (bz_setJ S1 66 (bz_upto (S1.1 66) (fun d => S1.1 66 d + S1.1 64 c * S1.1 70 d) 30)) (some (.int (nI 30))) (by omega) ⟨hm1.1.trans hS.1, fun j q1 q2 q3 q4 => by rw [bz_setJ_ne q1, hm1.2 j q2 q3 q4, hS.2 j q1 q2 q3 q4]⟩ (fun j hj => by
        rw [bz_setJ_at, bz_upto_lt hj, e66, hs j hj, e64, hr1 j hj, zsum_succ, Nat.zero_add])
      refine ⟨σ2, ?_, hk⟩
      refine bz_iload dX4_plug_102 rfl ?_
      refine bz_bipush dX4_plug_104 kc_bipush_30 ?_
      refine bz_icmp_geN (tgt := 175) dX4_plug_106 rfl (by omega) (by omega) (fun q => absurd q (by omega)) (fun _ => ?_)
      refine bz_aload_n dX4_plug_109 rfl ?_
      refine bz_getf fl_X4_38 dX4_plug_110 rfl rfl (by omega) ?_
      refine bz_iload dX4_plug_113 rfl ?_
      refine bz_laload dX4_plug_115 rfl (by omega) (by omega) ?_
      refine bz_topl h64 ?_
      refine bz_lconst dX4_plug_116 kc_lconst_0 ?_
      refine bz_lcmp dX4_plug_117 ?_
      refine bz_if_eq (tgt := 169) dX4_plug_118 rfl (fun q => absurd q (fun q => h0 (bz_cmp0.mp q))) (fun _ => ?_)
      refine bz_aload_n dX4_plug_121 rfl ?_
      refine bz_iload dX4_plug_122 rfl ?_
      refine bz_iload_n dX4_plug_124 rfl ?_
      refine bz_cV2U (z := 2) mv_X4_layPlugged mi_X4_layPlugged lk_X4_193 dX4_plug_125 (by exact hV1) (by omega) rfl (by omega) rfl rfl rfl (Nat.le_of_ble_eq_true rfl) (Nat.le_of_ble_eq_true rfl) ?_
      refine bz_iconst dX4_plug_128 kc_iconst_0 ?_
      refine bz_ist5 dX4_plug_129 (by decide) rfl ?_
      refine bz_st (by rw [bz_setJ_id (bz_upto_0 _ (fun d => S1.1 66 d + S1.1 64 c * S1.1 70 d))]) (y_pl_in h30 (fun d => rfl) ?_ 30 0 rfl)
      first | refine bz_iinc4N dX4_plug_169 (by decide) rfl ?_ | refine bz_iinc4 dX4_plug_169 rfl (by decide) rfl ?_
      refine bz_goto (tgt := 102) dX4_plug_172 rfl ?_
      exact hV
theorem y_plug {to a b : Nat} {F : Nat → Int64} (hT : mz_T σ.2.1) (hM : mz_M σ) (hFl : fl_F σ) (ht : to < 8) (ha : a < 8) (hb : b < 8) (hwa : zwA (fun j => σ.1 59 (30 * a + j)) 1000) (hwb : zwA (fun j => σ.1 59 (30 * b + j)) 9) (hf : ¬ (¬ dgz (fun j => σ.1 59 (30 * a + j)) 30 ≤ 0 ∧ ¬ dgz (fun j => σ.1 59 (30 * b + j)) 30 ≤ 0 ∧ ¬ dgz (fun j => σ.1 59 (30 * a + j)) 30 * dgz (fun j => σ.1 59 (30 * b + j)) 30 ≤ nI 6)) (hF : fc_from 3 (fun j => σ.1 59 (30 * a + j)) F) :
    ∃ σ2, bz_V l ad K 73 mX4_plug 6 (some (.int (hz_r (fun j => pl_r F (fun j => σ.1 59 (30 * b + j)) j / 720)))) σ2 0 [some (.ref (ad 54)), some (.int (nI to)), some (.int (nI a)), some (.int (nI b)), none, none] [] σ ∧ bz_mk σ σ2 to (fun j => pl_r F (fun j => σ.1 59 (30 * b + j)) j / 720) := by
  obtain ⟨s1, hV1, hl1, h1, _⟩ := m_layFound (l := l) (ad := ad) (K := K) (base := 3) (kf := 59) (lf := 240) (fF := 30 * a) hT hM hFl (by omega) rfl (by omega) (by omega) (by omega) (fun _ _ => rfl) hF
  have hr1 := bz_mr_lf hl1
  have hr2 : bz_mr σ (bz_setJ s1 66 (bz_upto (s1.1 66) (fun _ => 0) 30)) := bz_mr_tr (bz_mr_set hr1.2.2.2 (by omega)) hr1
  obtain ⟨σ2, hV, hk⟩ := y_pl_loop (l := l) (ad := ad) (K := K) (σ := σ) (a := a) (b := b) (F := F) (w := fun j => σ.1 59 (30 * b + j)) (s0 := bz_setJ s1 66 (bz_upto (s1.1 66) (fun _ => 0) 30)) (mz_mr hr2 hT) ht hb hr2 (fun j hj => by rw [bz_setJ_ne (by omega)]; exact h1 j hj) (fun j hj => by rw [hr2.1 59 (by omega)]) 30 0 _ none rfl ⟨rfl, fun _ _ _ _ _ => rfl⟩ (fun b hb => by rw [bz_setJ_at, bz_upto_lt hb]; rfl)
  refine ⟨σ2, ?_, hk⟩
  refine bz_iload_n dX4_plug_0 rfl ?_
  refine bz_cS1I (z := 0) mv_X4_isSlot ws_X4_isSlot lk_X4_156 dX4_plug_1 (by exact m_isSlot ht) (by omega) rfl (Nat.le_of_ble_eq_true rfl) (Nat.le_of_ble_eq_true rfl) ?_
  refine bz_if_eq (tgt := 21) dX4_plug_4 rfl (fun q => absurd q (by decide)) (fun _ => ?_)
  refine bz_iload_n dX4_plug_7 rfl ?_
  refine bz_cS1I (z := 0) mv_X4_isSlot ws_X4_isSlot lk_X4_156 dX4_plug_8 (by exact m_isSlot ha) (by omega) rfl (Nat.le_of_ble_eq_true rfl) (Nat.le_of_ble_eq_true rfl) ?_
  refine bz_if_eq (tgt := 21) dX4_plug_11 rfl (fun q => absurd q (by decide)) (fun _ => ?_)
  refine bz_iload_n dX4_plug_14 rfl ?_
  refine bz_cS1I (z := 0) mv_X4_isSlot ws_X4_isSlot lk_X4_156 dX4_plug_15 (by exact m_isSlot hb) (by omega) rfl (Nat.le_of_ble_eq_true rfl) (Nat.le_of_ble_eq_true rfl) ?_
  refine bz_if_ne (tgt := 23) dX4_plug_18 rfl (fun _ => ?_) (fun q => absurd q (by decide))
  refine bz_aload_n dX4_plug_23 rfl ?_
  refine bz_iload_n dX4_plug_24 rfl ?_
  refine bz_sipush dX4_plug_25 kc_sipush_1000 ?_
  refine bz_cV2I (z := 4) mv_X4_isWithin mi_X4_isWithin lk_X4_190 dX4_plug_28 (by exact m_isWithin ha (b := 1000) (by decide) (by decide)) (by omega) rfl (by omega) rfl rfl rfl (Nat.le_of_ble_eq_true rfl) (Nat.le_of_ble_eq_true rfl) ?_
  refine bz_topi (y := nI 1) (by rw [if_pos hwa]) ?_
  refine bz_if_eq (tgt := 44) dX4_plug_31 rfl (fun q => absurd q (by decide)) (fun _ => ?_)
  refine bz_aload_n dX4_plug_34 rfl ?_
  refine bz_iload_n dX4_plug_35 rfl ?_
  refine bz_bipush dX4_plug_36 kc_bipush_9 ?_
  refine bz_cV2I (z := 4) mv_X4_isWithin mi_X4_isWithin lk_X4_190 dX4_plug_38 (by exact m_isWithin hb (b := 9) (by decide) (by decide)) (by omega) rfl (by omega) rfl rfl rfl (Nat.le_of_ble_eq_true rfl) (Nat.le_of_ble_eq_true rfl) ?_
  refine bz_topi (y := nI 1) (by rw [if_pos hwb]) ?_
  refine bz_if_ne (tgt := 47) dX4_plug_41 rfl (fun _ => ?_) (fun q => absurd q (by decide))
  have fin : bz_V l ad K 73 mX4_plug 6 (some (.int (hz_r (fun j => pl_r F (fun j => σ.1 59 (30 * b + j)) j / 720)))) σ2 82 [some (.ref (ad 54)), some (.int (nI to)), some (.int (nI a)), some (.int (nI b)), none, none] [] σ := by
    refine bz_aload_n dX4_plug_82 rfl ?_
    refine bz_aload_n dX4_plug_83 rfl ?_
    refine bz_getf fl_X4_23 dX4_plug_84 rfl rfl (by omega) ?_
    refine bz_bipush dX4_plug_87 kc_bipush_30 ?_
    refine bz_iload_n dX4_plug_89 rfl ?_
    first | refine bz_imulN dX4_plug_90 ?_ | refine bz_imul dX4_plug_90 ?_
    refine bz_iconst dX4_plug_91 kc_iconst_3 ?_
    refine bz_cV3U (z := 1) mv_X4_layFound mi_X4_layFound lk_X4_144 dX4_plug_92 (by exact hV1) (by omega) rfl (by omega) rfl rfl rfl (Nat.le_of_ble_eq_true rfl) (Nat.le_of_ble_eq_true rfl) ?_
    refine bz_aload_n dX4_plug_95 rfl ?_
    refine bz_cV0U (z := 1) mv_X4_clearWork mi_X4_clearWork lk_X4_159 dX4_plug_96 (by exact m_clearWork) (by omega) rfl (by omega) rfl rfl rfl (Nat.le_of_ble_eq_true rfl) (Nat.le_of_ble_eq_true rfl) ?_
    refine bz_iconst dX4_plug_99 kc_iconst_0 ?_
    refine bz_ist4 dX4_plug_100 (by decide) rfl ?_
    exact hV
  refine bz_aload_n dX4_plug_47 rfl ?_
  refine bz_iload_n dX4_plug_48 rfl ?_
  refine bz_cV1I (z := 2) mv_X4_degreeOf mi_X4_degreeOf lk_X4_168 dX4_plug_49 (by exact m_degreeOf hT ha) (by omega) rfl (by omega) rfl rfl rfl (Nat.le_of_ble_eq_true rfl) (Nat.le_of_ble_eq_true rfl) ?_
  refine bz_if_le (tgt := 82) dX4_plug_52 rfl (fun q1 => ?_) (fun q1 => ?_)
  · exact fin
  · refine bz_aload_n dX4_plug_55 rfl ?_
    refine bz_iload_n dX4_plug_56 rfl ?_
    refine bz_cV1I (z := 2) mv_X4_degreeOf mi_X4_degreeOf lk_X4_168 dX4_plug_57 (by exact m_degreeOf hT hb) (by omega) rfl (by omega) rfl rfl rfl (Nat.le_of_ble_eq_true rfl) (Nat.le_of_ble_eq_true rfl) ?_
    refine bz_if_le (tgt := 82) dX4_plug_60 rfl (fun q2 => ?_) (fun q2 => ?_)
    · exact fin
    · refine bz_aload_n dX4_plug_63 rfl ?_
      refine bz_iload_n dX4_plug_64 rfl ?_
      refine bz_cV1I (z := 2) mv_X4_degreeOf mi_X4_degreeOf lk_X4_168 dX4_plug_65 (by exact m_degreeOf hT ha) (by omega) rfl (by omega) rfl rfl rfl (Nat.le_of_ble_eq_true rfl) (Nat.le_of_ble_eq_true rfl) ?_
      refine bz_aload_n dX4_plug_68 rfl ?_
      refine bz_iload_n dX4_plug_69 rfl ?_
      refine bz_cV1I (z := 2) mv_X4_degreeOf mi_X4_degreeOf lk_X4_168 dX4_plug_70 (by exact m_degreeOf hT hb) (by omega) rfl (by omega) rfl rfl rfl (Nat.le_of_ble_eq_true rfl) (Nat.le_of_ble_eq_true rfl) ?_
      refine bz_imul dX4_plug_73 ?_
      refine bz_bipush dX4_plug_74 kc_bipush_6 ?_
      refine bz_icmp_le (tgt := 82) dX4_plug_76 rfl (fun q3 => ?_) (fun q3 => ?_)
      · exact fin
      · exact absurd ⟨q1, q2, q3⟩ hf
theorem y_plug_s {to a b : Nat} (ht : to < 8) (ha : a < 8) (hb : b < 8) (hw : ¬ (zwA (fun j => σ.1 59 (30 * a + j)) 1000 ∧ zwA (fun j => σ.1 59 (30 * b + j)) 9)) :
    bz_V l ad K 73 mX4_plug 6 (some (.int (-3))) σ 0 [some (.ref (ad 54)), some (.int (nI to)), some (.int (nI a)), some (.int (nI b)), none, none] [] σ := by
  refine bz_iload_n dX4_plug_0 rfl ?_
  refine bz_cS1I (z := 0) mv_X4_isSlot ws_X4_isSlot lk_X4_156 dX4_plug_1 (by exact m_isSlot ht) (by omega) rfl (Nat.le_of_ble_eq_true rfl) (Nat.le_of_ble_eq_true rfl) ?_
  refine bz_if_eq (tgt := 21) dX4_plug_4 rfl (fun q => absurd q (by decide)) (fun _ => ?_)
  refine bz_iload_n dX4_plug_7 rfl ?_
  refine bz_cS1I (z := 0) mv_X4_isSlot ws_X4_isSlot lk_X4_156 dX4_plug_8 (by exact m_isSlot ha) (by omega) rfl (Nat.le_of_ble_eq_true rfl) (Nat.le_of_ble_eq_true rfl) ?_
  refine bz_if_eq (tgt := 21) dX4_plug_11 rfl (fun q => absurd q (by decide)) (fun _ => ?_)
  refine bz_iload_n dX4_plug_14 rfl ?_
  refine bz_cS1I (z := 0) mv_X4_isSlot ws_X4_isSlot lk_X4_156 dX4_plug_15 (by exact m_isSlot hb) (by omega) rfl (Nat.le_of_ble_eq_true rfl) (Nat.le_of_ble_eq_true rfl) ?_
  refine bz_if_ne (tgt := 23) dX4_plug_18 rfl (fun _ => ?_) (fun q => absurd q (by decide))
  refine bz_aload_n dX4_plug_23 rfl ?_
  refine bz_iload_n dX4_plug_24 rfl ?_
  refine bz_sipush dX4_plug_25 kc_sipush_1000 ?_
  refine bz_cV2I (z := 4) mv_X4_isWithin mi_X4_isWithin lk_X4_190 dX4_plug_28 (by exact m_isWithin ha (b := 1000) (by decide) (by decide)) (by omega) rfl (by omega) rfl rfl rfl (Nat.le_of_ble_eq_true rfl) (Nat.le_of_ble_eq_true rfl) ?_
  by_cases hwa : zwA (fun j => σ.1 59 (30 * a + j)) 1000
  · refine bz_topi (y := nI 1) (by rw [if_pos hwa]) ?_
    refine bz_if_eq (tgt := 44) dX4_plug_31 rfl (fun q => absurd q (by decide)) (fun _ => ?_)
    refine bz_aload_n dX4_plug_34 rfl ?_
    refine bz_iload_n dX4_plug_35 rfl ?_
    refine bz_bipush dX4_plug_36 kc_bipush_9 ?_
    refine bz_cV2I (z := 4) mv_X4_isWithin mi_X4_isWithin lk_X4_190 dX4_plug_38 (by exact m_isWithin hb (b := 9) (by decide) (by decide)) (by omega) rfl (by omega) rfl rfl rfl (Nat.le_of_ble_eq_true rfl) (Nat.le_of_ble_eq_true rfl) ?_
    refine bz_topi (y := nI 0) (by rw [if_neg (fun q => hw ⟨hwa, q⟩)]) ?_
    refine bz_if_ne (tgt := 47) dX4_plug_41 rfl (fun q => absurd (by decide) q) (fun _ => ?_)
    refine bz_bipush dX4_plug_44 kc_bipush_m3 ?_
    refine bz_iret dX4_plug_46 rfl rfl rfl
  · refine bz_topi (y := nI 0) (by rw [if_neg hwa]) ?_
    refine bz_if_eq (tgt := 44) dX4_plug_31 rfl (fun _ => ?_) (fun q => absurd (by decide) q)
    refine bz_bipush dX4_plug_44 kc_bipush_m3 ?_
    refine bz_iret dX4_plug_46 rfl rfl rfl
theorem y_plug_f {to a b : Nat} (hT : mz_T σ.2.1) (ht : to < 8) (ha : a < 8) (hb : b < 8) (hwa : zwA (fun j => σ.1 59 (30 * a + j)) 1000) (hwb : zwA (fun j => σ.1 59 (30 * b + j)) 9) (hf : ¬ dgz (fun j => σ.1 59 (30 * a + j)) 30 ≤ 0 ∧ ¬ dgz (fun j => σ.1 59 (30 * b + j)) 30 ≤ 0 ∧ ¬ dgz (fun j => σ.1 59 (30 * a + j)) 30 * dgz (fun j => σ.1 59 (30 * b + j)) 30 ≤ nI 6) :
    bz_V l ad K 73 mX4_plug 6 (some (.int (-4))) σ 0 [some (.ref (ad 54)), some (.int (nI to)), some (.int (nI a)), some (.int (nI b)), none, none] [] σ := by
  refine bz_iload_n dX4_plug_0 rfl ?_
  refine bz_cS1I (z := 0) mv_X4_isSlot ws_X4_isSlot lk_X4_156 dX4_plug_1 (by exact m_isSlot ht) (by omega) rfl (Nat.le_of_ble_eq_true rfl) (Nat.le_of_ble_eq_true rfl) ?_
  refine bz_if_eq (tgt := 21) dX4_plug_4 rfl (fun q => absurd q (by decide)) (fun _ => ?_)
  refine bz_iload_n dX4_plug_7 rfl ?_
  refine bz_cS1I (z := 0) mv_X4_isSlot ws_X4_isSlot lk_X4_156 dX4_plug_8 (by exact m_isSlot ha) (by omega) rfl (Nat.le_of_ble_eq_true rfl) (Nat.le_of_ble_eq_true rfl) ?_
  refine bz_if_eq (tgt := 21) dX4_plug_11 rfl (fun q => absurd q (by decide)) (fun _ => ?_)
  refine bz_iload_n dX4_plug_14 rfl ?_
  refine bz_cS1I (z := 0) mv_X4_isSlot ws_X4_isSlot lk_X4_156 dX4_plug_15 (by exact m_isSlot hb) (by omega) rfl (Nat.le_of_ble_eq_true rfl) (Nat.le_of_ble_eq_true rfl) ?_
  refine bz_if_ne (tgt := 23) dX4_plug_18 rfl (fun _ => ?_) (fun q => absurd q (by decide))
  refine bz_aload_n dX4_plug_23 rfl ?_
  refine bz_iload_n dX4_plug_24 rfl ?_
  refine bz_sipush dX4_plug_25 kc_sipush_1000 ?_
  refine bz_cV2I (z := 4) mv_X4_isWithin mi_X4_isWithin lk_X4_190 dX4_plug_28 (by exact m_isWithin ha (b := 1000) (by decide) (by decide)) (by omega) rfl (by omega) rfl rfl rfl (Nat.le_of_ble_eq_true rfl) (Nat.le_of_ble_eq_true rfl) ?_
  refine bz_topi (y := nI 1) (by rw [if_pos hwa]) ?_
  refine bz_if_eq (tgt := 44) dX4_plug_31 rfl (fun q => absurd q (by decide)) (fun _ => ?_)
  refine bz_aload_n dX4_plug_34 rfl ?_
  refine bz_iload_n dX4_plug_35 rfl ?_
  refine bz_bipush dX4_plug_36 kc_bipush_9 ?_
  refine bz_cV2I (z := 4) mv_X4_isWithin mi_X4_isWithin lk_X4_190 dX4_plug_38 (by exact m_isWithin hb (b := 9) (by decide) (by decide)) (by omega) rfl (by omega) rfl rfl rfl (Nat.le_of_ble_eq_true rfl) (Nat.le_of_ble_eq_true rfl) ?_
  refine bz_topi (y := nI 1) (by rw [if_pos hwb]) ?_
  refine bz_if_ne (tgt := 47) dX4_plug_41 rfl (fun _ => ?_) (fun q => absurd q (by decide))
  refine bz_aload_n dX4_plug_47 rfl ?_
  refine bz_iload_n dX4_plug_48 rfl ?_
  refine bz_cV1I (z := 2) mv_X4_degreeOf mi_X4_degreeOf lk_X4_168 dX4_plug_49 (by exact m_degreeOf hT ha) (by omega) rfl (by omega) rfl rfl rfl (Nat.le_of_ble_eq_true rfl) (Nat.le_of_ble_eq_true rfl) ?_
  refine bz_if_le (tgt := 82) dX4_plug_52 rfl (fun q => absurd q (hf.1)) (fun _ => ?_)
  refine bz_aload_n dX4_plug_55 rfl ?_
  refine bz_iload_n dX4_plug_56 rfl ?_
  refine bz_cV1I (z := 2) mv_X4_degreeOf mi_X4_degreeOf lk_X4_168 dX4_plug_57 (by exact m_degreeOf hT hb) (by omega) rfl (by omega) rfl rfl rfl (Nat.le_of_ble_eq_true rfl) (Nat.le_of_ble_eq_true rfl) ?_
  refine bz_if_le (tgt := 82) dX4_plug_60 rfl (fun q => absurd q (hf.2.1)) (fun _ => ?_)
  refine bz_aload_n dX4_plug_63 rfl ?_
  refine bz_iload_n dX4_plug_64 rfl ?_
  refine bz_cV1I (z := 2) mv_X4_degreeOf mi_X4_degreeOf lk_X4_168 dX4_plug_65 (by exact m_degreeOf hT ha) (by omega) rfl (by omega) rfl rfl rfl (Nat.le_of_ble_eq_true rfl) (Nat.le_of_ble_eq_true rfl) ?_
  refine bz_aload_n dX4_plug_68 rfl ?_
  refine bz_iload_n dX4_plug_69 rfl ?_
  refine bz_cV1I (z := 2) mv_X4_degreeOf mi_X4_degreeOf lk_X4_168 dX4_plug_70 (by exact m_degreeOf hT hb) (by omega) rfl (by omega) rfl rfl rfl (Nat.le_of_ble_eq_true rfl) (Nat.le_of_ble_eq_true rfl) ?_
  refine bz_imul dX4_plug_73 ?_
  refine bz_bipush dX4_plug_74 kc_bipush_6 ?_
  refine bz_icmp_le (tgt := 82) dX4_plug_76 rfl (fun q => absurd q (hf.2.2)) (fun _ => ?_)
  refine bz_bipush dX4_plug_79 kc_bipush_m4 ?_
  refine bz_iret dX4_plug_81 rfl rfl rfl
end MD
