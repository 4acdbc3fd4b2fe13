/-! the reference's constructor: figure, isFalling, layPartition and the loop over all codes -/
def rc_pc (a : Nat) : Nat := xp_part a 0 * 16807 + xp_part a 1 * 2401 + xp_part a 2 * 343 + xp_part a 3 * 49 + xp_part a 4 * 7 + xp_part a 5
theorem rc_fig : ∀ a, a < 30 → ∀ i, i < 6 → rc_pc a / 7 ^ (5 - i) % 7 = xp_part a i := by decide +kernel
theorem rc_lt : ∀ a, a < 30 → rc_pc a < 117649 := by decide +kernel
theorem rc_desc : ∀ a, a < 30 → ∀ b, b < 30 → xt_deg a = xt_deg b → a < b → rc_pc b < rc_pc a := by decide +kernel
theorem rc_rng : ∀ d, d < 7 → ∀ a, a < 30 → (xt_deg a = d ↔ xp_start d ≤ a ∧ a < xp_start (d + 1)) := by decide +kernel
def rc_fb (s : Nat) : Nat → Nat → Nat → Nat → Bool
  | 0, _, _, al => al = s
  | m + 1, v, bef, al => if v % 7 < bef then false else rc_fb s m (v / 7) (v % 7) (al + v % 7)
def rc_en : Nat → Nat → Nat → List Nat
  | 0, _, s => if s = 0 then [0] else []
  | m + 1, bef, s => ((List.range 7).filter (fun f => bef ≤ f && f ≤ s)).flatMap (fun f => (rc_en m f (s - f)).map (fun v => f + 7 * v))
theorem rc_fb_le {s : Nat} : ∀ (m v bef al : Nat), rc_fb s m v bef al = true → al ≤ s
  | 0, _, _, al, h => by
    rw [rc_fb] at h
    have := of_decide_eq_true h
    omega
  | m + 1, v, bef, al, h => by
    rw [rc_fb] at h
    by_cases q : v % 7 < bef
    · rw [if_pos q] at h; cases h
    · rw [if_neg q] at h
      have := rc_fb_le m _ _ _ h
      omega
theorem rc_fb_en {s : Nat} : ∀ (m v bef al : Nat), v < 7 ^ m → rc_fb s m v bef al = true → v ∈ rc_en m bef (s - al)
  | 0, v, bef, al, hv, h => by
    rw [rc_fb] at h
    have := of_decide_eq_true h
    have hv : v = 0 := by simpa using hv
    subst hv this
    rw [rc_en, if_pos (by omega)]
    exact List.mem_singleton.mpr rfl
  | m + 1, v, bef, al, hv, h => by
    rw [rc_fb] at h
    by_cases q : v % 7 < bef
    · rw [if_pos q] at h; cases h
    · rw [if_neg q] at h
      have hle := rc_fb_le m _ _ _ h
      have hv' : v / 7 < 7 ^ m := by rw [Nat.pow_succ] at hv; omega
      have := rc_fb_en m (v / 7) (v % 7) (al + v % 7) hv' h
      rw [rc_en]
      refine List.mem_flatMap.mpr ⟨v % 7, List.mem_filter.mpr ⟨List.mem_range.mpr (Nat.mod_lt _ (by decide)), ?_⟩, List.mem_map.mpr ⟨v / 7, ?_, by omega⟩⟩
      · simp only [Bool.and_eq_true, decide_eq_true_eq]
        omega
      · rw [show s - al - v % 7 = s - (al + v % 7) by omega]
        exact this
theorem rc_en_all : ∀ d, d < 7 → (rc_en 6 0 d).all (fun c => (List.range 30).any (fun a => xt_deg a == d && rc_pc a == c)) = true := by decide +kernel
theorem rc_is : ∀ a, a < 30 → rc_fb (xt_deg a) 6 (rc_pc a) 0 0 = true := by decide +kernel
theorem rc_only {d c : Nat} (hd : d < 7) (hc : c < 117649) (h : rc_fb d 6 c 0 0 = true) : ∃ a, a < 30 ∧ xt_deg a = d ∧ rc_pc a = c := by
  have h1 := rc_fb_en 6 c 0 0 (by exact hc) h
  have h2 := List.all_eq_true.mp (rc_en_all d hd) c (by simpa using h1)
  obtain ⟨a, ha, hb⟩ := List.any_eq_true.mp h2
  refine ⟨a, List.mem_range.mp ha, ?_⟩
  simpa using hb
def rc_k (a : Nat) : Nat → Nat := nsum (fun i => mt_key (xp_part a i))
theorem rc_k_lt : ∀ a, a < 30 → rc_k a 6 < 672 := by decide +kernel
def rc_bk : Nat → Nat → Nat
  | 0, _ => 0
  | n + 1, i => if i = rc_k n 6 then n else rc_bk n i
theorem rc_bk_ok : ∀ i, i < 672 → rc_bk 30 i = mt_bk i := by decide +kernel
def rc_dz : Nat → Int32
  | 0 => -1
  | m + 1 => nI m
theorem rc_dz_s (m : Nat) : nI m + Int32.ofInt (-1) = rc_dz m := by
  cases m with
  | zero => rfl
  | succ m => exact pk_m1 m
section C4
variable {l : Launch} {ad : Nat → Nat} {K : bz_K} {n : Nat} {σ : bz_S}
theorem m_fig_loop {p : Nat} (hp : p < 6) {cd : Nat} : ∀ (m k v : Nat), k + m = 5 - p → v < 2 ^ 31 → bz_V l ad K 73 mX4_figure 0 (some (.int (nI (v / 7 ^ m % 7)))) σ 4 [some (.int (nI cd)), some (.int (nI p)), some (.int (nI v)), some (.int (nI k))] [] σ := by
  intro m
  induction m with
  | zero =>
    intro k v hk hv
    refine bz_iload_n dX4_figure_4 rfl ?_
    refine bz_iconst dX4_figure_5 kc_iconst_5 ?_
    refine bz_iload_n dX4_figure_6 rfl ?_
    refine bz_isubN dX4_figure_7 (by omega) ?_
    refine bz_icmp_geN (tgt := 22) dX4_figure_8 rfl (by omega) (by omega) (fun _ => ?_) (fun q => absurd q (by omega))
    refine bz_iload_n dX4_figure_22 rfl ?_
    refine bz_bipush dX4_figure_23 kc_bipush_7 ?_
    refine bz_iremN dX4_figure_25 (by omega) (by omega) (by omega) ?_
    refine bz_iret dX4_figure_26 rfl ?_ ?_
    · rw [Nat.pow_zero, Nat.div_one]
    · rfl
  | succ m ih =>
    intro k v hk hv
    refine bz_iload_n dX4_figure_4 rfl ?_
    refine bz_iconst dX4_figure_5 kc_iconst_5 ?_
    refine bz_iload_n dX4_figure_6 rfl ?_
    refine bz_isubN dX4_figure_7 (by omega) ?_
    refine bz_icmp_geN (tgt := 22) dX4_figure_8 rfl (by omega) (by omega) (fun q => absurd q (by omega)) (fun _ => ?_)
    refine bz_iload_n dX4_figure_11 rfl ?_
    refine bz_bipush dX4_figure_12 kc_bipush_7 ?_
    refine bz_idivN dX4_figure_14 (by omega) (by omega) (by omega) ?_
    refine bz_ist2 dX4_figure_15 (by decide) rfl ?_
    first | refine bz_iinc3N dX4_figure_16 (by decide) rfl ?_ | refine bz_iinc3 dX4_figure_16 rfl (by decide) rfl ?_
    refine bz_goto (tgt := 4) dX4_figure_19 rfl ?_
    have := ih (k + 1) (v / 7) (by omega) (by omega)
    rw [Nat.div_div_eq_div_mul, ← Nat.pow_succ'] at this
    exact this
theorem m_figure {p cd : Nat} (hp : p < 6) (hc : cd < 2 ^ 31) : bz_V l ad K 73 mX4_figure 0 (some (.int (nI (cd / 7 ^ (5 - p) % 7)))) σ 0 [some (.int (nI cd)), some (.int (nI p)), none, none] [] σ := by
  refine bz_iload_n dX4_figure_0 rfl ?_
  refine bz_ist2 dX4_figure_1 (by decide) rfl ?_
  refine bz_iconst dX4_figure_2 kc_iconst_0 ?_
  refine bz_ist3 dX4_figure_3 (by decide) rfl ?_
  exact m_fig_loop hp (5 - p) 0 cd (by omega) hc
theorem m_fal_loop {d cd : Nat} (hd : d < 7) : ∀ (m k v bef al : Nat) (x7 : Option Value), k + m = 6 → v < 2 ^ 31 → bef < 7 → al < 7 * k + 1 → bz_V l ad K 73 mX4_isFalling 0 (some (.int (bz_b (rc_fb d m v bef al)))) σ 14 [some (.int (nI cd)), some (.int (nI d)), some (.int (nI 6)), some (.int (nI al)), some (.int (nI v)), some (.int (nI bef)), some (.int (nI k)), x7] [] σ := by
  intro m
  induction m with
  | zero =>
    intro k v bef al x7 hk hv hb ha
    refine bz_iload dX4_isFalling_14 rfl ?_
    refine bz_bipush dX4_isFalling_16 kc_bipush_6 ?_
    refine bz_icmp_geN (tgt := 65) dX4_isFalling_18 rfl (by omega) (by omega) (fun _ => ?_) (fun q => absurd q (by omega))
    refine bz_iload_n dX4_isFalling_65 rfl ?_
    refine bz_iload_n dX4_isFalling_66 rfl ?_
    refine bz_icmp_neN (tgt := 74) dX4_isFalling_67 rfl (by omega) (by omega) (fun h => ?_) (fun h => ?_)
    · refine bz_iconst dX4_isFalling_74 kc_iconst_0 ?_
      refine bz_zret dX4_isFalling_75 rfl rfl ?_ rfl
      rw [rc_fb, decide_eq_false h]
      rfl
    · refine bz_iconst dX4_isFalling_70 kc_iconst_1 ?_
      refine bz_goto (tgt := 75) dX4_isFalling_71 rfl ?_
      refine bz_zret dX4_isFalling_75 rfl rfl ?_ rfl
      rw [rc_fb, decide_eq_true h]
      rfl
  | succ m ih =>
    intro k v bef al x7 hk hv hb ha
    have hm : v % 7 < 7 := Nat.mod_lt _ (by decide)
    refine bz_iload dX4_isFalling_14 rfl ?_
    refine bz_bipush dX4_isFalling_16 kc_bipush_6 ?_
    refine bz_icmp_geN (tgt := 65) dX4_isFalling_18 rfl (by omega) (by omega) (fun q => absurd q (by omega)) (fun _ => ?_)
    refine bz_iload dX4_isFalling_21 rfl ?_
    refine bz_bipush dX4_isFalling_23 kc_bipush_7 ?_
    refine bz_iremN dX4_isFalling_25 (by omega) (by omega) (by omega) ?_
    refine bz_ist7 dX4_isFalling_26 (by decide) rfl ?_
    refine bz_iload dX4_isFalling_28 rfl ?_
    refine bz_iload dX4_isFalling_30 rfl ?_
    rw [rc_fb]
    refine bz_icmp_ltN (tgt := 41) dX4_isFalling_32 rfl (by omega) (by omega) (fun h => ?_) (fun h => ?_)
    · rw [if_pos h]
      refine bz_iconst dX4_isFalling_41 kc_iconst_0 ?_
      refine bz_zret dX4_isFalling_42 rfl rfl rfl rfl
    · rw [if_neg (by omega)]
      refine bz_iload dX4_isFalling_35 rfl ?_
      refine bz_iload_n dX4_isFalling_37 rfl ?_
      refine bz_icmp_leN (tgt := 43) dX4_isFalling_38 rfl (by omega) (by omega) (fun _ => ?_) (fun q => absurd q (by omega))
      refine bz_iload dX4_isFalling_43 rfl ?_
      refine bz_ist5 dX4_isFalling_45 (by decide) rfl ?_
      refine bz_iload_n dX4_isFalling_47 rfl ?_
      refine bz_iload dX4_isFalling_48 rfl ?_
      first | refine bz_iaddN dX4_isFalling_50 ?_ | refine bz_iadd dX4_isFalling_50 ?_
      refine bz_ist3 dX4_isFalling_51 (by decide) rfl ?_
      refine bz_iload dX4_isFalling_52 rfl ?_
      refine bz_bipush dX4_isFalling_54 kc_bipush_7 ?_
      refine bz_idivN dX4_isFalling_56 (by omega) (by omega) (by omega) ?_
      refine bz_ist4 dX4_isFalling_57 (by decide) rfl ?_
      first | refine bz_iinc6N dX4_isFalling_59 (by decide) rfl ?_ | refine bz_iinc6 dX4_isFalling_59 rfl (by decide) rfl ?_
      refine bz_goto (tgt := 14) dX4_isFalling_62 rfl ?_
      exact ih (k + 1) (v / 7) (v % 7) (al + v % 7) _ (by omega) (by omega) (by omega) (by omega)
theorem m_isFalling {d cd : Nat} (hd : d < 7) (hc : cd < 2 ^ 31) : bz_V l ad K 73 mX4_isFalling 0 (some (.int (bz_b (rc_fb d 6 cd 0 0)))) σ 0 [some (.int (nI cd)), some (.int (nI d)), none, none, none, none, none, none] [] σ := by
  refine bz_bipush dX4_isFalling_0 kc_bipush_6 ?_
  refine bz_ist2 dX4_isFalling_2 (by decide) rfl ?_
  refine bz_iconst dX4_isFalling_3 kc_iconst_0 ?_
  refine bz_ist3 dX4_isFalling_4 (by decide) rfl ?_
  refine bz_iload_n dX4_isFalling_5 rfl ?_
  refine bz_ist4 dX4_isFalling_6 (by decide) rfl ?_
  refine bz_iconst dX4_isFalling_8 kc_iconst_0 ?_
  refine bz_ist5 dX4_isFalling_9 (by decide) rfl ?_
  refine bz_iconst dX4_isFalling_11 kc_iconst_0 ?_
  refine bz_ist6 dX4_isFalling_12 (by decide) rfl ?_
  exact m_fal_loop hd 6 0 cd 0 0 _ rfl hc (by omega) (by omega)
def in4 (σ0 : bz_S) (n : Nat) (σ : bz_S) : Prop := σ.1 = σ0.1 ∧ σ.2.2 = σ0.2.2 ∧ (∀ k, k ≠ 55 → k ≠ 56 → k ≠ 57 → σ.2.1 k = σ0.2.1 k) ∧ (∀ i, i < 6 * n → σ.2.1 55 i = nI (bz_parts.getD i 0)) ∧ (∀ i, i < n → σ.2.1 56 i = nI (xt_deg i)) ∧ ∀ i, i < 672 → σ.2.1 57 i = nI (rc_bk n i)
theorem rc_part {a i : Nat} (ha : a < 30) (hi : i < 6) : bz_parts.getD (6 * a + i) 0 = xp_part a i := by
  rw [xp_part, if_pos ⟨ha, hi⟩, Nat.mul_comm]
abbrev rc_F (i : Nat) : Int32 := nI (bz_parts.getD i 0)
theorem m_lay_loop {a d : Nat} (ha : a < 30) {f : Nat → Int32} {σ' : bz_S} (kk : ∀ x5, bz_V l ad K 73 mX4_layPartition 1 none σ' 57 [some (.ref (ad 54)), some (.int (nI a)), some (.int (nI (rc_pc a))), some (.int (nI d)), some (.int (nI (rc_k a 6))), x5] [] (bz_setI σ 55 (bz_upto f rc_F (6 * a + 6)))) (hf : ∀ i, i < 6 * a → f i = rc_F i) :
    ∀ (m i : Nat), i + m = 6 → bz_V l ad K 73 mX4_layPartition 1 none σ' 6 [some (.ref (ad 54)), some (.int (nI a)), some (.int (nI (rc_pc a))), some (.int (nI d)), some (.int (nI (rc_k a i))), some (.int (nI i))] [] (bz_setI σ 55 (bz_upto f rc_F (6 * a + i))) := by
  have hlt := rc_lt a ha
  intro m
  induction m with
  | zero =>
    intro i hi
    obtain rfl : i = 6 := by omega
    refine bz_iload dX4_layPartition_6 rfl ?_
    refine bz_bipush dX4_layPartition_8 kc_bipush_6 ?_
    refine bz_icmp_geN (tgt := 57) dX4_layPartition_10 rfl (by omega) (by omega) (fun _ => ?_) (fun q => absurd q (by omega))
    exact kk _
  | succ m ih =>
    intro i hi
    have hi6 : i < 6 := by omega
    have hp := @xp_partlt a i
    refine bz_iload dX4_layPartition_6 rfl ?_
    refine bz_bipush dX4_layPartition_8 kc_bipush_6 ?_
    refine bz_icmp_geN (tgt := 57) dX4_layPartition_10 rfl (by omega) (by omega) (fun q => absurd q (by omega)) (fun _ => ?_)
    refine bz_aload_n dX4_layPartition_13 rfl ?_
    refine bz_getf fl_X4_7 dX4_layPartition_14 rfl rfl (by omega) ?_
    refine bz_bipush dX4_layPartition_17 kc_bipush_6 ?_
    refine bz_iload_n dX4_layPartition_19 rfl ?_
    first | refine bz_imulN dX4_layPartition_20 ?_ | refine bz_imul dX4_layPartition_20 ?_
    refine bz_iload dX4_layPartition_21 rfl ?_
    first | refine bz_iaddN dX4_layPartition_23 ?_ | refine bz_iadd dX4_layPartition_23 ?_
    refine bz_iload_n dX4_layPartition_24 rfl ?_
    refine bz_iload dX4_layPartition_25 rfl ?_
    refine bz_cS2I (z := 2) mv_X4_figure ws_X4_figure lk_X4_83 dX4_layPartition_27 (by exact m_figure hi6 (by omega)) (by omega) rfl (Nat.le_of_ble_eq_true rfl) (Nat.le_of_ble_eq_true rfl) ?_
    refine bz_topi (y := rc_F (6 * a + i)) (by rw [rc_fig a ha i hi6, rc_F, rc_part ha hi6]) ?_
    refine bz_iastore dX4_layPartition_30 rfl (by omega) (by omega) ?_
    refine bz_st (σ2 := bz_setI σ 55 (bz_upto f rc_F (6 * a + (i + 1)))) (by rw [bz_upI_set, bz_uptoI_s (F := rc_F) rfl]; rfl) ?_
    refine bz_iload dX4_layPartition_31 rfl ?_
    refine bz_aload_n dX4_layPartition_33 rfl ?_
    refine bz_getf fl_X4_7 dX4_layPartition_34 rfl rfl (by omega) ?_
    refine bz_bipush dX4_layPartition_37 kc_bipush_6 ?_
    refine bz_iload_n dX4_layPartition_39 rfl ?_
    first | refine bz_imulN dX4_layPartition_40 ?_ | refine bz_imul dX4_layPartition_40 ?_
    refine bz_iload dX4_layPartition_41 rfl ?_
    first | refine bz_iaddN dX4_layPartition_43 ?_ | refine bz_iadd dX4_layPartition_43 ?_
    refine bz_iaload dX4_layPartition_44 rfl (by omega) (by omega) ?_
    refine bz_topi (y := nI (xp_part a i)) (by rw [bz_setI_at, bz_upto_lt (by omega), rc_F, rc_part ha hi6]) ?_
    refine bz_cS1I (z := 0) mv_X4_key ws_X4_key lk_X4_87 dX4_layPartition_45 (by exact m_key (by omega)) (by omega) rfl (Nat.le_of_ble_eq_true rfl) (Nat.le_of_ble_eq_true rfl) ?_
    first | refine bz_iaddN dX4_layPartition_48 ?_ | refine bz_iadd dX4_layPartition_48 ?_
    refine bz_ist4 dX4_layPartition_49 (by decide) rfl ?_
    first | refine bz_iinc5N dX4_layPartition_51 (by decide) rfl ?_ | refine bz_iinc5 dX4_layPartition_51 rfl (by decide) rfl ?_
    refine bz_goto (tgt := 6) dX4_layPartition_54 rfl ?_
    exact ih (i + 1) (by omega)
theorem m_layPartition {σ0 : bz_S} {a d : Nat} (ha : a < 30) (hd : xt_deg a = d) (h : in4 σ0 a σ) :
    ∃ σ', in4 σ0 (a + 1) σ' ∧ bz_V l ad K 73 mX4_layPartition 1 none σ' 0 [some (.ref (ad 54)), some (.int (nI a)), some (.int (nI (rc_pc a))), some (.int (nI d)), none, none] [] σ := by
  obtain ⟨h1, h2, h3, h4, h5, h6⟩ := h
  have hk := rc_k_lt a ha
  refine ⟨bz_upI (bz_upI (bz_setI σ 55 (bz_upto (σ.2.1 55) rc_F (6 * a + 6))) 56 a (nI d)) 57 (rc_k a 6) (nI a), ⟨h1, h2, fun k k1 k2 k3 => ?_, fun i hi => ?_, fun i hi => ?_, fun i hi => ?_⟩, ?_⟩
  · rw [← h3 k k1 k2 k3]
    simp [bz_upI, bz_setI, k1, k2, k3]
  · simp only [bz_upI, bz_setI]
    simp only [show (55 : Nat) ≠ 57 by decide, show (55 : Nat) ≠ 56 by decide, if_false, if_true]
    by_cases q : i < 6 * a + 6
    · rw [bz_upto_lt q]
    · omega
  · rw [up_at, if_neg (by omega), up_at]
    by_cases q : i = a
    · rw [if_pos ⟨rfl, q⟩, q, hd]
    · rw [if_neg (fun z => q z.2), bz_setI_ne (by decide)]
      exact h5 i (by omega)
  · rw [up_at, rc_bk]
    by_cases q : i = rc_k a 6
    · rw [if_pos ⟨rfl, q⟩, if_pos q]
    · rw [if_neg (fun z => q z.2), if_neg q, up_at, if_neg (by omega), bz_setI_ne (by decide)]
      exact h6 i hi
  · refine bz_iconst dX4_layPartition_0 kc_iconst_0 ?_
    refine bz_ist4 dX4_layPartition_1 (by decide) rfl ?_
    refine bz_iconst dX4_layPartition_3 kc_iconst_0 ?_
    refine bz_ist5 dX4_layPartition_4 (by decide) rfl ?_
    refine bz_st (σ2 := bz_setI σ 55 (bz_upto (σ.2.1 55) rc_F (6 * a + 0))) ?_ ?_
    · symm
      refine bz_setI_id (funext fun j => ?_)
      by_cases q : j < 6 * a
      · rw [bz_upto_lt (by omega), h4 j q]
      · rw [bz_upto_ge (by omega)]
    · refine m_lay_loop ha (fun x5 => ?_) h4 6 0 rfl
      refine bz_aload_n dX4_layPartition_57 rfl ?_
      refine bz_getf fl_X4_13 dX4_layPartition_58 rfl rfl (by omega) ?_
      refine bz_iload_n dX4_layPartition_61 rfl ?_
      refine bz_iload_n dX4_layPartition_62 rfl ?_
      refine bz_iastore dX4_layPartition_63 rfl (by omega) (by omega) ?_
      refine bz_aload_n dX4_layPartition_64 rfl ?_
      refine bz_getf fl_X4_16 dX4_layPartition_65 rfl rfl (by omega) ?_
      refine bz_iload dX4_layPartition_68 rfl ?_
      refine bz_iload_n dX4_layPartition_70 rfl ?_
      refine bz_iastore dX4_layPartition_71 rfl (by omega) (by omega) ?_
      refine bz_vret dX4_layPartition_72 rfl rfl
end C4
