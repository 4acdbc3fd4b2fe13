/-! Work: stretching, plugging, values -/
theorem bz_sh14 : ∀ p, p < 7 → bz_sh (14 + p) = (1, 30, 0, []) := by decide +kernel
def wk_sI (x : Nat → Int64) (k j : Nat) : Nat → Int64 := fun a => if xt_mul a k = some j then x a else 0
def wk_st (g x : Nat → Int64) (k a : Nat) : Nat → Int64 := fun j => g j + zsum (wk_sI x k j) 0 a
def wk_str (x : Nat → Int64) (k j : Nat) : Int64 := zsum (wk_sI x k j) 0 30
theorem wk_st_0 (g x : Nat → Int64) (k : Nat) : wk_st g x k 0 = g := by
  funext j
  simp [wk_st, zsum]
theorem wk_st_n {g x : Nat → Int64} {k a : Nat} (h : xt_mul a k = none) : wk_st g x k a = wk_st g x k (a + 1) := by
  funext j
  unfold wk_st
  rw [zsum_succ, Nat.zero_add]
  have : wk_sI x k j a = 0 := by simp [wk_sI, h]
  rw [this, Int64.add_zero]
theorem wk_st_s {g x : Nat → Int64} {k a J : Nat} (hk : k < 7) (h1 : 1 ≤ k) (ha : a < 30) (h : xt_mul a k = some J) (hg : g J = 0) : vp_updL (wk_st g x k a) J (x a) = wk_st g x k (a + 1) := by
  funext j
  unfold vp_updL
  by_cases e : j = J
  · subst e
    rw [if_pos rfl]
    unfold wk_st
    rw [zsum_succ, Nat.zero_add, hg, Int64.zero_add, zsum_0 a 0 (fun i _ hi => by
      rcases xt_mul_inj hk h1 ha (show i < a by omega) with q | q
      · rw [h] at q; cases q
      · rw [h] at q; simp [wk_sI, q]), Int64.zero_add]
    simp [wk_sI, h]
  · rw [if_neg e]
    unfold wk_st
    rw [zsum_succ, Nat.zero_add]
    have : wk_sI x k j a = 0 := by
      unfold wk_sI
      rw [if_neg]
      rw [h]
      intro q
      cases q
      exact e rfl
    rw [this, Int64.add_zero]
theorem wk_t_congr {num num' : Int64} {x x' : Nat → Int64} {a j b : Nat} (h1 : num = num') (h2 : x b = x' b) : wk_t num x a j b = wk_t num' x' a j b := by
  unfold wk_t
  rw [h1, h2]
theorem wk_mul_congr {x x' y y' : Nat → Int64} (hx : ∀ j, j < 30 → x j = x' j) (hy : ∀ j, j < 30 → y j = y' j) (j : Nat) : wk_mul x y j = wk_mul x' y' j := by
  unfold wk_mul
  exact zsum_congr _ _ (fun a _ h => zsum_congr _ _ (fun b _ h2 => wk_t_congr (hx a (by omega)) (hy b (by omega))))
/-- p(c) plugged: numbers before the p(a), 720 times too great -/
def wk_pp (St : Nat → Nat → Int64) (c : Nat) : Nat → Nat → Int64
  | 0 => fun j => if j = 0 then 720 else 0
  | i + 1 => fun j => wk_mul (St (xp_part c i)) (wk_pp St c i) j / 720
theorem xt_part1 : ∀ c, c < 30 → ∀ i, i < xt_len c → 1 ≤ xp_part c i := by decide +kernel
theorem xt_len6 : ∀ a, a < 30 → xt_len a ≤ 6 := by decide +kernel
def bz_pw (σ σ2 : bz_S) : Prop := σ2.2 = σ.2 ∧ ∀ j, j ≠ 21 → j ≠ 22 → σ2.1 j = σ.1 j
theorem bz_pw_tr {a b c : bz_S} (h1 : bz_pw a b) (h2 : bz_pw b c) : bz_pw a c := ⟨h2.1.trans h1.1, fun j q1 q2 => (h2.2 j q1 q2).trans (h1.2 j q1 q2)⟩
theorem bz_pw_tr2 {a b c : bz_S} (h2 : bz_pw b c) (h1 : bz_pw a b) : bz_pw a c := bz_pw_tr h1 h2
section WM
variable {l : Launch} {ad : Nat → Nat} {K : bz_K} {σ σ' : bz_S} {k1 k2 k3 : Nat} {r : Option Value}
theorem t_stretch_loop {k : Nat} {g : Nat → Int64} (hg : ∀ j, j < 30 → g j = 0) (hk : k < 7) (hk0 : 1 ≤ k) (h1 : bz_sh k1 = (1, 30, 0, [])) (h2 : bz_sh k2 = (1, 30, 0, [])) (hk1 : k1 < 73) (hk2 : k2 < 73) (hne : k1 ≠ k2) (hT : pz_T σ.2.1) :
    ∀ (m a : Nat) (x5 : Option Value), a + m = 30 → bz_V l ad K 73 mX2_stretch 3 none (bz_setJ σ k2 (wk_st g (σ.1 k1) k 30)) 8 [some (.ref (ad 12)), some (.ref (ad k1)), some (.int (nI k)), some (.ref (ad k2)), some (.int (nI a)), x5] [] (bz_setJ σ k2 (wk_st g (σ.1 k1) k a)) := by
  intro m
  induction m with
  | zero =>
    intro a x5 ha
    obtain rfl : a = 30 := by omega
    refine bz_iload dX2_stretch_8 rfl ?_
    refine bz_bipush dX2_stretch_10 kc_bipush_30 ?_
    refine bz_icmp_geN (tgt := 49) dX2_stretch_12 rfl (by omega) (by omega) (fun _ => ?_) (fun q => absurd q (by omega))
    refine bz_vret dX2_stretch_49 rfl rfl
  | succ m ih =>
    intro a x5 ha
    have h30 : a < 30 := by omega
    refine bz_iload dX2_stretch_8 rfl ?_
    refine bz_bipush dX2_stretch_10 kc_bipush_30 ?_
    refine bz_icmp_geN (tgt := 49) dX2_stretch_12 rfl (by omega) (by omega) (fun q => absurd q (by omega)) (fun _ => ?_)
    refine bz_aload_n dX2_stretch_15 rfl ?_
    refine bz_getf fl_X2_23 dX2_stretch_16 rfl rfl (by omega) ?_
    refine bz_iload dX2_stretch_19 rfl ?_
    refine bz_iload_n dX2_stretch_21 rfl ?_
    refine bz_cVN2I (z := 3) mv_X1_multiplied mi_X1_multiplied lk_X2_96 dX2_stretch_22 (by exact t_multiplied (by omega) h30 hk (by exact hT.2.2.1)) (by omega) rfl (by omega) rfl rfl rfl (Nat.le_of_ble_eq_true rfl) (Nat.le_of_ble_eq_true rfl) ?_
    cases hm : xt_mul a k with
    | none =>
      refine bz_topi (y := -1) rfl ?_
      refine bz_ist5 dX2_stretch_25 (by decide) rfl ?_
      refine bz_iload dX2_stretch_27 rfl ?_
      refine bz_cSN1I (z := 0) mv_X3_isPartition ws_X3_isPartition lk_X2_55 dX2_stretch_29 (by exact t_isPartF (Or.inl (by decide))) (by omega) rfl (Nat.le_of_ble_eq_true rfl) (Nat.le_of_ble_eq_true rfl) ?_
      refine bz_if_eq (tgt := 43) dX2_stretch_32 rfl (fun _ => ?_) (fun q => absurd (by decide) q)
      first | refine bz_iinc4N dX2_stretch_43 (by decide) rfl ?_ | refine bz_iinc4 dX2_stretch_43 rfl (by decide) rfl ?_
      refine bz_goto (tgt := 8) dX2_stretch_46 rfl ?_
      refine bz_st (by rw [wk_st_n hm]) ?_
      exact ih (a + 1) _ (by omega)
    | some J =>
      have hJ := xt_mul_lt a h30 k hk J hm
      refine bz_topi (y := nI J) rfl ?_
      refine bz_ist5 dX2_stretch_25 (by decide) rfl ?_
      refine bz_iload dX2_stretch_27 rfl ?_
      refine bz_cSN1I (z := 0) mv_X3_isPartition ws_X3_isPartition lk_X2_55 dX2_stretch_29 (by exact t_isPart hJ) (by omega) rfl (Nat.le_of_ble_eq_true rfl) (Nat.le_of_ble_eq_true rfl) ?_
      refine bz_if_eq (tgt := 43) dX2_stretch_32 rfl (fun q => absurd q (by decide)) (fun _ => ?_)
      refine bz_aload_n dX2_stretch_35 rfl ?_
      refine bz_iload dX2_stretch_36 rfl ?_
      refine bz_aload_n dX2_stretch_38 rfl ?_
      refine bz_iload dX2_stretch_39 rfl ?_
      refine bz_laload dX2_stretch_41 h1 (by omega) h30 ?_
      refine bz_topl (y := σ.1 k1 a) (by rw [bz_setJ_ne hne]) ?_
      refine bz_lastore dX2_stretch_42 h2 (by omega) hJ ?_
      first | refine bz_iinc4N dX2_stretch_43 (by decide) rfl ?_ | refine bz_iinc4 dX2_stretch_43 rfl (by decide) rfl ?_
      refine bz_goto (tgt := 8) dX2_stretch_46 rfl ?_
      refine bz_st (by rw [bz_upJ_set, wk_st_s hk hk0 h30 hm (hg J hJ)]) ?_
      exact ih (a + 1) _ (by omega)
theorem t_stretch {k : Nat} (hk : k < 7) (hk0 : 1 ≤ k) (h1 : bz_sh k1 = (1, 30, 0, [])) (h2 : bz_sh k2 = (1, 30, 0, [])) (hk1 : k1 < 73) (hk2 : k2 < 73) (hne : k1 ≠ k2) (hT : pz_T σ.2.1) : bz_V l ad K 73 mX2_stretch 3 none (bz_setJ σ k2 (wk_st (bz_upto (σ.1 k2) (fun _ => 0) 30) (σ.1 k1) k 30)) 0 [some (.ref (ad 12)), some (.ref (ad k1)), some (.int (nI k)), some (.ref (ad k2)), none, none] [] σ := by
  refine bz_aload_n dX2_stretch_0 rfl ?_
  refine bz_lconst dX2_stretch_1 kc_lconst_0 ?_
  refine bz_cS2U (z := 2) mv_J7_fill_d0a16 ws_J7_fill_d0a16 lk_X2_27 dX2_stretch_2 (by exact t_fill h2 hk2) (by omega) rfl (Nat.le_of_ble_eq_true rfl) (Nat.le_of_ble_eq_true rfl) ?_
  refine bz_iconst dX2_stretch_5 kc_iconst_0 ?_
  refine bz_ist4 dX2_stretch_6 (by decide) rfl ?_
  have := t_stretch_loop (l := l) (ad := ad) (K := K) (σ := σ) (g := bz_upto (σ.1 k2) (fun _ => 0) 30) (fun j hj => bz_upto_lt hj) hk hk0 h1 h2 hk1 hk2 hne hT 30 0 none rfl
  rw [wk_st_0] at this
  exact this
theorem t_pp_loop {c : Nat} {St : Nat → Nat → Int64} (hc : c < 30) :
    ∀ (m i : Nat) (σ : bz_S) (x3 : Option Value), i + m = xt_len c → pz_T σ.2.1 → (∀ k, k < 7 → ∀ j, j < 30 → σ.1 (14 + k) j = St k j) → (∀ j, j < 30 → σ.1 21 j = wk_pp St c i j) →
      ∃ σ2, bz_V l ad K 73 mX2_plugPower 4 none σ2 19 [some (.ref (ad 12)), some (.int (nI c)), some (.int (nI i)), x3] [] σ ∧ bz_pw σ σ2 ∧ ∀ j, j < 30 → σ2.1 21 j = wk_pp St c (xt_len c) j := by
  have hl6 := xt_len6 c hc
  intro m
  induction m with
  | zero =>
    intro i σ x3 hi hT hSt hP
    obtain rfl : i = xt_len c := by omega
    refine ⟨σ, ?_, ⟨rfl, fun _ _ _ => rfl⟩, hP⟩
    refine bz_iload_n dX2_plugPower_19 rfl ?_
    refine bz_aload_n dX2_plugPower_20 rfl ?_
    refine bz_getf fl_X2_23 dX2_plugPower_21 rfl rfl (by omega) ?_
    refine bz_getf fl_X2_80 dX2_plugPower_24 rfl rfl (by omega) ?_
    refine bz_iload_n dX2_plugPower_27 rfl ?_
    refine bz_iaload dX2_plugPower_28 rfl (by omega) (by omega) ?_
    refine bz_topi (hT.2.1 c hc) ?_
    refine bz_icmp_geN (tgt := 91) dX2_plugPower_29 rfl (by omega) (by omega) (fun _ => ?_) (fun q => absurd q (by omega))
    refine bz_vret dX2_plugPower_91 rfl rfl
  | succ m ih =>
    intro i σ x3 hi hT hSt hP
    have h6 : i < 6 := by omega
    have hp1 := xt_part1 c hc i (by omega)
    have hp := xt_part6 c hc i h6
    have h14 := bz_sh14 (xp_part c i) (by omega)
    obtain ⟨f, hV, hf⟩ := t_multiply (l := l) (ad := ad) (K := K) (σ := σ) (k1 := 14 + xp_part c i) (k2 := 21) (k3 := 22) h14 rfl rfl (by omega) (by omega) (by omega) (by omega) (by omega) hT
    obtain ⟨σ2, hV2, hpw, hr⟩ := ih (i + 1) (bz_setJ (bz_setJ σ 22 f) 21 (fun j => if j < 30 then (bz_setJ σ 22 f).1 22 j else (bz_setJ σ 22 f).1 21 j)) (some (.int (nI (xp_part c i)))) (by omega) (by exact hT)
      (fun k hk j hj => by rw [bz_setJ_ne (by omega), bz_setJ_ne (by omega)]; exact hSt k hk j hj)
      (fun j hj => by
        rw [bz_setJ_at, if_pos hj, bz_setJ_at, hf j hj, wk_pp]
        exact congrArg (fun z => z / 720) (wk_mul_congr (hSt _ (by omega)) hP j))
    refine ⟨σ2, ?_, bz_pw_tr2 hpw ⟨rfl, fun j q1 q2 => by rw [bz_setJ_ne q1, bz_setJ_ne q2]⟩, hr⟩
    refine bz_iload_n dX2_plugPower_19 rfl ?_
    refine bz_aload_n dX2_plugPower_20 rfl ?_
    refine bz_getf fl_X2_23 dX2_plugPower_21 rfl rfl (by omega) ?_
    refine bz_getf fl_X2_80 dX2_plugPower_24 rfl rfl (by omega) ?_
    refine bz_iload_n dX2_plugPower_27 rfl ?_
    refine bz_iaload dX2_plugPower_28 rfl (by omega) (by omega) ?_
    refine bz_topi (hT.2.1 c hc) ?_
    refine bz_icmp_geN (tgt := 91) dX2_plugPower_29 rfl (by omega) (by omega) (fun q => absurd q (by omega)) (fun _ => ?_)
    refine bz_aload_n dX2_plugPower_32 rfl ?_
    refine bz_getf fl_X2_23 dX2_plugPower_33 rfl rfl (by omega) ?_
    refine bz_iload_n dX2_plugPower_36 rfl ?_
    refine bz_iload_n dX2_plugPower_37 rfl ?_
    refine bz_cVN2I (z := 0) mv_X1_partAt mi_X1_partAt lk_X2_83 dX2_plugPower_38 (by exact t_partAt hc h6) (by omega) rfl (by omega) rfl rfl rfl (Nat.le_of_ble_eq_true rfl) (Nat.le_of_ble_eq_true rfl) ?_
    refine bz_ist3 dX2_plugPower_41 (by decide) rfl ?_
    refine bz_iload_n dX2_plugPower_42 rfl ?_
    refine bz_if_le (tgt := 85) dX2_plugPower_43 rfl (fun q => absurd q (nI_nle hp1 (by omega))) (fun _ => ?_)
    refine bz_iload_n dX2_plugPower_46 rfl ?_
    refine bz_bipush dX2_plugPower_47 kc_bipush_6 ?_
    refine bz_icmp_gtN (tgt := 85) dX2_plugPower_49 rfl (by omega) (by omega) (fun q => absurd q (by omega)) (fun _ => ?_)
    refine bz_aload_n dX2_plugPower_52 rfl ?_
    refine bz_aload_n dX2_plugPower_53 rfl ?_
    refine bz_getf fl_X2_11 dX2_plugPower_54 rfl rfl (by omega) ?_
    refine bz_iload_n dX2_plugPower_57 rfl ?_
    refine bz_aaload dX2_plugPower_58 rfl (by omega) (by omega) ?_
    refine bz_aload_n dX2_plugPower_59 rfl ?_
    refine bz_getf fl_X2_16 dX2_plugPower_60 rfl rfl (by omega) ?_
    refine bz_aload_n dX2_plugPower_63 rfl ?_
    refine bz_getf fl_X2_20 dX2_plugPower_64 rfl rfl (by omega) ?_
    refine bz_cV3U (z := 1) mv_X2_multiply mi_X2_multiply lk_X2_86 dX2_plugPower_67 (by exact hV) (by omega) rfl (by omega) rfl rfl rfl (Nat.le_of_ble_eq_true rfl) (Nat.le_of_ble_eq_true rfl) ?_
    refine bz_aload_n dX2_plugPower_70 rfl ?_
    refine bz_getf fl_X2_20 dX2_plugPower_71 rfl rfl (by omega) ?_
    refine bz_iconst dX2_plugPower_74 kc_iconst_0 ?_
    refine bz_aload_n dX2_plugPower_75 rfl ?_
    refine bz_getf fl_X2_16 dX2_plugPower_76 rfl rfl (by omega) ?_
    refine bz_iconst dX2_plugPower_79 kc_iconst_0 ?_
    refine bz_bipush dX2_plugPower_80 kc_bipush_30 ?_
    refine bz_copy lk_X2_90 wac_n wac_s wi_java_lang_System (by omega) dX2_plugPower_82 rfl rfl (by omega) (by omega) (Nat.le_of_ble_eq_true rfl) ?_
    first | refine bz_iinc2N dX2_plugPower_85 (by decide) rfl ?_ | refine bz_iinc2 dX2_plugPower_85 rfl (by decide) rfl ?_
    refine bz_goto (tgt := 19) dX2_plugPower_88 rfl ?_
    exact hV2
theorem t_plugPower {c : Nat} {St : Nat → Nat → Int64} (hc : c < 30) (hT : pz_T σ.2.1) (hSt : ∀ k, k < 7 → ∀ j, j < 30 → σ.1 (14 + k) j = St k j) :
    ∃ σ2, bz_V l ad K 73 mX2_plugPower 4 none σ2 0 [some (.ref (ad 12)), some (.int (nI c)), none, none] [] σ ∧ bz_pw σ σ2 ∧ ∀ j, j < 30 → σ2.1 21 j = wk_pp St c (xt_len c) j := by
  obtain ⟨σ2, hV2, hpw, hr⟩ := t_pp_loop (l := l) (ad := ad) (K := K) (St := St) hc (xt_len c) 0 (bz_upJ (bz_setJ σ 21 (bz_upto (σ.1 21) (fun _ => 0) 30)) 21 0 720) none (Nat.zero_add _) (by exact hT)
    (fun k hk j hj => by rw [bz_upJ_set, bz_setJ_ne (by omega)]; exact hSt k hk j hj)
    (fun j hj => by
      rw [bz_upJ_set, bz_setJ_at, wk_pp]
      unfold vp_updL
      by_cases e : j = 0
      · simp [e]
      · simp [e, bz_upto, hj])
  refine ⟨σ2, ?_, bz_pw_tr2 hpw ⟨rfl, fun j q1 q2 => by rw [bz_upJ_set, bz_setJ_ne q1]⟩, hr⟩
  refine bz_aload_n dX2_plugPower_0 rfl ?_
  refine bz_getf fl_X2_16 dX2_plugPower_1 rfl rfl (by omega) ?_
  refine bz_lconst dX2_plugPower_4 kc_lconst_0 ?_
  refine bz_cS2U (z := 2) mv_J7_fill_d0a16 ws_J7_fill_d0a16 lk_X2_27 dX2_plugPower_5 (by exact t_fill rfl (by omega)) (by omega) rfl (Nat.le_of_ble_eq_true rfl) (Nat.le_of_ble_eq_true rfl) ?_
  refine bz_aload_n dX2_plugPower_8 rfl ?_
  refine bz_getf fl_X2_16 dX2_plugPower_9 rfl rfl (by omega) ?_
  refine bz_iconst dX2_plugPower_12 kc_iconst_0 ?_
  refine bz_ldc2 kl_X2_59 dX2_plugPower_13 ?_
  refine bz_lastore dX2_plugPower_16 rfl (by omega) (by omega) ?_
  refine bz_iconst dX2_plugPower_17 kc_iconst_0 ?_
  refine bz_ist2 dX2_plugPower_18 (by decide) rfl ?_
  exact hV2
end WM
