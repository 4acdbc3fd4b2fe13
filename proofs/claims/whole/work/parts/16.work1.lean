/-! Work: products, divisions, scalars -/
theorem zsum_succ (f : Nat → Int64) : ∀ (m a : Nat), zsum f a (m + 1) = zsum f a m + f (a + m)
  | 0, a => by simp [zsum]
  | m + 1, a => by
    rw [zsum, zsum_succ f m (a + 1), zsum, Int64.add_assoc]
    rw [show a + 1 + m = a + (m + 1) by omega]
theorem zsum_0 {f : Nat → Int64} : ∀ (m a : Nat), (∀ i, a ≤ i → i < a + m → f i = 0) → zsum f a m = 0
  | 0, _, _ => rfl
  | m + 1, a, h => by rw [zsum, h a (Nat.le_refl a) (by omega), zsum_0 m (a + 1) (fun i h1 h2 => h i (by omega) (by omega)), Int64.add_zero]
theorem zsum_ext {f : Nat → Int64} {a e : Nat} : ∀ (m : Nat), (∀ i, a + e ≤ i → i < a + e + m → f i = 0) → zsum f a (e + m) = zsum f a e
  | 0, _ => rfl
  | m + 1, h => by rw [← Nat.add_assoc, zsum_succ, zsum_ext m (fun i h1 h2 => h i h1 (by omega)), h (a + (e + m)) (by omega) (by omega), Int64.add_zero]
def xt_jn (a b : Nat) : Nat := (xt_join (a * 30 + b)).toNat
theorem xt_jn_ok : ∀ a, a < 30 → ∀ b, b < 30 → b < xp_start (6 - xt_deg a + 1) → Int32.ofInt (xt_join (a * 30 + b)) = nI (xt_jn a b) ∧ xt_join (a * 30 + b) = (xt_jn a b : Int) ∧ xt_jn a b < 30 := by decide +kernel
theorem xt_jn_no : ∀ a, a < 30 → ∀ b, b < 30 → xp_start (6 - xt_deg a + 1) ≤ b → xt_join (a * 30 + b) = -1 := by decide +kernel
/-- number times other[b], where a and b joined are j -/
def wk_t (num : Int64) (x : Nat → Int64) (a j : Nat) : Nat → Int64 := fun b => if xt_join (a * 30 + b) = (j : Int) then num * x b else 0
def wk_aj (f : Nat → Int64) (num : Int64) (x : Nat → Int64) (a b : Nat) : Nat → Int64 := fun j => f j + zsum (wk_t num x a j) 0 b
theorem wk_aj_0 (f : Nat → Int64) (num : Int64) (x : Nat → Int64) (a : Nat) : wk_aj f num x a 0 = f := by
  funext j
  simp [wk_aj, zsum]
theorem wk_aj_s {f : Nat → Int64} {num : Int64} {x : Nat → Int64} {a b J : Nat} (h : xt_join (a * 30 + b) = (J : Int)) : vp_updL (wk_aj f num x a b) J (wk_aj f num x a b J + num * x b) = wk_aj f num x a (b + 1) := by
  funext j
  unfold vp_updL
  by_cases e : j = J
  · subst e
    rw [if_pos rfl]
    unfold wk_aj
    rw [zsum_succ, Int64.add_assoc, Nat.zero_add]
    unfold wk_t
    rw [if_pos h]
  · rw [if_neg e]
    unfold wk_aj
    rw [zsum_succ, Nat.zero_add]
    have : wk_t num x a j b = 0 := by
      unfold wk_t
      rw [if_neg]
      rw [h]
      omega
    rw [this, Int64.add_zero]
theorem wk_aj_30 {f : Nat → Int64} {num : Int64} {x : Nat → Int64} {a : Nat} (ha : a < 30) : wk_aj f num x a (xp_start (6 - xt_deg a + 1)) = wk_aj f num x a 30 := by
  funext j
  unfold wk_aj
  have hle := (xp_start_le (6 - xt_deg a) (by omega)).2
  have e : zsum (wk_t num x a j) 0 (xp_start (6 - xt_deg a + 1) + (30 - xp_start (6 - xt_deg a + 1))) = zsum (wk_t num x a j) 0 (xp_start (6 - xt_deg a + 1)) := zsum_ext _ (fun i h1 h2 => by
    unfold wk_t
    rw [if_neg]
    rw [xt_jn_no a ha i (by omega) (by omega)]
    omega)
  rw [show xp_start (6 - xt_deg a + 1) + (30 - xp_start (6 - xt_deg a + 1)) = 30 by omega] at e
  rw [e]
/-- the product, 720 times too great -/
def wk_m (f x y : Nat → Int64) (a : Nat) : Nat → Int64 := fun j => f j + zsum (fun a => zsum (wk_t (x a) y a j) 0 30) 0 a
theorem wk_m_0 (f x y : Nat → Int64) : wk_m f x y 0 = f := by
  funext j
  simp [wk_m, zsum]
theorem wk_m_s (f x y : Nat → Int64) (a : Nat) : wk_aj (wk_m f x y a) (x a) y a 30 = wk_m f x y (a + 1) := by
  funext j
  unfold wk_aj wk_m
  rw [zsum_succ (fun a => zsum (wk_t (x a) y a j) 0 30) a 0, Int64.add_assoc, Nat.zero_add]
theorem wk_m_skip {f x y : Nat → Int64} {a : Nat} (h : x a = 0) : wk_m f x y a = wk_m f x y (a + 1) := by
  funext j
  unfold wk_m
  rw [zsum_succ (fun a => zsum (wk_t (x a) y a j) 0 30) a 0, Nat.zero_add, zsum_0 30 0 (fun i _ _ => by unfold wk_t; rw [h]; simp), Int64.add_zero]
theorem bz_cmp0 {x y : Int64} : lg_cmp x y = 0 ↔ x = y := by
  unfold lg_cmp
  by_cases h1 : x > y
  · rw [if_pos h1]
    constructor
    · intro h; exact absurd h (by decide)
    · intro h; subst h; exact absurd h1 (Int64.lt_irrefl)
  · rw [if_neg h1]
    by_cases h2 : x = y
    · simp [h2]
    · rw [if_neg h2]
      constructor
      · intro h; exact absurd h (by decide)
      · intro h; exact absurd h h2
section WK
variable {l : Launch} {ad : Nat → Nat} {K : bz_K} {σ σ' : bz_S} {k1 k2 k3 : Nat} {r : Option Value}
theorem t_scal_loop (h1 : bz_sh k1 = (1, 30, 0, [])) (h2 : bz_sh k2 = (1, 30, 0, [])) (hk1 : k1 < 73) (hk2 : k2 < 73) {T : Int64} :
    ∀ (m a : Nat) (acc : Int64), a + m = 30 → acc + zsum (fun a => σ.1 k1 a * σ.1 k2 a) a m = T → bz_V l ad K 73 mX2_scalarOf 0 (some (.long T)) σ 5 [some (.ref (ad k1)), some (.ref (ad k2)), some (.long acc), none, some (.int (nI a))] [] σ := by
  intro m
  induction m with
  | zero =>
    intro a acc ha hs
    obtain rfl : a = 30 := by omega
    obtain rfl := zsum_end hs
    refine bz_iload dX2_scalarOf_5 rfl ?_
    refine bz_bipush dX2_scalarOf_7 kc_bipush_30 ?_
    refine bz_icmp_geN (tgt := 30) dX2_scalarOf_9 rfl (by omega) (by omega) (fun _ => ?_) (fun q => absurd q (by omega))
    refine bz_lload_n dX2_scalarOf_30 rfl ?_
    refine bz_lret dX2_scalarOf_31 rfl rfl rfl
  | succ m ih =>
    intro a acc ha hs
    refine bz_iload dX2_scalarOf_5 rfl ?_
    refine bz_bipush dX2_scalarOf_7 kc_bipush_30 ?_
    refine bz_icmp_geN (tgt := 30) dX2_scalarOf_9 rfl (by omega) (by omega) (fun q => absurd q (by omega)) (fun _ => ?_)
    refine bz_lload_n dX2_scalarOf_12 rfl ?_
    refine bz_aload_n dX2_scalarOf_13 rfl ?_
    refine bz_iload dX2_scalarOf_14 rfl ?_
    refine bz_laload dX2_scalarOf_16 h1 (by omega) (by omega) ?_
    refine bz_aload_n dX2_scalarOf_17 rfl ?_
    refine bz_iload dX2_scalarOf_18 rfl ?_
    refine bz_laload dX2_scalarOf_20 h2 (by omega) (by omega) ?_
    refine bz_lmul dX2_scalarOf_21 ?_
    refine bz_ladd dX2_scalarOf_22 ?_
    refine bz_lst2 dX2_scalarOf_23 (by decide) rfl ?_
    first | refine bz_iinc4N dX2_scalarOf_24 (by decide) rfl ?_ | refine bz_iinc4 dX2_scalarOf_24 rfl (by decide) rfl ?_
    refine bz_goto (tgt := 5) dX2_scalarOf_27 rfl ?_
    have hs2 := zsum_step hs
    exact ih (a + 1) _ (by omega) hs2
theorem t_scalarOf (h1 : bz_sh k1 = (1, 30, 0, [])) (h2 : bz_sh k2 = (1, 30, 0, [])) (hk1 : k1 < 73) (hk2 : k2 < 73) : bz_V l ad K 73 mX2_scalarOf 0 (some (.long (zsum (fun a => σ.1 k1 a * σ.1 k2 a) 0 30))) σ 0 [some (.ref (ad k1)), some (.ref (ad k2)), none, none, none] [] σ := by
  refine bz_lconst dX2_scalarOf_0 kc_lconst_0 ?_
  refine bz_lst2 dX2_scalarOf_1 (by decide) rfl ?_
  refine bz_iconst dX2_scalarOf_2 kc_iconst_0 ?_
  refine bz_ist4 dX2_scalarOf_3 (by decide) rfl ?_
  exact t_scal_loop h1 h2 hk1 hk2 30 0 0 rfl (Int64.zero_add _)
theorem t_div_loop (h1 : bz_sh k1 = (1, 30, 0, [])) (hk1 : k1 < 73) :
    ∀ (m a : Nat), a + m = 30 → bz_V l ad K 73 mX2_divideByCommon 0 none (bz_setJ σ k1 (bz_upto (σ.1 k1) (fun j => σ.1 k1 j / 720) 30)) 2 [some (.ref (ad k1)), some (.int (nI a))] [] (bz_setJ σ k1 (bz_upto (σ.1 k1) (fun j => σ.1 k1 j / 720) a)) := by
  intro m
  induction m with
  | zero =>
    intro a ha
    obtain rfl : a = 30 := by omega
    refine bz_iload_n dX2_divideByCommon_2 rfl ?_
    refine bz_bipush dX2_divideByCommon_3 kc_bipush_30 ?_
    refine bz_icmp_geN (tgt := 23) dX2_divideByCommon_5 rfl (by omega) (by omega) (fun _ => ?_) (fun q => absurd q (by omega))
    refine bz_vret dX2_divideByCommon_23 rfl rfl
  | succ m ih =>
    intro a ha
    refine bz_iload_n dX2_divideByCommon_2 rfl ?_
    refine bz_bipush dX2_divideByCommon_3 kc_bipush_30 ?_
    refine bz_icmp_geN (tgt := 23) dX2_divideByCommon_5 rfl (by omega) (by omega) (fun q => absurd q (by omega)) (fun _ => ?_)
    refine bz_aload_n dX2_divideByCommon_8 rfl ?_
    refine bz_iload_n dX2_divideByCommon_9 rfl ?_
    refine bz_dup2 dX2_divideByCommon_10 rfl rfl ?_
    refine bz_laload dX2_divideByCommon_11 h1 (by omega) (by omega) ?_
    refine bz_topl (y := σ.1 k1 a) (by rw [bz_setJ_at, bz_upto_ge (Nat.le_refl a)]) ?_
    refine bz_ldc2 kl_X2_59 dX2_divideByCommon_12 ?_
    refine bz_ldiv dX2_divideByCommon_15 (by decide) ?_
    refine bz_lastore dX2_divideByCommon_16 h1 (by omega) (by omega) ?_
    first | refine bz_iinc1N dX2_divideByCommon_17 (by decide) rfl ?_ | refine bz_iinc1 dX2_divideByCommon_17 rfl (by decide) rfl ?_
    refine bz_goto (tgt := 2) dX2_divideByCommon_20 rfl ?_
    refine bz_st (by rw [bz_upJ_set, bz_upto_s rfl]) ?_
    exact ih (a + 1) (by omega)
theorem t_div (h1 : bz_sh k1 = (1, 30, 0, [])) (hk1 : k1 < 73) : bz_V l ad K 73 mX2_divideByCommon 0 none (bz_setJ σ k1 (bz_upto (σ.1 k1) (fun j => σ.1 k1 j / 720) 30)) 0 [some (.ref (ad k1)), none] [] σ := by
  refine bz_iconst dX2_divideByCommon_0 kc_iconst_0 ?_
  refine bz_ist1 dX2_divideByCommon_1 (by decide) rfl ?_
  refine bz_st (by rw [bz_setJ_id (bz_upto_0 _ (fun j => σ.1 k1 j / 720))]) (t_div_loop h1 hk1 30 0 rfl)
theorem t_aj_loop {a : Nat} {num : Int64} (ha : a < 30) (h1 : bz_sh k1 = (1, 30, 0, [])) (h2 : bz_sh k2 = (1, 30, 0, [])) (hk1 : k1 < 73) (hk2 : k2 < 73) (hne : k1 ≠ k2) (hT : pz_T σ.2.1) :
    ∀ (m b : Nat) (x8 : Option Value), b + m = xp_start (6 - xt_deg a + 1) → bz_V l ad K 73 mX2_addJoined 2 none (bz_setJ σ k2 (wk_aj (σ.1 k2) num (σ.1 k1) a 30)) 20 [some (.ref (ad 12)), some (.int (nI a)), some (.long num), none, some (.ref (ad k1)), some (.ref (ad k2)), some (.int (nI (xp_start (6 - xt_deg a + 1)))), some (.int (nI b)), x8] [] (bz_setJ σ k2 (wk_aj (σ.1 k2) num (σ.1 k1) a b)) := by
  have hle := (xp_start_le (6 - xt_deg a) (by omega)).2
  intro m
  induction m with
  | zero =>
    intro b x8 hb
    obtain rfl : b = xp_start (6 - xt_deg a + 1) := by omega
    refine bz_iload dX2_addJoined_20 rfl ?_
    refine bz_iload dX2_addJoined_22 rfl ?_
    refine bz_icmp_geN (tgt := 68) dX2_addJoined_24 rfl (by omega) (by omega) (fun _ => ?_) (fun q => absurd q (by omega))
    refine bz_vret dX2_addJoined_68 rfl (by rw [wk_aj_30 ha])
  | succ m ih =>
    intro b x8 hb
    have hj := xt_jn_ok a ha b (by omega) (by omega)
    have hjl := hj.2.2
    refine bz_iload dX2_addJoined_20 rfl ?_
    refine bz_iload dX2_addJoined_22 rfl ?_
    refine bz_icmp_geN (tgt := 68) dX2_addJoined_24 rfl (by omega) (by omega) (fun q => absurd q (by omega)) (fun _ => ?_)
    refine bz_aload_n dX2_addJoined_27 rfl ?_
    refine bz_getf fl_X2_23 dX2_addJoined_28 rfl rfl (by omega) ?_
    refine bz_iload_n dX2_addJoined_31 rfl ?_
    refine bz_iload dX2_addJoined_32 rfl ?_
    refine bz_cVN2I (z := 0) mv_X1_joined mi_X1_joined lk_X2_51 dX2_addJoined_34 (by exact t_joined (by omega) ha (by omega)) (by omega) rfl (by omega) rfl rfl rfl (Nat.le_of_ble_eq_true rfl) (Nat.le_of_ble_eq_true rfl) ?_
    refine bz_topi (y := nI (xt_jn a b)) ((hT.2.2.2.2.2.1 (a * 30 + b) (by omega)).trans hj.1) ?_
    refine bz_ist8 dX2_addJoined_37 (by decide) rfl ?_
    refine bz_iload dX2_addJoined_39 rfl ?_
    refine bz_cSN1I (z := 0) mv_X3_isPartition ws_X3_isPartition lk_X2_55 dX2_addJoined_41 (by exact t_isPart hjl) (by omega) rfl (Nat.le_of_ble_eq_true rfl) (Nat.le_of_ble_eq_true rfl) ?_
    refine bz_if_eq (tgt := 62) dX2_addJoined_44 rfl (fun q => absurd q (by decide)) (fun _ => ?_)
    refine bz_aload dX2_addJoined_47 rfl ?_
    refine bz_iload dX2_addJoined_49 rfl ?_
    refine bz_dup2 dX2_addJoined_51 rfl rfl ?_
    refine bz_laload dX2_addJoined_52 h2 (by omega) hjl ?_
    refine bz_topl (y := wk_aj (σ.1 k2) num (σ.1 k1) a b (xt_jn a b)) (by rw [bz_setJ_at]) ?_
    refine bz_lload_n dX2_addJoined_53 rfl ?_
    refine bz_aload dX2_addJoined_54 rfl ?_
    refine bz_iload dX2_addJoined_56 rfl ?_
    refine bz_laload dX2_addJoined_58 h1 (by omega) (by omega) ?_
    refine bz_topl (y := σ.1 k1 b) (by rw [bz_setJ_ne hne]) ?_
    refine bz_lmul dX2_addJoined_59 ?_
    refine bz_ladd dX2_addJoined_60 ?_
    refine bz_lastore dX2_addJoined_61 h2 (by omega) hjl ?_
    first | refine bz_iinc7N dX2_addJoined_62 (by decide) rfl ?_ | refine bz_iinc7 dX2_addJoined_62 rfl (by decide) rfl ?_
    refine bz_goto (tgt := 20) dX2_addJoined_65 rfl ?_
    refine bz_st (by rw [bz_upJ_set, wk_aj_s hj.2.1]) ?_
    exact ih (b + 1) _ (by omega)
theorem t_addJoined {a : Nat} {num : Int64} (ha : a < 30) (h1 : bz_sh k1 = (1, 30, 0, [])) (h2 : bz_sh k2 = (1, 30, 0, [])) (hk1 : k1 < 73) (hk2 : k2 < 73) (hne : k1 ≠ k2) (hT : pz_T σ.2.1) : bz_V l ad K 73 mX2_addJoined 2 none (bz_setJ σ k2 (wk_aj (σ.1 k2) num (σ.1 k1) a 30)) 0 [some (.ref (ad 12)), some (.int (nI a)), some (.long num), none, some (.ref (ad k1)), some (.ref (ad k2)), none, none, none] [] σ := by
  have hd6 := xt_deg6 a ha
  refine bz_bipush dX2_addJoined_0 kc_bipush_6 ?_
  refine bz_aload_n dX2_addJoined_2 rfl ?_
  refine bz_getf fl_X2_23 dX2_addJoined_3 rfl rfl (by omega) ?_
  refine bz_getf fl_X2_41 dX2_addJoined_6 rfl rfl (by omega) ?_
  refine bz_iload_n dX2_addJoined_9 rfl ?_
  refine bz_iaload dX2_addJoined_10 rfl (by omega) (by omega) ?_
  refine bz_topi (hT.1 a ha) ?_
  refine bz_isubN dX2_addJoined_11 hd6 ?_
  refine bz_cSN1I (z := 0) mv_X1_endOf ws_X1_endOf lk_X2_47 dX2_addJoined_12 (by exact t_endOf (by omega)) (by omega) rfl (Nat.le_of_ble_eq_true rfl) (Nat.le_of_ble_eq_true rfl) ?_
  refine bz_ist6 dX2_addJoined_15 (by decide) rfl ?_
  refine bz_iconst dX2_addJoined_17 kc_iconst_0 ?_
  refine bz_ist7 dX2_addJoined_18 (by decide) rfl ?_
  refine bz_st (by rw [bz_setJ_id (wk_aj_0 _ num (σ.1 k1) a)]) (t_aj_loop ha h1 h2 hk1 hk2 hne hT (xp_start (6 - xt_deg a + 1)) 0 none (Nat.zero_add _))
theorem t_mul_loop {g : Nat → Int64} (h1 : bz_sh k1 = (1, 30, 0, [])) (h2 : bz_sh k2 = (1, 30, 0, [])) (h3 : bz_sh k3 = (1, 30, 0, [])) (hk1 : k1 < 73) (hk2 : k2 < 73) (hk3 : k3 < 73) (hn1 : k1 ≠ k3) (hn2 : k2 ≠ k3) (hT : pz_T σ.2.1) :
    ∀ (m a : Nat), a + m = 30 → bz_V l ad K 73 mX2_multiply 3 none (bz_setJ σ k3 (bz_upto (wk_m g (σ.1 k1) (σ.1 k2) 30) (fun j => wk_m g (σ.1 k1) (σ.1 k2) 30 j / 720) 30)) 8 [some (.ref (ad 12)), some (.ref (ad k1)), some (.ref (ad k2)), some (.ref (ad k3)), some (.int (nI a))] [] (bz_setJ σ k3 (wk_m g (σ.1 k1) (σ.1 k2) a)) := by
  intro m
  induction m with
  | zero =>
    intro a ha
    obtain rfl : a = 30 := by omega
    refine bz_iload dX2_multiply_8 rfl ?_
    refine bz_bipush dX2_multiply_10 kc_bipush_30 ?_
    refine bz_icmp_geN (tgt := 42) dX2_multiply_12 rfl (by omega) (by omega) (fun _ => ?_) (fun q => absurd q (by omega))
    refine bz_aload_n dX2_multiply_42 rfl ?_
    refine bz_cS1U (z := 1) mv_X2_divideByCommon ws_X2_divideByCommon lk_X2_37 dX2_multiply_43 (by exact t_div h3 hk3) (by omega) rfl (Nat.le_of_ble_eq_true rfl) (Nat.le_of_ble_eq_true rfl) ?_
    refine bz_vret dX2_multiply_46 rfl ?_
    rw [bz_setJ_at, bz_setJ_J]
  | succ m ih =>
    intro a ha
    refine bz_iload dX2_multiply_8 rfl ?_
    refine bz_bipush dX2_multiply_10 kc_bipush_30 ?_
    refine bz_icmp_geN (tgt := 42) dX2_multiply_12 rfl (by omega) (by omega) (fun q => absurd q (by omega)) (fun _ => ?_)
    refine bz_aload_n dX2_multiply_15 rfl ?_
    refine bz_iload dX2_multiply_16 rfl ?_
    refine bz_laload dX2_multiply_18 h1 (by omega) (by omega) ?_
    refine bz_topl (y := σ.1 k1 a) (by rw [bz_setJ_ne hn1]) ?_
    refine bz_lconst dX2_multiply_19 kc_lconst_0 ?_
    refine bz_lcmp dX2_multiply_20 ?_
    refine bz_if_eq (tgt := 36) dX2_multiply_21 rfl (fun h => ?_) (fun h => ?_)
    · first | refine bz_iinc4N dX2_multiply_36 (by decide) rfl ?_ | refine bz_iinc4 dX2_multiply_36 rfl (by decide) rfl ?_
      refine bz_goto (tgt := 8) dX2_multiply_39 rfl ?_
      refine bz_st (by rw [wk_m_skip (bz_cmp0.mp h)]) ?_
      exact ih (a + 1) (by omega)
    · refine bz_aload_n dX2_multiply_24 rfl ?_
      refine bz_iload dX2_multiply_25 rfl ?_
      refine bz_aload_n dX2_multiply_27 rfl ?_
      refine bz_iload dX2_multiply_28 rfl ?_
      refine bz_laload dX2_multiply_30 h1 (by omega) (by omega) ?_
      refine bz_topl (y := σ.1 k1 a) (by rw [bz_setJ_ne hn1]) ?_
      refine bz_aload_n dX2_multiply_31 rfl ?_
      refine bz_aload_n dX2_multiply_32 rfl ?_
      refine bz_cV4U (z := 3) mv_X2_addJoined mi_X2_addJoined lk_X2_33 dX2_multiply_33 (by exact t_addJoined (by omega) h2 h3 hk2 hk3 hn2 (by exact hT)) (by omega) rfl (by omega) rfl rfl rfl (Nat.le_of_ble_eq_true rfl) (Nat.le_of_ble_eq_true rfl) ?_
      first | refine bz_iinc4N dX2_multiply_36 (by decide) rfl ?_ | refine bz_iinc4 dX2_multiply_36 rfl (by decide) rfl ?_
      refine bz_goto (tgt := 8) dX2_multiply_39 rfl ?_
      refine bz_st (by rw [bz_setJ_at, bz_setJ_J, bz_setJ_ne hn2, wk_m_s]) ?_
      exact ih (a + 1) (by omega)
/-- the product of x and y, told by numbers before the p(a), 720 times too great -/
def wk_mul (x y : Nat → Int64) (j : Nat) : Int64 := zsum (fun a => zsum (wk_t (x a) y a j) 0 30) 0 30
theorem t_multiply (h1 : bz_sh k1 = (1, 30, 0, [])) (h2 : bz_sh k2 = (1, 30, 0, [])) (h3 : bz_sh k3 = (1, 30, 0, [])) (hk1 : k1 < 73) (hk2 : k2 < 73) (hk3 : k3 < 73) (hn1 : k1 ≠ k3) (hn2 : k2 ≠ k3) (hT : pz_T σ.2.1) :
    ∃ f, bz_V l ad K 73 mX2_multiply 3 none (bz_setJ σ k3 f) 0 [some (.ref (ad 12)), some (.ref (ad k1)), some (.ref (ad k2)), some (.ref (ad k3)), none] [] σ ∧ ∀ j, j < 30 → f j = wk_mul (σ.1 k1) (σ.1 k2) j / 720 := by
  refine ⟨bz_upto (wk_m (bz_upto (σ.1 k3) (fun _ => 0) 30) (σ.1 k1) (σ.1 k2) 30) (fun j => wk_m (bz_upto (σ.1 k3) (fun _ => 0) 30) (σ.1 k1) (σ.1 k2) 30 j / 720) 30, ?_, fun j hj => ?_⟩
  · refine bz_aload_n dX2_multiply_0 rfl ?_
    refine bz_lconst dX2_multiply_1 kc_lconst_0 ?_
    refine bz_cS2U (z := 2) mv_J7_fill_d0a16 ws_J7_fill_d0a16 lk_X2_27 dX2_multiply_2 (by exact t_fill h3 hk3) (by omega) rfl (Nat.le_of_ble_eq_true rfl) (Nat.le_of_ble_eq_true rfl) ?_
    refine bz_iconst dX2_multiply_5 kc_iconst_0 ?_
    refine bz_ist4 dX2_multiply_6 (by decide) rfl ?_
    have := t_mul_loop (l := l) (ad := ad) (K := K) (σ := σ) (g := bz_upto (σ.1 k3) (fun _ => 0) 30) h1 h2 h3 hk1 hk2 hk3 hn1 hn2 hT 30 0 rfl
    rw [wk_m_0] at this
    exact this
  · rw [bz_upto_lt hj]
    unfold wk_m wk_mul
    rw [bz_upto_lt hj, Int64.zero_add]
end WK
