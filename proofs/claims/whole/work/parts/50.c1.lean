/-! the partitions' constructor: measure, findConjugate, isRowStrip, rimSign -/
theorem bz_Seq {σ τ : bz_S} (h1 : ∀ k j, σ.1 k j = τ.1 k j) (h2 : ∀ k j, σ.2.1 k j = τ.2.1 k j) (h3 : σ.2.2 = τ.2.2) : σ = τ :=
  Prod.ext (funext fun k => funext fun j => h1 k j) (Prod.ext (funext fun k => funext fun j => h2 k j) h3)
def ms_st (σ : bz_S) (a d l m z : Nat) : bz_S := bz_upI (bz_upI (bz_upI (bz_upI σ 1 a (nI d)) 2 a (nI l)) 3 a (nI m)) 5 a (nI z)
theorem ms_1 {σ : bz_S} {a d l m z : Nat} : (ms_st σ a d l m z).2.1 1 a = nI d := by simp [ms_st, bz_upI, upd]
theorem ms_2 {σ : bz_S} {a d l m z : Nat} : (ms_st σ a d l m z).2.1 2 a = nI l := by simp [ms_st, bz_upI, upd]
theorem ms_3 {σ : bz_S} {a d l m z : Nat} : (ms_st σ a d l m z).2.1 3 a = nI m := by simp [ms_st, bz_upI, upd]
theorem ms_5 {σ : bz_S} {a d l m z : Nat} : (ms_st σ a d l m z).2.1 5 a = nI z := by simp [ms_st, bz_upI, upd]
theorem ms_at {σ : bz_S} {a d l m z k j : Nat} : (ms_st σ a d l m z).2.1 k j = if j = a then (if k = 1 then nI d else if k = 2 then nI l else if k = 3 then nI m else if k = 5 then nI z else σ.2.1 k j) else σ.2.1 k j := by
  by_cases h1 : k = 1
  · subst h1
    by_cases hj : j = a <;> simp [ms_st, bz_upI, upd, hj]
  · by_cases h2 : k = 2
    · subst h2
      by_cases hj : j = a <;> simp [ms_st, bz_upI, upd, hj]
    · by_cases h3 : k = 3
      · subst h3
        by_cases hj : j = a <;> simp [ms_st, bz_upI, upd, hj]
      · by_cases h5 : k = 5
        · subst h5
          by_cases hj : j = a <;> simp [ms_st, bz_upI, upd, hj]
        · simp [ms_st, bz_upI, upd, h1, h2, h3, h5]
theorem up_at {σ : bz_S} {k i : Nat} {x : Int32} {k' j : Nat} : (bz_upI σ k i x).2.1 k' j = if k' = k ∧ j = i then x else σ.2.1 k' j := by
  by_cases h : k' = k
  · subst h
    by_cases hj : j = i <;> simp [bz_upI, upd, hj]
  · simp [bz_upI, h]
theorem ms_u1 {σ : bz_S} {a d l m z x : Nat} : bz_upI (ms_st σ a d l m z) 1 a (nI x) = ms_st σ a x l m z :=
  bz_Seq (fun _ _ => rfl) (fun k j => by rw [up_at, ms_at, ms_at]; by_cases h : k = 1 <;> by_cases hj : j = a <;> simp [h, hj]) rfl
theorem ms_u2 {σ : bz_S} {a d l m z x : Nat} : bz_upI (ms_st σ a d l m z) 2 a (nI x) = ms_st σ a d x m z :=
  bz_Seq (fun _ _ => rfl) (fun k j => by rw [up_at, ms_at, ms_at]; by_cases h : k = 2 <;> by_cases hj : j = a <;> simp [h, hj]) rfl
theorem ms_u3 {σ : bz_S} {a d l m z x : Nat} : bz_upI (ms_st σ a d l m z) 3 a (nI x) = ms_st σ a d l x z :=
  bz_Seq (fun _ _ => rfl) (fun k j => by rw [up_at, ms_at, ms_at]; by_cases h : k = 3 <;> by_cases hj : j = a <;> simp [h, hj]) rfl
theorem ms_u5 {σ : bz_S} {a d l m z x : Nat} : bz_upI (ms_st σ a d l m z) 5 a (nI x) = ms_st σ a d l m x :=
  bz_Seq (fun _ _ => rfl) (fun k j => by rw [up_at, ms_at, ms_at]; by_cases h : k = 5 <;> by_cases hj : j = a <;> simp [h, hj]) rfl
theorem ms_start {σ : bz_S} {a : Nat} (h1 : σ.2.1 1 a = 0) (h2 : σ.2.1 2 a = 0) (h3 : σ.2.1 3 a = 0) : bz_upI σ 5 a (nI 1) = ms_st σ a 0 0 0 1 :=
  bz_Seq (fun _ _ => rfl) (fun k j => by
    rw [up_at, ms_at]
    by_cases hj : j = a
    · subst hj
      by_cases k1 : k = 1
      · subst k1; simp [h1]; rfl
      · by_cases k2 : k = 2
        · subst k2; simp [h2]; rfl
        · by_cases k3 : k = 3
          · subst k3; simp [h3]; rfl
          · simp [k1, k2, k3]
    · simp [hj]) rfl
def me_run (a : Nat) : Nat → Nat → Nat → Nat × Nat × Nat × Nat → Nat × Nat × Nat × Nat
  | 0, _, _, t => t
  | m + 1, k, al, (d, l, wm, z) => if xp_part a k = 0 then (d, l, wm, z) else
      if 0 < k ∧ xp_part a (k - 1) = xp_part a k then me_run a m (k + 1) (al + 1) (d + xp_part a k, l + 1, wm + xt_mk (xp_part a k), z * (xp_part a k * (al + 1)))
      else me_run a m (k + 1) 1 (d + xp_part a k, l + 1, wm + xt_mk (xp_part a k), z * (xp_part a k * 1))
theorem me_all : ∀ a, a < 30 → me_run a 6 0 0 (0, 0, 0, 1) = (xt_deg a, xt_len a, xt_mark a, xt_z a) := by decide +kernel
theorem xp_part7' : ∀ a, a < 30 → ∀ k, k < 6 → xp_part a k < 7 := by decide +kernel
theorem xp_partlt {a k : Nat} : xp_part a k < 7 := by
  by_cases h : a < 30 ∧ k < 6
  · exact xp_part7' a h.1 k h.2
  · simp [xp_part, h]
theorem nI_le0 {p : Nat} (hp : p < 2 ^ 31) : nI p ≤ 0 ↔ p = 0 := by
  constructor
  · intro h
    rcases Nat.eq_zero_or_pos p with q | q
    · exact q
    · exact absurd h (nI_nle q hp)
  · intro h; subst h; decide
section C1
variable {l : Launch} {ad : Nat → Nat} {K : bz_K} {n : Nat} {σ : bz_S}
theorem t_partAt6 {p : Nat} {a k : Nat} (ha : a < 30) (hk : k ≤ 6) : bz_V l ad K n mX1_partAt 1 (some (.int (nI (xp_part a k)))) σ 0 [some (.ref p), some (.int (nI a)), some (.int (nI k))] [] σ := by
  by_cases h : k < 6
  · exact t_partAt ha h
  · obtain rfl : k = 6 := by omega
    rw [show xp_part a 6 = 0 by simp [xp_part]]
    exact t_partAtK (x := nI 6) ha (Or.inr (by decide))
theorem t_measure_loop (hn : 9 ≤ n) {a D L Mk Z : Nat} (ha : a < 30) : ∀ (m k al d ln mk z : Nat) (x4 : Option Value), k + m = 6 → me_run a m k al (d, ln, mk, z) = (D, L, Mk, Z) →
    bz_V l ad K n mX1_measure 2 none (ms_st σ a D L Mk Z) 11 [some (.ref (ad 0)), some (.int (nI a)), some (.int (nI al)), some (.int (nI k)), x4] [] (ms_st σ a d ln mk z) := by
  intro m
  induction m with
  | zero =>
    intro k al d ln mk z x4 hk h
    obtain rfl : k = 6 := by omega
    refine bz_iload_n dX1_measure_11 rfl ?_
    refine bz_bipush dX1_measure_12 kc_bipush_6 ?_
    refine bz_icmp_geN (tgt := 113) dX1_measure_14 rfl (by omega) (by omega) (fun _ => ?_) (fun q => absurd q (by omega))
    refine bz_vret dX1_measure_113 rfl ?_
    rw [me_run] at h
    injection h with h1 h
    injection h with h2 h
    injection h with h3 h4
    subst h1 h2 h3 h4
    rfl
  | succ m ih =>
    intro k al d ln mk z x4 hk h
    have hp := @xp_partlt a k
    have hp1 := @xp_partlt a (k - 1)
    have hk6 : k < 6 := by omega
    refine bz_iload_n dX1_measure_11 rfl ?_
    refine bz_bipush dX1_measure_12 kc_bipush_6 ?_
    refine bz_icmp_geN (tgt := 113) dX1_measure_14 rfl (by omega) (by omega) (fun q => absurd q (by omega)) (fun _ => ?_)
    refine bz_aload_n dX1_measure_17 rfl ?_
    refine bz_iload_n dX1_measure_18 rfl ?_
    refine bz_iload_n dX1_measure_19 rfl ?_
    refine bz_cV2I (z := 0) mv_X1_partAt mi_X1_partAt lk_X1_70 dX1_measure_20 (by exact t_partAt ha hk6) (by omega) rfl (by omega) rfl rfl rfl (Nat.le_of_ble_eq_true rfl) (Nat.le_of_ble_eq_true rfl) ?_
    refine bz_if_le (tgt := 113) dX1_measure_23 rfl (fun hz => ?_) (fun hz => ?_)
    · have hz := (nI_le0 (by omega)).mp hz
      rw [me_run, if_pos hz] at h
      injection h with h1 h
      injection h with h2 h
      injection h with h3 h4
      subst h1 h2 h3 h4
      refine bz_vret dX1_measure_113 rfl rfl
    · have hz : ¬ xp_part a k = 0 := fun q => hz ((nI_le0 (by omega)).mpr q)
      rw [me_run, if_neg hz] at h
      have tail : ∀ al' : Nat, me_run a m (k + 1) al' (d + xp_part a k, ln + 1, mk + xt_mk (xp_part a k), z * (xp_part a k * al')) = (D, L, Mk, Z) →
          bz_V l ad K n mX1_measure 2 none (ms_st σ a D L Mk Z) 58 [some (.ref (ad 0)), some (.int (nI a)), some (.int (nI al)), some (.int (nI k)), some (.int (nI (xp_part a k)))] [.int (nI al')] (ms_st σ a d ln mk z) := by
        intro al' h'
        refine bz_ist2 dX1_measure_58 (by decide) rfl ?_
        refine bz_aload_n dX1_measure_59 rfl ?_
        refine bz_getf fl_X1_9 dX1_measure_60 rfl rfl (by omega) ?_
        refine bz_iload_n dX1_measure_63 rfl ?_
        refine bz_dup2 dX1_measure_64 rfl rfl ?_
        refine bz_iaload dX1_measure_65 rfl (by omega) (by omega) ?_
        refine bz_topi ms_1 ?_
        refine bz_iload dX1_measure_66 rfl ?_
        first | refine bz_iaddN dX1_measure_68 ?_ | refine bz_iadd dX1_measure_68 ?_
        refine bz_iastore dX1_measure_69 rfl (by omega) (by omega) ?_
        refine bz_st ms_u1 ?_
        refine bz_aload_n dX1_measure_70 rfl ?_
        refine bz_getf fl_X1_15 dX1_measure_71 rfl rfl (by omega) ?_
        refine bz_iload_n dX1_measure_74 rfl ?_
        refine bz_dup2 dX1_measure_75 rfl rfl ?_
        refine bz_iaload dX1_measure_76 rfl (by omega) (by omega) ?_
        refine bz_topi ms_2 ?_
        refine bz_iconst dX1_measure_77 kc_iconst_1 ?_
        first | refine bz_iaddN dX1_measure_78 ?_ | refine bz_iadd dX1_measure_78 ?_
        refine bz_iastore dX1_measure_79 rfl (by omega) (by omega) ?_
        refine bz_st ms_u2 ?_
        refine bz_aload_n dX1_measure_80 rfl ?_
        refine bz_getf fl_X1_18 dX1_measure_81 rfl rfl (by omega) ?_
        refine bz_iload_n dX1_measure_84 rfl ?_
        refine bz_dup2 dX1_measure_85 rfl rfl ?_
        refine bz_iaload dX1_measure_86 rfl (by omega) (by omega) ?_
        refine bz_topi ms_3 ?_
        refine bz_iload dX1_measure_87 rfl ?_
        refine bz_cS1I (z := 0) mv_X1_markOf ws_X1_markOf lk_X1_73 dX1_measure_89 (by exact t_markOf (by omega)) (by omega) rfl (Nat.le_of_ble_eq_true rfl) (Nat.le_of_ble_eq_true rfl) ?_
        first | refine bz_iaddN dX1_measure_92 ?_ | refine bz_iadd dX1_measure_92 ?_
        refine bz_iastore dX1_measure_93 rfl (by omega) (by omega) ?_
        refine bz_st ms_u3 ?_
        refine bz_aload_n dX1_measure_94 rfl ?_
        refine bz_getf fl_X1_24 dX1_measure_95 rfl rfl (by omega) ?_
        refine bz_iload_n dX1_measure_98 rfl ?_
        refine bz_dup2 dX1_measure_99 rfl rfl ?_
        refine bz_iaload dX1_measure_100 rfl (by omega) (by omega) ?_
        refine bz_topi ms_5 ?_
        refine bz_iload dX1_measure_101 rfl ?_
        refine bz_iload_n dX1_measure_103 rfl ?_
        first | refine bz_imulN dX1_measure_104 ?_ | refine bz_imul dX1_measure_104 ?_
        first | refine bz_imulN dX1_measure_105 ?_ | refine bz_imul dX1_measure_105 ?_
        refine bz_iastore dX1_measure_106 rfl (by omega) (by omega) ?_
        refine bz_st ms_u5 ?_
        first | refine bz_iinc3N dX1_measure_107 (by decide) rfl ?_ | refine bz_iinc3 dX1_measure_107 rfl (by decide) rfl ?_
        refine bz_goto (tgt := 11) dX1_measure_110 rfl ?_
        exact ih (k + 1) al' _ _ _ _ _ (by omega) h'
      refine bz_aload_n dX1_measure_26 rfl ?_
      refine bz_iload_n dX1_measure_27 rfl ?_
      refine bz_iload_n dX1_measure_28 rfl ?_
      refine bz_cV2I (z := 0) mv_X1_partAt mi_X1_partAt lk_X1_70 dX1_measure_29 (by exact t_partAt ha hk6) (by omega) rfl (by omega) rfl rfl rfl (Nat.le_of_ble_eq_true rfl) (Nat.le_of_ble_eq_true rfl) ?_
      refine bz_ist4 dX1_measure_32 (by decide) rfl ?_
      refine bz_iload_n dX1_measure_34 rfl ?_
      refine bz_if_le (tgt := 57) dX1_measure_35 rfl (fun h0 => ?_) (fun h0 => ?_)
      · have h0 := (nI_le0 (by omega)).mp h0
        rw [if_neg (by omega)] at h
        refine bz_iconst dX1_measure_57 kc_iconst_1 ?_
        exact tail 1 h
      · have h0 : ¬ k = 0 := fun q => h0 ((nI_le0 (by omega)).mpr q)
        refine bz_aload_n dX1_measure_38 rfl ?_
        refine bz_iload_n dX1_measure_39 rfl ?_
        refine bz_iload_n dX1_measure_40 rfl ?_
        refine bz_iconst dX1_measure_41 kc_iconst_1 ?_
        refine bz_isubN dX1_measure_42 (by omega) ?_
        refine bz_cV2I (z := 0) mv_X1_partAt mi_X1_partAt lk_X1_70 dX1_measure_43 (by exact t_partAt (k := k - 1) ha (by omega)) (by omega) rfl (by omega) rfl rfl rfl (Nat.le_of_ble_eq_true rfl) (Nat.le_of_ble_eq_true rfl) ?_
        refine bz_iload dX1_measure_46 rfl ?_
        refine bz_icmp_neN (tgt := 57) dX1_measure_48 rfl (by omega) (by omega) (fun he => ?_) (fun he => ?_)
        · rw [if_neg (fun q => he q.2)] at h
          refine bz_iconst dX1_measure_57 kc_iconst_1 ?_
          exact tail 1 h
        · rw [if_pos ⟨by omega, he⟩] at h
          refine bz_iload_n dX1_measure_51 rfl ?_
          refine bz_iconst dX1_measure_52 kc_iconst_1 ?_
          first | refine bz_iaddN dX1_measure_53 ?_ | refine bz_iadd dX1_measure_53 ?_
          refine bz_goto (tgt := 58) dX1_measure_54 rfl ?_
          exact tail (al + 1) h
theorem t_measure (hn : 9 ≤ n) {a : Nat} (ha : a < 30) (h1 : σ.2.1 1 a = 0) (h2 : σ.2.1 2 a = 0) (h3 : σ.2.1 3 a = 0) :
    bz_V l ad K n mX1_measure 2 none (ms_st σ a (xt_deg a) (xt_len a) (xt_mark a) (xt_z a)) 0 [some (.ref (ad 0)), some (.int (nI a)), none, none, none] [] σ := by
  refine bz_iconst dX1_measure_0 kc_iconst_0 ?_
  refine bz_ist2 dX1_measure_1 (by decide) rfl ?_
  refine bz_aload_n dX1_measure_2 rfl ?_
  refine bz_getf fl_X1_24 dX1_measure_3 rfl rfl (by omega) ?_
  refine bz_iload_n dX1_measure_6 rfl ?_
  refine bz_iconst dX1_measure_7 kc_iconst_1 ?_
  refine bz_iastore dX1_measure_8 rfl (by omega) (by omega) ?_
  refine bz_st (ms_start h1 h2 h3) ?_
  refine bz_iconst dX1_measure_9 kc_iconst_0 ?_
  refine bz_ist3 dX1_measure_10 (by decide) rfl ?_
  exact t_measure_loop hn ha 6 0 0 0 0 0 1 none rfl (me_all a ha)
def fj_n (a k : Nat) : Nat → Nat → Nat → Nat
  | 0, _, c => c
  | m + 1, i, c => if xp_part a i < k then fj_n a k m (i + 1) c else fj_n a k m (i + 1) (c + 1)
def fj_m (a : Nat) : Nat → Nat → Nat → Nat
  | 0, _, wm => wm
  | m + 1, k, wm => fj_m a m (k + 1) (wm + xt_mk (fj_n a k 6 0 0))
theorem fj_all : ∀ a, a < 30 → xt_num (fj_m a 6 1 0) (xt_deg a) = some (xt_conj a) ∧ fj_m a 6 1 0 < 2 ^ 31 := by decide +kernel
theorem fj_n_le (a k : Nat) : ∀ (m i c : Nat), fj_n a k m i c ≤ c + m
  | 0, _, c => Nat.le_refl c
  | m + 1, i, c => by
    rw [fj_n]
    split
    · have := fj_n_le a k m (i + 1) c; omega
    · have := fj_n_le a k m (i + 1) (c + 1); omega
theorem t_fj_in (hn : 9 ≤ n) {a k mk T : Nat} {r : Option Value} {σ' : bz_S} (ha : a < 30) (hk7 : k < 7) (kk : bz_V l ad K n mX1_findConjugate 2 r σ' 43 [some (.ref (ad 0)), some (.int (nI a)), some (.int (nI mk)), some (.int (nI k)), some (.int (nI T)), some (.int (nI 6))] [] σ) :
    ∀ (m i c : Nat), i + m = 6 → fj_n a k m i c = T → bz_V l ad K n mX1_findConjugate 2 r σ' 16 [some (.ref (ad 0)), some (.int (nI a)), some (.int (nI mk)), some (.int (nI k)), some (.int (nI c)), some (.int (nI i))] [] σ := by
  intro m
  induction m with
  | zero =>
    intro i c hi h
    obtain rfl : i = 6 := by omega
    rw [fj_n] at h
    subst h
    refine bz_iload dX1_findConjugate_16 rfl ?_
    refine bz_bipush dX1_findConjugate_18 kc_bipush_6 ?_
    refine bz_icmp_geN (tgt := 43) dX1_findConjugate_20 rfl (by omega) (by omega) (fun _ => ?_) (fun q => absurd q (by omega))
    exact kk
  | succ m ih =>
    intro i c hi h
    have hp := @xp_partlt a i
    have hi6 : i < 6 := by omega
    refine bz_iload dX1_findConjugate_16 rfl ?_
    refine bz_bipush dX1_findConjugate_18 kc_bipush_6 ?_
    refine bz_icmp_geN (tgt := 43) dX1_findConjugate_20 rfl (by omega) (by omega) (fun q => absurd q (by omega)) (fun _ => ?_)
    refine bz_aload_n dX1_findConjugate_23 rfl ?_
    refine bz_iload_n dX1_findConjugate_24 rfl ?_
    refine bz_iload dX1_findConjugate_25 rfl ?_
    refine bz_cV2I (z := 0) mv_X1_partAt mi_X1_partAt lk_X1_70 dX1_findConjugate_27 (by exact t_partAt ha hi6) (by omega) rfl (by omega) rfl rfl rfl (Nat.le_of_ble_eq_true rfl) (Nat.le_of_ble_eq_true rfl) ?_
    refine bz_iload_n dX1_findConjugate_30 rfl ?_
    refine bz_icmp_ltN (tgt := 37) dX1_findConjugate_31 rfl (by omega) (by omega) (fun hq => ?_) (fun hq => ?_)
    · rw [fj_n, if_pos hq] at h
      first | refine bz_iinc5N dX1_findConjugate_37 (by decide) rfl ?_ | refine bz_iinc5 dX1_findConjugate_37 rfl (by decide) rfl ?_
      refine bz_goto (tgt := 16) dX1_findConjugate_40 rfl ?_
      exact ih (i + 1) c (by omega) h
    · rw [fj_n, if_neg (by omega)] at h
      first | refine bz_iinc4N dX1_findConjugate_34 (by decide) rfl ?_ | refine bz_iinc4 dX1_findConjugate_34 rfl (by decide) rfl ?_
      first | refine bz_iinc5N dX1_findConjugate_37 (by decide) rfl ?_ | refine bz_iinc5 dX1_findConjugate_37 rfl (by decide) rfl ?_
      refine bz_goto (tgt := 16) dX1_findConjugate_40 rfl ?_
      exact ih (i + 1) (c + 1) (by omega) h
theorem t_fj_out (hn : 9 ≤ n) {a T : Nat} {r : Option Value} {σ' : bz_S} (ha : a < 30) (kk : ∀ x4 x5, bz_V l ad K n mX1_findConjugate 2 r σ' 57 [some (.ref (ad 0)), some (.int (nI a)), some (.int (nI T)), some (.int (nI 7)), x4, x5] [] σ) :
    ∀ (m k mk : Nat) (x4 x5 : Option Value), k + m = 7 → fj_m a m k mk = T → bz_V l ad K n mX1_findConjugate 2 r σ' 4 [some (.ref (ad 0)), some (.int (nI a)), some (.int (nI mk)), some (.int (nI k)), x4, x5] [] σ := by
  intro m
  induction m with
  | zero =>
    intro k mk x4 x5 hk h
    obtain rfl : k = 7 := by omega
    rw [fj_m] at h
    subst h
    refine bz_iload_n dX1_findConjugate_4 rfl ?_
    refine bz_bipush dX1_findConjugate_5 kc_bipush_6 ?_
    refine bz_icmp_gtN (tgt := 57) dX1_findConjugate_7 rfl (by omega) (by omega) (fun _ => ?_) (fun q => absurd q (by omega))
    exact kk _ _
  | succ m ih =>
    intro k mk x4 x5 hk h
    rw [fj_m] at h
    have hle := fj_n_le a k 6 0 0
    refine bz_iload_n dX1_findConjugate_4 rfl ?_
    refine bz_bipush dX1_findConjugate_5 kc_bipush_6 ?_
    refine bz_icmp_gtN (tgt := 57) dX1_findConjugate_7 rfl (by omega) (by omega) (fun q => absurd q (by omega)) (fun _ => ?_)
    refine bz_iconst dX1_findConjugate_10 kc_iconst_0 ?_
    refine bz_ist4 dX1_findConjugate_11 (by decide) rfl ?_
    refine bz_iconst dX1_findConjugate_13 kc_iconst_0 ?_
    refine bz_ist5 dX1_findConjugate_14 (by decide) rfl ?_
    refine t_fj_in hn ha (by omega) ?_ 6 0 0 rfl rfl
    refine bz_iload_n dX1_findConjugate_43 rfl ?_
    refine bz_iload dX1_findConjugate_44 rfl ?_
    refine bz_cS1I (z := 0) mv_X1_markOf ws_X1_markOf lk_X1_73 dX1_findConjugate_46 (by exact t_markOf (by omega)) (by omega) rfl (Nat.le_of_ble_eq_true rfl) (Nat.le_of_ble_eq_true rfl) ?_
    first | refine bz_iaddN dX1_findConjugate_49 ?_ | refine bz_iadd dX1_findConjugate_49 ?_
    refine bz_ist2 dX1_findConjugate_50 (by decide) rfl ?_
    first | refine bz_iinc3N dX1_findConjugate_51 (by decide) rfl ?_ | refine bz_iinc3 dX1_findConjugate_51 rfl (by decide) rfl ?_
    refine bz_goto (tgt := 4) dX1_findConjugate_54 rfl ?_
    exact ih (k + 1) _ _ _ (by omega) h
theorem t_findConj (hn : 9 ≤ n) {a : Nat} (ha : a < 30) (h1 : σ.2.1 1 a = nI (xt_deg a)) (hm : ∀ i, i < 30 → σ.2.1 3 i = nI (xt_mark i)) :
    bz_V l ad K n mX1_findConjugate 2 (some (.int (nI (xt_conj a)))) σ 0 [some (.ref (ad 0)), some (.int (nI a)), none, none, none, none] [] σ := by
  have h6 := xt_deg6 a ha
  obtain ⟨hf, hlt⟩ := fj_all a ha
  refine bz_iconst dX1_findConjugate_0 kc_iconst_0 ?_
  refine bz_ist2 dX1_findConjugate_1 (by decide) rfl ?_
  refine bz_iconst dX1_findConjugate_2 kc_iconst_1 ?_
  refine bz_ist3 dX1_findConjugate_3 (by decide) rfl ?_
  refine t_fj_out (T := fj_m a 6 1 0) hn ha (fun x4 x5 => ?_) 6 1 0 none none rfl rfl
  refine bz_aload_n dX1_findConjugate_57 rfl ?_
  refine bz_iload_n dX1_findConjugate_58 rfl ?_
  refine bz_aload_n dX1_findConjugate_59 rfl ?_
  refine bz_getf fl_X1_9 dX1_findConjugate_60 rfl rfl (by omega) ?_
  refine bz_iload_n dX1_findConjugate_63 rfl ?_
  refine bz_iaload dX1_findConjugate_64 rfl (by omega) (by omega) ?_
  refine bz_topi h1 ?_
  refine bz_cV2I (z := 2) mv_X1_numberOf mi_X1_numberOf lk_X1_44 dX1_findConjugate_65 (by exact t_numberOf hn hlt (by omega) hm) (by omega) rfl (by omega) rfl rfl rfl (Nat.le_of_ble_eq_true rfl) (Nat.le_of_ble_eq_true rfl) ?_
  refine bz_iret dX1_findConjugate_68 rfl ?_ rfl
  rw [hf]
  rfl
def irs (a c : Nat) : Nat → Nat → Bool
  | 0, _ => true
  | m + 1, k => if xp_part a k < xp_part c k then false else if xp_part c k < xp_part a (k + 1) then false else irs a c m (k + 1)
theorem t_irs_loop (hn : 9 ≤ n) {a c : Nat} (ha : a < 30) (hc : c < 30) : ∀ (m k : Nat), k + m = 6 → bz_V l ad K n mX1_isRowStrip 2 (some (.int (bz_b (irs a c m k)))) σ 2 [some (.ref (ad 0)), some (.int (nI a)), some (.int (nI c)), some (.int (nI k))] [] σ := by
  intro m
  induction m with
  | zero =>
    intro k hk
    obtain rfl : k = 6 := by omega
    refine bz_iload_n dX1_isRowStrip_2 rfl ?_
    refine bz_bipush dX1_isRowStrip_3 kc_bipush_6 ?_
    refine bz_icmp_geN (tgt := 48) dX1_isRowStrip_5 rfl (by omega) (by omega) (fun _ => ?_) (fun q => absurd q (by omega))
    refine bz_iconst dX1_isRowStrip_48 kc_iconst_1 ?_
    refine bz_zret dX1_isRowStrip_49 rfl rfl rfl rfl
  | succ m ih =>
    intro k hk
    have hk6 : k < 6 := by omega
    have p1 := @xp_partlt a k
    have p2 := @xp_partlt c k
    have p3 := @xp_partlt a (k + 1)
    refine bz_iload_n dX1_isRowStrip_2 rfl ?_
    refine bz_bipush dX1_isRowStrip_3 kc_bipush_6 ?_
    refine bz_icmp_geN (tgt := 48) dX1_isRowStrip_5 rfl (by omega) (by omega) (fun q => absurd q (by omega)) (fun _ => ?_)
    refine bz_aload_n dX1_isRowStrip_8 rfl ?_
    refine bz_iload_n dX1_isRowStrip_9 rfl ?_
    refine bz_iload_n dX1_isRowStrip_10 rfl ?_
    refine bz_cV2I (z := 0) mv_X1_partAt mi_X1_partAt lk_X1_70 dX1_isRowStrip_11 (by exact t_partAt hc hk6) (by omega) rfl (by omega) rfl rfl rfl (Nat.le_of_ble_eq_true rfl) (Nat.le_of_ble_eq_true rfl) ?_
    refine bz_aload_n dX1_isRowStrip_14 rfl ?_
    refine bz_iload_n dX1_isRowStrip_15 rfl ?_
    refine bz_iload_n dX1_isRowStrip_16 rfl ?_
    refine bz_cV2I (z := 0) mv_X1_partAt mi_X1_partAt lk_X1_70 dX1_isRowStrip_17 (by exact t_partAt ha hk6) (by omega) rfl (by omega) rfl rfl rfl (Nat.le_of_ble_eq_true rfl) (Nat.le_of_ble_eq_true rfl) ?_
    refine bz_icmp_gtN (tgt := 40) dX1_isRowStrip_20 rfl (by omega) (by omega) (fun h1 => ?_) (fun h1 => ?_)
    · refine bz_iconst dX1_isRowStrip_40 kc_iconst_0 ?_
      refine bz_zret dX1_isRowStrip_41 rfl rfl ?_ rfl
      rw [irs, if_pos (by omega)]
      rfl
    · refine bz_aload_n dX1_isRowStrip_23 rfl ?_
      refine bz_iload_n dX1_isRowStrip_24 rfl ?_
      refine bz_iload_n dX1_isRowStrip_25 rfl ?_
      refine bz_cV2I (z := 0) mv_X1_partAt mi_X1_partAt lk_X1_70 dX1_isRowStrip_26 (by exact t_partAt hc hk6) (by omega) rfl (by omega) rfl rfl rfl (Nat.le_of_ble_eq_true rfl) (Nat.le_of_ble_eq_true rfl) ?_
      refine bz_aload_n dX1_isRowStrip_29 rfl ?_
      refine bz_iload_n dX1_isRowStrip_30 rfl ?_
      refine bz_iload_n dX1_isRowStrip_31 rfl ?_
      refine bz_iconst dX1_isRowStrip_32 kc_iconst_1 ?_
      first | refine bz_iaddN dX1_isRowStrip_33 ?_ | refine bz_iadd dX1_isRowStrip_33 ?_
      refine bz_cV2I (z := 0) mv_X1_partAt mi_X1_partAt lk_X1_70 dX1_isRowStrip_34 (by exact t_partAt6 ha (by omega)) (by omega) rfl (by omega) rfl rfl rfl (Nat.le_of_ble_eq_true rfl) (Nat.le_of_ble_eq_true rfl) ?_
      rw [irs, if_neg (by omega)]
      refine bz_icmp_geN (tgt := 42) dX1_isRowStrip_37 rfl (by omega) (by omega) (fun h2 => ?_) (fun h2 => ?_)
      · rw [if_neg (by omega)]
        first | refine bz_iinc3N dX1_isRowStrip_42 (by decide) rfl ?_ | refine bz_iinc3 dX1_isRowStrip_42 rfl (by decide) rfl ?_
        refine bz_goto (tgt := 2) dX1_isRowStrip_45 rfl ?_
        exact ih (k + 1) (by omega)
      · refine bz_iconst dX1_isRowStrip_40 kc_iconst_0 ?_
        refine bz_zret dX1_isRowStrip_41 rfl rfl ?_ rfl
        rw [if_pos (by omega)]
        rfl
theorem t_isRowStrip (hn : 9 ≤ n) {a c : Nat} (ha : a < 30) (hc : c < 30) : bz_V l ad K n mX1_isRowStrip 2 (some (.int (bz_b (irs a c 6 0)))) σ 0 [some (.ref (ad 0)), some (.int (nI a)), some (.int (nI c)), none] [] σ := by
  refine bz_iconst dX1_isRowStrip_0 kc_iconst_0 ?_
  refine bz_ist3 dX1_isRowStrip_1 (by decide) rfl ?_
  exact t_irs_loop hn ha hc 6 0 rfl
/-- the first loop of rimSign: none: 0 is answered -/
def rs_a (a c : Nat) : Nat → Nat → Nat → Option Nat → Option (Nat × Option Nat)
  | 0, _, t, bo => some (t, bo)
  | m + 1, k, t, bo => if xp_part a k < xp_part c k then none else if xp_part c k < xp_part a k then rs_a a c m (k + 1) (min t k) (some k) else rs_a a c m (k + 1) t bo
def rs_b (a c b : Nat) : Nat → Nat → Int
  | 0, t => if (b - t) % 2 = 0 then 1 else -1
  | m + 1, t => 0
def rs_l (a c : Nat) : Nat → Nat → Bool
  | 0, _ => true
  | m + 1, k => if xp_part c k + 1 = xp_part a (k + 1) then rs_l a c m (k + 1) else false
def rs (a c : Nat) : Int := match rs_a a c 6 0 6 none with
  | some (t, some b) => if rs_l a c (b - t) t then (if (b - t) % 2 = 0 then 1 else -1) else 0
  | _ => 0
def rs_ok (a c : Nat) : Bool := match rs_a a c 6 0 6 none with
  | none => true
  | some (t, some b) => decide (t ≤ b) && decide (b < 6)
  | some (_, none) => false
theorem nI_sub1 : ∀ x, x < 7 → ∀ y, y < 7 → (nI x = nI y - nI 1 ↔ x + 1 = y) := by decide +kernel
theorem nI_min {t k : Nat} (ht : t < 2 ^ 31) (hk : k < 2 ^ 31) : (if nI k < nI t then nI k else nI t) = nI (min t k) := by
  by_cases h : k < t
  · rw [if_pos ((nI_ltI hk ht).mpr h), Nat.min_eq_right (by omega)]
  · rw [if_neg (fun q => h ((nI_ltI hk ht).mp q)), Nat.min_eq_left (by omega)]
theorem t_rs_1 (hn : 9 ≤ n) {a c : Nat} {R : Int} (ha : a < 30) (hc : c < 30) {res : Option (Nat × Option Nat)} (h0 : res = none → R = 0)
    (kk : ∀ t bo x5, res = some (t, bo) → bz_V l ad K n mX1_rimSign 2 (some (.int (Int32.ofInt R))) σ 69 [some (.ref (ad 0)), some (.int (nI a)), some (.int (nI c)), some (.int (nI t)), some (.int (xt_o bo)), x5] [] σ) :
    ∀ (m k t : Nat) (bo : Option Nat), k + m = 6 → t < 7 → rs_a a c m k t bo = res → bz_V l ad K n mX1_rimSign 2 (some (.int (Int32.ofInt R))) σ 9 [some (.ref (ad 0)), some (.int (nI a)), some (.int (nI c)), some (.int (nI t)), some (.int (xt_o bo)), some (.int (nI k))] [] σ := by
  intro m
  induction m with
  | zero =>
    intro k t bo hk ht h
    obtain rfl : k = 6 := by omega
    rw [rs_a] at h
    refine bz_iload dX1_rimSign_9 rfl ?_
    refine bz_bipush dX1_rimSign_11 kc_bipush_6 ?_
    refine bz_icmp_geN (tgt := 69) dX1_rimSign_13 rfl (by omega) (by omega) (fun _ => ?_) (fun q => absurd q (by omega))
    exact kk t bo _ h.symm
  | succ m ih =>
    intro k t bo hk ht h
    have hk6 : k < 6 := by omega
    have p1 := @xp_partlt a k
    have p2 := @xp_partlt c k
    refine bz_iload dX1_rimSign_9 rfl ?_
    refine bz_bipush dX1_rimSign_11 kc_bipush_6 ?_
    refine bz_icmp_geN (tgt := 69) dX1_rimSign_13 rfl (by omega) (by omega) (fun q => absurd q (by omega)) (fun _ => ?_)
    refine bz_aload_n dX1_rimSign_16 rfl ?_
    refine bz_iload_n dX1_rimSign_17 rfl ?_
    refine bz_iload dX1_rimSign_18 rfl ?_
    refine bz_cV2I (z := 0) mv_X1_partAt mi_X1_partAt lk_X1_70 dX1_rimSign_20 (by exact t_partAt hc hk6) (by omega) rfl (by omega) rfl rfl rfl (Nat.le_of_ble_eq_true rfl) (Nat.le_of_ble_eq_true rfl) ?_
    refine bz_aload_n dX1_rimSign_23 rfl ?_
    refine bz_iload_n dX1_rimSign_24 rfl ?_
    refine bz_iload dX1_rimSign_25 rfl ?_
    refine bz_cV2I (z := 0) mv_X1_partAt mi_X1_partAt lk_X1_70 dX1_rimSign_27 (by exact t_partAt ha hk6) (by omega) rfl (by omega) rfl rfl rfl (Nat.le_of_ble_eq_true rfl) (Nat.le_of_ble_eq_true rfl) ?_
    refine bz_icmp_leN (tgt := 35) dX1_rimSign_30 rfl (by omega) (by omega) (fun h1 => ?_) (fun h1 => ?_)
    · rw [rs_a, if_neg (by omega)] at h
      refine bz_aload_n dX1_rimSign_35 rfl ?_
      refine bz_iload_n dX1_rimSign_36 rfl ?_
      refine bz_iload dX1_rimSign_37 rfl ?_
      refine bz_cV2I (z := 0) mv_X1_partAt mi_X1_partAt lk_X1_70 dX1_rimSign_39 (by exact t_partAt hc hk6) (by omega) rfl (by omega) rfl rfl rfl (Nat.le_of_ble_eq_true rfl) (Nat.le_of_ble_eq_true rfl) ?_
      refine bz_aload_n dX1_rimSign_42 rfl ?_
      refine bz_iload_n dX1_rimSign_43 rfl ?_
      refine bz_iload dX1_rimSign_44 rfl ?_
      refine bz_cV2I (z := 0) mv_X1_partAt mi_X1_partAt lk_X1_70 dX1_rimSign_46 (by exact t_partAt ha hk6) (by omega) rfl (by omega) rfl rfl rfl (Nat.le_of_ble_eq_true rfl) (Nat.le_of_ble_eq_true rfl) ?_
      refine bz_icmp_geN (tgt := 63) dX1_rimSign_49 rfl (by omega) (by omega) (fun h2 => ?_) (fun h2 => ?_)
      · rw [if_neg (by omega)] at h
        first | refine bz_iinc5N dX1_rimSign_63 (by decide) rfl ?_ | refine bz_iinc5 dX1_rimSign_63 rfl (by decide) rfl ?_
        refine bz_goto (tgt := 9) dX1_rimSign_66 rfl ?_
        exact ih (k + 1) t bo (by omega) ht h
      · rw [if_pos (by omega)] at h
        refine bz_iload_n dX1_rimSign_52 rfl ?_
        refine bz_iload dX1_rimSign_53 rfl ?_
        refine bz_mmin lk_X1_89 wmin_s wi_java_lang_Math wmin_c (by omega) dX1_rimSign_55 (Nat.le_of_ble_eq_true rfl) ?_
        refine bz_topi (nI_min (by omega) (by omega)) ?_
        refine bz_ist3 dX1_rimSign_58 (by decide) rfl ?_
        refine bz_iload dX1_rimSign_59 rfl ?_
        refine bz_ist4 dX1_rimSign_61 (by decide) rfl ?_
        first | refine bz_iinc5N dX1_rimSign_63 (by decide) rfl ?_ | refine bz_iinc5 dX1_rimSign_63 rfl (by decide) rfl ?_
        refine bz_goto (tgt := 9) dX1_rimSign_66 rfl ?_
        exact ih (k + 1) (min t k) (some k) (by omega) (by omega) h
    · rw [rs_a, if_pos (by omega)] at h
      refine bz_iconst dX1_rimSign_33 kc_iconst_0 ?_
      refine bz_iret dX1_rimSign_34 rfl ?_ rfl
      rw [h0 h.symm]
      rfl
theorem t_rs_2 (hn : 9 ≤ n) {a c b : Nat} {R : Int} {t0 : Nat} (ha : a < 30) (hc : c < 30) (hb : b < 6) (ht0 : t0 ≤ b) {res : Bool} (h0 : res = false → R = 0) (h1 : res = true → R = if (b - t0) % 2 = 0 then 1 else -1) :
    ∀ (m k : Nat), k + m = b → rs_l a c m k = res → bz_V l ad K n mX1_rimSign 2 (some (.int (Int32.ofInt R))) σ 72 [some (.ref (ad 0)), some (.int (nI a)), some (.int (nI c)), some (.int (nI t0)), some (.int (nI b)), some (.int (nI k))] [] σ := by
  intro m
  induction m with
  | zero =>
    intro k hk h
    obtain rfl : k = b := by omega
    rw [rs_l] at h
    refine bz_iload dX1_rimSign_72 rfl ?_
    refine bz_iload dX1_rimSign_74 rfl ?_
    refine bz_icmp_geN (tgt := 108) dX1_rimSign_76 rfl (by omega) (by omega) (fun _ => ?_) (fun q => absurd q (by omega))
    refine bz_iload dX1_rimSign_108 rfl ?_
    refine bz_iload_n dX1_rimSign_110 rfl ?_
    refine bz_isubN dX1_rimSign_111 ht0 ?_
    refine bz_iconst dX1_rimSign_112 kc_iconst_2 ?_
    refine bz_iremN dX1_rimSign_113 (by omega) (by omega) (by omega) ?_
    rw [h1 h.symm]
    have hlt : (k - t0) % 2 < 2 := Nat.mod_lt _ (by omega)
    refine bz_if_ne (tgt := 121) dX1_rimSign_114 rfl (fun hz => ?_) (fun hz => ?_)
    · refine bz_iconst dX1_rimSign_121 kc_iconst_m1 ?_
      refine bz_iret dX1_rimSign_122 rfl ?_ rfl
      have : ¬ (k - t0) % 2 = 0 := fun q => hz (by rw [q]; rfl)
      rw [if_neg this]
      rfl
    · refine bz_iconst dX1_rimSign_117 kc_iconst_1 ?_
      refine bz_goto (tgt := 122) dX1_rimSign_118 rfl ?_
      refine bz_iret dX1_rimSign_122 rfl ?_ rfl
      have : (k - t0) % 2 = 0 := by
        rcases Nat.eq_zero_or_pos ((k - t0) % 2) with q | q
        · exact q
        · exact absurd hz (nI_ne0 q (by omega))
      rw [if_pos this]
      rfl
  | succ m ih =>
    intro k hk h
    have p1 := @xp_partlt a (k + 1)
    have p2 := @xp_partlt c k
    refine bz_iload dX1_rimSign_72 rfl ?_
    refine bz_iload dX1_rimSign_74 rfl ?_
    refine bz_icmp_geN (tgt := 108) dX1_rimSign_76 rfl (by omega) (by omega) (fun q => absurd q (by omega)) (fun _ => ?_)
    refine bz_aload_n dX1_rimSign_79 rfl ?_
    refine bz_iload_n dX1_rimSign_80 rfl ?_
    refine bz_iload dX1_rimSign_81 rfl ?_
    refine bz_cV2I (z := 0) mv_X1_partAt mi_X1_partAt lk_X1_70 dX1_rimSign_83 (by exact t_partAt hc (by omega)) (by omega) rfl (by omega) rfl rfl rfl (Nat.le_of_ble_eq_true rfl) (Nat.le_of_ble_eq_true rfl) ?_
    refine bz_aload_n dX1_rimSign_86 rfl ?_
    refine bz_iload_n dX1_rimSign_87 rfl ?_
    refine bz_iload dX1_rimSign_88 rfl ?_
    refine bz_iconst dX1_rimSign_90 kc_iconst_1 ?_
    first | refine bz_iaddN dX1_rimSign_91 ?_ | refine bz_iadd dX1_rimSign_91 ?_
    refine bz_cV2I (z := 0) mv_X1_partAt mi_X1_partAt lk_X1_70 dX1_rimSign_92 (by exact t_partAt ha (by omega)) (by omega) rfl (by omega) rfl rfl rfl (Nat.le_of_ble_eq_true rfl) (Nat.le_of_ble_eq_true rfl) ?_
    refine bz_iconst dX1_rimSign_95 kc_iconst_1 ?_
    refine bz_isub dX1_rimSign_96 ?_
    refine bz_icmp_eq (tgt := 102) dX1_rimSign_97 rfl (fun he => ?_) (fun he => ?_)
    · rw [rs_l, if_pos ((nI_sub1 _ p2 _ p1).mp he)] at h
      first | refine bz_iinc5N dX1_rimSign_102 (by decide) rfl ?_ | refine bz_iinc5 dX1_rimSign_102 rfl (by decide) rfl ?_
      refine bz_goto (tgt := 72) dX1_rimSign_105 rfl ?_
      exact ih (k + 1) (by omega) h
    · rw [rs_l, if_neg (fun q => he ((nI_sub1 _ p2 _ p1).mpr q))] at h
      refine bz_iconst dX1_rimSign_100 kc_iconst_0 ?_
      refine bz_iret dX1_rimSign_101 rfl ?_ rfl
      rw [h0 h.symm]
      rfl
theorem t_rimSign (hn : 9 ≤ n) {a c : Nat} (ha : a < 30) (hc : c < 30) (hok : rs_ok a c = true) : bz_V l ad K n mX1_rimSign 2 (some (.int (Int32.ofInt (rs a c)))) σ 0 [some (.ref (ad 0)), some (.int (nI a)), some (.int (nI c)), none, none, none] [] σ := by
  refine bz_bipush dX1_rimSign_0 kc_bipush_6 ?_
  refine bz_ist3 dX1_rimSign_2 (by decide) rfl ?_
  refine bz_iconst dX1_rimSign_3 kc_iconst_m1 ?_
  refine bz_ist4 dX1_rimSign_4 (by decide) rfl ?_
  refine bz_iconst dX1_rimSign_6 kc_iconst_0 ?_
  refine bz_ist5 dX1_rimSign_7 (by decide) rfl ?_
  refine t_rs_1 (res := rs_a a c 6 0 6 none) hn ha hc (fun h => by rw [rs, h]) (fun t bo x5 h => ?_) 6 0 6 none rfl (by omega) rfl
  cases bo with
  | none => rw [rs_ok, h] at hok; cases hok
  | some b =>
    have hb : t ≤ b ∧ b < 6 := by
      rw [rs_ok, h] at hok
      simpa using hok
    refine bz_iload_n dX1_rimSign_69 rfl ?_
    refine bz_ist5 dX1_rimSign_70 (by decide) rfl ?_
    exact t_rs_2 (res := rs_l a c (b - t) t) hn ha hc hb.2 hb.1 (fun q => by rw [rs, h]; simp [q]) (fun q => by rw [rs, h]; simp [q]) (b - t) t (by omega) rfl
end C1
