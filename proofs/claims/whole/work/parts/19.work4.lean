/-! Work: plugWith, valueAt -/
/-- the rows that hold the sum with powers in the variables' place, those before k done -/
def wk_sts (σ : bz_S) (k2 k : Nat) : bz_S := (fun a => if 15 ≤ a ∧ a < 14 + k then wk_st (bz_upto (σ.1 a) (fun _ => 0) 30) (σ.1 k2) (a - 14) 30 else σ.1 a, σ.2)
theorem wk_sts_1 (σ : bz_S) (k2 : Nat) : wk_sts σ k2 1 = σ := by
  unfold wk_sts
  have : (fun a => if 15 ≤ a ∧ a < 14 + 1 then wk_st (bz_upto (σ.1 a) (fun _ => 0) 30) (σ.1 k2) (a - 14) 30 else σ.1 a) = σ.1 := by
    funext a
    rw [if_neg (by omega)]
  rw [this]
theorem wk_sts_s {σ : bz_S} {k2 k : Nat} (hk : 1 ≤ k) (h2 : k2 < 14 ∨ 20 < k2) (hk7 : k < 7) : bz_setJ (wk_sts σ k2 k) (14 + k) (wk_st (bz_upto ((wk_sts σ k2 k).1 (14 + k)) (fun _ => 0) 30) ((wk_sts σ k2 k).1 k2) k 30) = wk_sts σ k2 (k + 1) := by
  have e1 : (wk_sts σ k2 k).1 (14 + k) = σ.1 (14 + k) := by
    show (if _ then _ else _) = _
    rw [if_neg (by omega)]
  have e2 : (wk_sts σ k2 k).1 k2 = σ.1 k2 := by
    show (if _ then _ else _) = _
    rw [if_neg (by omega)]
  rw [e1, e2]
  unfold bz_setJ wk_sts
  congr 1
  funext a
  by_cases h : a = 14 + k
  · subst h
    rw [if_pos rfl, if_pos (by omega), Nat.add_sub_cancel_left]
  · rw [if_neg h]
    show (if 15 ≤ a ∧ a < 14 + k then _ else _) = _
    by_cases q : 15 ≤ a ∧ a < 14 + k
    · rw [if_pos q, if_pos (by omega)]
    · rw [if_neg q, if_neg (by omega)]
section WN
variable {l : Launch} {ad : Nat → Nat} {K : bz_K} {σ σ' : bz_S} {k1 k2 k3 : Nat} {r : Option Value}
theorem t_pl_1 (h2 : bz_sh k2 = (1, 30, 0, [])) (hk2 : k2 < 73) (h2n : k2 < 14 ∨ 20 < k2) (hT : pz_T σ.2.1) (k : bz_V l ad K 73 mX2_plugWith 5 r σ' 30 [some (.ref (ad 12)), some (.ref (ad k1)), some (.ref (ad k2)), some (.ref (ad k3)), some (.int (nI 7)), none] [] (wk_sts σ k2 7)) :
    ∀ (m i : Nat), i + m = 7 → 1 ≤ i → bz_V l ad K 73 mX2_plugWith 5 r σ' 3 [some (.ref (ad 12)), some (.ref (ad k1)), some (.ref (ad k2)), some (.ref (ad k3)), some (.int (nI i)), none] [] (wk_sts σ k2 i) := by
  intro m
  induction m with
  | zero =>
    intro i hi h1
    obtain rfl : i = 7 := by omega
    refine bz_iload dX2_plugWith_3 rfl ?_
    refine bz_bipush dX2_plugWith_5 kc_bipush_6 ?_
    refine bz_icmp_gtN (tgt := 30) dX2_plugWith_7 rfl (by omega) (by omega) (fun _ => ?_) (fun q => absurd q (by omega))
    exact k
  | succ m ih =>
    intro i hi h1
    have h14 := bz_sh14 i (by omega)
    refine bz_iload dX2_plugWith_3 rfl ?_
    refine bz_bipush dX2_plugWith_5 kc_bipush_6 ?_
    refine bz_icmp_gtN (tgt := 30) dX2_plugWith_7 rfl (by omega) (by omega) (fun q => absurd q (by omega)) (fun _ => ?_)
    refine bz_aload_n dX2_plugWith_10 rfl ?_
    refine bz_aload_n dX2_plugWith_11 rfl ?_
    refine bz_iload dX2_plugWith_12 rfl ?_
    refine bz_aload_n dX2_plugWith_14 rfl ?_
    refine bz_getf fl_X2_11 dX2_plugWith_15 rfl rfl (by omega) ?_
    refine bz_iload dX2_plugWith_18 rfl ?_
    refine bz_aaload dX2_plugWith_20 rfl (by omega) (by omega) ?_
    refine bz_cV3U (z := 2) mv_X2_stretch mi_X2_stretch lk_X2_72 dX2_plugWith_21 (by exact t_stretch (by omega) h1 h2 h14 hk2 (by omega) (by omega) (by exact hT)) (by omega) rfl (by omega) rfl rfl rfl (Nat.le_of_ble_eq_true rfl) (Nat.le_of_ble_eq_true rfl) ?_
    first | refine bz_iinc4N dX2_plugWith_24 (by decide) rfl ?_ | refine bz_iinc4 dX2_plugWith_24 rfl (by decide) rfl ?_
    refine bz_goto (tgt := 3) dX2_plugWith_27 rfl ?_
    refine bz_st (wk_sts_s h1 h2n (by omega)) ?_
    exact ih (i + 1) (by omega) (by omega)
theorem t_pl_in {c : Nat} (hc : c < 30) (h1 : bz_sh k1 = (1, 30, 0, [])) (h3 : bz_sh k3 = (1, 30, 0, [])) (hk1 : k1 < 73) (hk3 : k3 < 73) (hn1 : k1 ≠ k3) (hn3 : k3 ≠ 21) {F : Nat → Int64} (hF : ∀ d, F d = σ.1 k3 d + σ.1 k1 c * σ.1 21 d)
    (k : bz_V l ad K 73 mX2_plugWith 5 r σ' 95 [some (.ref (ad 12)), some (.ref (ad k1)), some (.ref (ad k2)), some (.ref (ad k3)), some (.int (nI c)), some (.int (nI 30))] [] (bz_setJ σ k3 (bz_upto (σ.1 k3) F 30))) :
    ∀ (m i : Nat), i + m = 30 → bz_V l ad K 73 mX2_plugWith 5 r σ' 63 [some (.ref (ad 12)), some (.ref (ad k1)), some (.ref (ad k2)), some (.ref (ad k3)), some (.int (nI c)), some (.int (nI i))] [] (bz_setJ σ k3 (bz_upto (σ.1 k3) F i)) := by
  intro m
  induction m with
  | zero =>
    intro i hi
    obtain rfl : i = 30 := by omega
    refine bz_iload dX2_plugWith_63 rfl ?_
    refine bz_bipush dX2_plugWith_65 kc_bipush_30 ?_
    refine bz_icmp_geN (tgt := 95) dX2_plugWith_67 rfl (by omega) (by omega) (fun _ => ?_) (fun q => absurd q (by omega))
    exact k
  | succ m ih =>
    intro i hi
    refine bz_iload dX2_plugWith_63 rfl ?_
    refine bz_bipush dX2_plugWith_65 kc_bipush_30 ?_
    refine bz_icmp_geN (tgt := 95) dX2_plugWith_67 rfl (by omega) (by omega) (fun q => absurd q (by omega)) (fun _ => ?_)
    refine bz_aload_n dX2_plugWith_70 rfl ?_
    refine bz_iload dX2_plugWith_71 rfl ?_
    refine bz_dup2 dX2_plugWith_73 rfl rfl ?_
    refine bz_laload dX2_plugWith_74 h3 (by omega) (by omega) ?_
    refine bz_topl (y := σ.1 k3 i) (by rw [bz_setJ_at, bz_upto_ge (Nat.le_refl i)]) ?_
    refine bz_aload_n dX2_plugWith_75 rfl ?_
    refine bz_iload dX2_plugWith_76 rfl ?_
    refine bz_laload dX2_plugWith_78 h1 (by omega) (by omega) ?_
    refine bz_topl (y := σ.1 k1 c) (by rw [bz_setJ_ne hn1]) ?_
    refine bz_aload_n dX2_plugWith_79 rfl ?_
    refine bz_getf fl_X2_16 dX2_plugWith_80 rfl rfl (by omega) ?_
    refine bz_iload dX2_plugWith_83 rfl ?_
    refine bz_laload dX2_plugWith_85 rfl (by omega) (by omega) ?_
    refine bz_topl (y := σ.1 21 i) (by rw [bz_setJ_ne (fun q => hn3 q.symm)]) ?_
    refine bz_lmul dX2_plugWith_86 ?_
    refine bz_ladd dX2_plugWith_87 ?_
    refine bz_lastore dX2_plugWith_88 h3 (by omega) (by omega) ?_
    first | refine bz_iinc5N dX2_plugWith_89 (by decide) rfl ?_ | refine bz_iinc5 dX2_plugWith_89 rfl (by decide) rfl ?_
    refine bz_goto (tgt := 63) dX2_plugWith_92 rfl ?_
    refine bz_st (by rw [bz_upJ_set, bz_upto_s (hF i).symm]) ?_
    exact ih (i + 1) (by omega)
/-- what plugging changes: rows 21, 22 and k3 -/
def bz_pl (σ σ2 : bz_S) (k3 : Nat) : Prop := σ2.2 = σ.2 ∧ ∀ j, j ≠ 21 → j ≠ 22 → j ≠ k3 → σ2.1 j = σ.1 j
theorem bz_pl_tr {a b c : bz_S} {k3 : Nat} (h2 : bz_pl b c k3) (h1 : bz_pl a b k3) : bz_pl a c k3 := ⟨h2.1.trans h1.1, fun j q1 q2 q3 => (h2.2 j q1 q2 q3).trans (h1.2 j q1 q2 q3)⟩
theorem t_pl_2 {St : Nat → Nat → Int64} {I T : Nat → Int64} (h1 : bz_sh k1 = (1, 30, 0, [])) (h3 : bz_sh k3 = (1, 30, 0, [])) (hk1 : k1 < 73) (hk3 : k3 < 73) (hn1 : k1 ≠ k3) (h11 : k1 ≠ 21 ∧ k1 ≠ 22) (h33 : k3 < 14 ∨ 22 < k3) :
    ∀ (m c : Nat) (σ : bz_S) (x5 : Option Value), c + m = 30 → pz_T σ.2.1 → (∀ k, k < 7 → ∀ j, j < 30 → σ.1 (14 + k) j = St k j) → (∀ j, j < 30 → σ.1 k1 j = I j) →
      (∀ j, j < 30 → σ.1 k3 j + zsum (fun c => I c * wk_pp St c (xt_len c) j) c m = T j) →
      ∃ σ2, bz_V l ad K 73 mX2_plugWith 5 none σ2 38 [some (.ref (ad 12)), some (.ref (ad k1)), some (.ref (ad k2)), some (.ref (ad k3)), some (.int (nI c)), x5] [] σ ∧ bz_pl σ σ2 k3 ∧ ∀ j, j < 30 → σ2.1 k3 j = T j / 720 := by
  intro m
  induction m with
  | zero =>
    intro c σ x5 hc hT hSt hI hTT
    obtain rfl : c = 30 := by omega
    refine ⟨bz_setJ σ k3 (bz_upto (σ.1 k3) (fun j => σ.1 k3 j / 720) 30), ?_, ⟨rfl, fun j _ _ q => bz_setJ_ne q⟩, fun j hj => by rw [bz_setJ_at, bz_upto_lt hj, zsum_end (hTT j hj)]⟩
    refine bz_iload dX2_plugWith_38 rfl ?_
    refine bz_bipush dX2_plugWith_40 kc_bipush_30 ?_
    refine bz_icmp_geN (tgt := 101) dX2_plugWith_42 rfl (by omega) (by omega) (fun _ => ?_) (fun q => absurd q (by omega))
    refine bz_aload_n dX2_plugWith_101 rfl ?_
    refine bz_cS1U (z := 1) mv_X2_divideByCommon ws_X2_divideByCommon lk_X2_37 dX2_plugWith_102 (by exact t_div h3 hk3) (by omega) rfl (Nat.le_of_ble_eq_true rfl) (Nat.le_of_ble_eq_true rfl) ?_
    refine bz_vret dX2_plugWith_105 rfl rfl
  | succ m ih =>
    intro c σ x5 hc hT hSt hI hTT
    have h30 : c < 30 := by omega
    by_cases h0 : I c = 0
    · obtain ⟨σ2, hV, hpl, hr⟩ := ih (c + 1) σ x5 (by omega) hT hSt hI (fun j hj => by
        have := hTT j hj
        rw [zsum, h0, Int64.zero_mul, Int64.zero_add] at this
        exact this)
      refine ⟨σ2, ?_, hpl, hr⟩
      refine bz_iload dX2_plugWith_38 rfl ?_
      refine bz_bipush dX2_plugWith_40 kc_bipush_30 ?_
      refine bz_icmp_geN (tgt := 101) dX2_plugWith_42 rfl (by omega) (by omega) (fun q => absurd q (by omega)) (fun _ => ?_)
      refine bz_aload_n dX2_plugWith_45 rfl ?_
      refine bz_iload dX2_plugWith_46 rfl ?_
      refine bz_laload dX2_plugWith_48 h1 (by omega) h30 ?_
      refine bz_topl (y := 0) ((hI c h30).trans h0) ?_
      refine bz_lconst dX2_plugWith_49 kc_lconst_0 ?_
      refine bz_lcmp dX2_plugWith_50 ?_
      refine bz_if_eq (tgt := 95) dX2_plugWith_51 rfl (fun _ => ?_) (fun q => absurd (bz_cmp0.mpr rfl) q)
      first | refine bz_iinc4N dX2_plugWith_95 (by decide) rfl ?_ | refine bz_iinc4 dX2_plugWith_95 rfl (by decide) rfl ?_
      refine bz_goto (tgt := 38) dX2_plugWith_98 rfl ?_
      exact hV
    · obtain ⟨σa, hVa, hpa, hra⟩ := t_plugPower (l := l) (ad := ad) (K := K) (St := St) h30 hT hSt
      have ek1 : σa.1 k1 = σ.1 k1 := hpa.2 k1 h11.1 h11.2
      have ek3 : σa.1 k3 = σ.1 k3 := hpa.2 k3 (by omega) (by omega)
      obtain ⟨σ2, hV, hpl, hr⟩ := ih (c + 1) (bz_setJ σa k3 (bz_upto (σa.1 k3) (fun d => σa.1 k3 d + σa.1 k1 c * σa.1 21 d) 30)) (some (.int (nI 30))) (by omega) (by show pz_T σa.2.1; rw [hpa.1]; exact hT)
        (fun k hk j hj => by rw [bz_setJ_ne (by omega), hpa.2 _ (by omega) (by omega)]; exact hSt k hk j hj)
        (fun j hj => by rw [bz_setJ_ne hn1, ek1]; exact hI j hj)
        (fun j hj => by
          rw [bz_setJ_at, bz_upto_lt hj, ek3, ek1, hI c h30, hra j hj]
          have h9 := zsum_step (hTT j hj)
          exact h9)
      refine ⟨σ2, ?_, bz_pl_tr hpl ⟨hpa.1, fun j q1 q2 q3 => by rw [bz_setJ_ne q3, hpa.2 j q1 q2]⟩, hr⟩
      refine bz_iload dX2_plugWith_38 rfl ?_
      refine bz_bipush dX2_plugWith_40 kc_bipush_30 ?_
      refine bz_icmp_geN (tgt := 101) dX2_plugWith_42 rfl (by omega) (by omega) (fun q => absurd q (by omega)) (fun _ => ?_)
      refine bz_aload_n dX2_plugWith_45 rfl ?_
      refine bz_iload dX2_plugWith_46 rfl ?_
      refine bz_laload dX2_plugWith_48 h1 (by omega) h30 ?_
      refine bz_lconst dX2_plugWith_49 kc_lconst_0 ?_
      refine bz_lcmp dX2_plugWith_50 ?_
      refine bz_if_eq (tgt := 95) dX2_plugWith_51 rfl (fun q => absurd q (fun q => h0 ((hI c h30).symm.trans (bz_cmp0.mp q)))) (fun _ => ?_)
      refine bz_aload_n dX2_plugWith_54 rfl ?_
      refine bz_iload dX2_plugWith_55 rfl ?_
      refine bz_cV1U (z := 2) mv_X2_plugPower mi_X2_plugPower lk_X2_76 dX2_plugWith_57 (by exact hVa) (by omega) rfl (by omega) rfl rfl rfl (Nat.le_of_ble_eq_true rfl) (Nat.le_of_ble_eq_true rfl) ?_
      refine bz_iconst dX2_plugWith_60 kc_iconst_0 ?_
      refine bz_ist5 dX2_plugWith_61 (by decide) rfl ?_
      refine bz_st (by rw [bz_setJ_id (bz_upto_0 _ (fun d => σa.1 k3 d + σa.1 k1 c * σa.1 21 d))]) (t_pl_in h30 h1 h3 hk1 hk3 hn1 (by omega) (fun d => rfl) ?_ 30 0 rfl)
      first | refine bz_iinc4N dX2_plugWith_95 (by decide) rfl ?_ | refine bz_iinc4 dX2_plugWith_95 rfl (by decide) rfl ?_
      refine bz_goto (tgt := 38) dX2_plugWith_98 rfl ?_
      exact hV
def wk_plug (I x : Nat → Int64) (j : Nat) : Int64 := zsum (fun c => I c * wk_pp (wk_str x) c (xt_len c) j) 0 30
/-- what plugWith changes: rows 14 to 22 and k3 -/
def bz_pq (σ σ2 : bz_S) (k3 : Nat) : Prop := σ2.2 = σ.2 ∧ ∀ j, j < 14 ∨ 22 < j → j ≠ k3 → σ2.1 j = σ.1 j
theorem wk_pp_congr {St St' : Nat → Nat → Int64} {c : Nat} (hc : c < 30) (h : ∀ k, 1 ≤ k → k < 7 → ∀ j, j < 30 → St k j = St' k j) (hp : ∀ i, i < xt_len c → 1 ≤ xp_part c i) : ∀ i, i ≤ xt_len c → ∀ j, wk_pp St c i j = wk_pp St' c i j := by
  have hl6 := xt_len6 c hc
  intro i
  induction i with
  | zero => intro _ j; rfl
  | succ i ih =>
    intro hi j
    have hp6 := xt_part6 c hc i (by omega)
    rw [wk_pp, wk_pp]
    exact congrArg (fun z => z / 720) (wk_mul_congr (fun q hq => h _ (hp i (by omega)) (by omega) q hq) (fun q _ => ih (by omega) q) j)
theorem t_plugWith (h1 : bz_sh k1 = (1, 30, 0, [])) (h2 : bz_sh k2 = (1, 30, 0, [])) (h3 : bz_sh k3 = (1, 30, 0, [])) (hk1 : k1 < 73) (hk2 : k2 < 73) (hk3 : k3 < 73) (hn1 : k1 ≠ k3) (hn2 : k2 ≠ k3) (h11 : k1 < 14 ∨ 22 < k1) (h22 : k2 < 14 ∨ 22 < k2) (h33 : k3 < 14 ∨ 22 < k3) (hT : pz_T σ.2.1) :
    ∃ σ2, bz_V l ad K 73 mX2_plugWith 5 none σ2 0 [some (.ref (ad 12)), some (.ref (ad k1)), some (.ref (ad k2)), some (.ref (ad k3)), none, none] [] σ ∧ bz_pq σ σ2 k3 ∧ ∀ j, j < 30 → σ2.1 k3 j = wk_plug (σ.1 k1) (σ.1 k2) j / 720 := by
  have es : ∀ j, j < 14 ∨ 22 < j → (wk_sts σ k2 7).1 j = σ.1 j := fun j hj => by
    show (if _ then _ else _) = _
    rw [if_neg (by omega)]
  have er : ∀ k, 1 ≤ k → k < 7 → ∀ j, j < 30 → (wk_sts σ k2 7).1 (14 + k) j = wk_str (σ.1 k2) k j := fun k h1 h2 j hj => by
    show (if _ then _ else _ : Nat → Int64) j = _
    rw [if_pos (by omega), Nat.add_sub_cancel_left]
    unfold wk_st wk_str
    rw [bz_upto_lt hj, Int64.zero_add]
  obtain ⟨σ2, hV, hpl, hr⟩ := t_pl_2 (l := l) (ad := ad) (K := K) (k1 := k1) (k2 := k2) (k3 := k3) (St := fun k j => (wk_sts σ k2 7).1 (14 + k) j) (I := σ.1 k1) (T := wk_plug (σ.1 k1) (σ.1 k2)) h1 h3 hk1 hk3 hn1 (by omega) (by omega) 30 0 (bz_setJ (wk_sts σ k2 7) k3 (bz_upto ((wk_sts σ k2 7).1 k3) (fun _ => 0) 30)) none rfl (by exact hT)
    (fun k hk j hj => by rw [bz_setJ_ne (by omega)]) (fun j hj => by rw [bz_setJ_ne hn1, es k1 h11])
    (fun j hj => by
      rw [bz_setJ_at, bz_upto_lt hj, Int64.zero_add]
      unfold wk_plug
      refine zsum_congr _ _ (fun c _ hc => ?_)
      rw [wk_pp_congr (St' := wk_str (σ.1 k2)) (by omega) er (xt_part1 c (by omega)) (xt_len c) (Nat.le_refl _) j])
  refine ⟨σ2, ?_, ⟨hpl.1, fun j q1 q2 => by rw [hpl.2 j (by omega) (by omega) q2, bz_setJ_ne q2, es j q1]⟩, hr⟩
  refine bz_iconst dX2_plugWith_0 kc_iconst_1 ?_
  refine bz_ist4 dX2_plugWith_1 (by decide) rfl ?_
  refine bz_st (wk_sts_1 σ k2).symm (t_pl_1 h2 hk2 (by omega) hT ?_ 6 1 rfl (Nat.le_refl 1))
  refine bz_aload_n dX2_plugWith_30 rfl ?_
  refine bz_lconst dX2_plugWith_31 kc_lconst_0 ?_
  refine bz_cS2U (z := 2) mv_J7_fill_d0a16 ws_J7_fill_d0a16 lk_X2_27 dX2_plugWith_32 (by exact t_fill h3 hk3) (by omega) rfl (Nat.le_of_ble_eq_true rfl) (Nat.le_of_ble_eq_true rfl) ?_
  refine bz_iconst dX2_plugWith_35 kc_iconst_0 ?_
  refine bz_ist4 dX2_plugWith_36 (by decide) rfl ?_
  exact hV
/-- one product of powers in a value -/
def wk_v (w : Nat → Int64) (x y z : Int64) (i j k : Nat) : Int64 := w (xt_i3 i j k) * zpow x i * zpow y j * zpow z k
def wk_v2 (w : Nat → Int64) (x y z : Int64) (i j : Nat) : Int64 := zsum (wk_v w x y z i j) 0 (7 - i - j)
def wk_v1 (w : Nat → Int64) (x y z : Int64) (i : Nat) : Int64 := zsum (wk_v2 w x y z i) 0 (7 - i)
def wk_val (w : Nat → Int64) (x y z : Int64) : Int64 := zsum (wk_v1 w x y z) 0 7
theorem t_v3 {x y z T : Int64} {i j : Nat} (h1 : bz_sh k1 = (1, 30, 0, [])) (hk1 : k1 < 73) (hT : pz_T σ.2.1) (hij : i + j ≤ 6)
    (kk : ∀ x13 x14, bz_V l ad K 73 mX2_valueAt 2 r σ' 135 [some (.ref (ad 12)), some (.ref (ad k1)), some (.long x), none, some (.long y), none, some (.long z), none, some (.long T), none, some (.int (nI i)), some (.int (nI j)), some (.int (nI (7 - i - j))), x13, x14] [] σ) :
    ∀ (m k : Nat) (acc : Int64) (x13 x14 : Option Value), k + m = 7 - i - j → acc + zsum (wk_v (σ.1 k1) x y z i j) k m = T →
      bz_V l ad K 73 mX2_valueAt 2 r σ' 29 [some (.ref (ad 12)), some (.ref (ad k1)), some (.long x), none, some (.long y), none, some (.long z), none, some (.long acc), none, some (.int (nI i)), some (.int (nI j)), some (.int (nI k)), x13, x14] [] σ := by
  intro m
  induction m with
  | zero =>
    intro k acc x13 x14 hk hs
    obtain rfl : k = 7 - i - j := by omega
    obtain rfl := zsum_end hs
    refine bz_iload dX2_valueAt_29 rfl ?_
    refine bz_iload dX2_valueAt_31 rfl ?_
    first | refine bz_iaddN dX2_valueAt_33 ?_ | refine bz_iadd dX2_valueAt_33 ?_
    refine bz_iload dX2_valueAt_34 rfl ?_
    first | refine bz_iaddN dX2_valueAt_36 ?_ | refine bz_iadd dX2_valueAt_36 ?_
    refine bz_bipush dX2_valueAt_37 kc_bipush_6 ?_
    refine bz_icmp_gtN (tgt := 135) dX2_valueAt_39 rfl (by omega) (by omega) (fun _ => ?_) (fun q => absurd q (by omega))
    exact kk x13 x14
  | succ m ih =>
    intro k acc x13 x14 hk hs
    have hi3 := xt_i3_ok (i := i) (j := j) (k := k) (by omega)
    have hl3 := hi3.2.1
    refine bz_iload dX2_valueAt_29 rfl ?_
    refine bz_iload dX2_valueAt_31 rfl ?_
    first | refine bz_iaddN dX2_valueAt_33 ?_ | refine bz_iadd dX2_valueAt_33 ?_
    refine bz_iload dX2_valueAt_34 rfl ?_
    first | refine bz_iaddN dX2_valueAt_36 ?_ | refine bz_iadd dX2_valueAt_36 ?_
    refine bz_bipush dX2_valueAt_37 kc_bipush_6 ?_
    refine bz_icmp_gtN (tgt := 135) dX2_valueAt_39 rfl (by omega) (by omega) (fun q => absurd q (by omega)) (fun _ => ?_)
    refine bz_iload dX2_valueAt_42 rfl ?_
    refine bz_cSN1I (z := 0) mv_X1_markOf ws_X1_markOf lk_X2_99 dX2_valueAt_44 (by exact t_markOf (by omega)) (by omega) rfl (Nat.le_of_ble_eq_true rfl) (Nat.le_of_ble_eq_true rfl) ?_
    refine bz_iload dX2_valueAt_47 rfl ?_
    refine bz_cSN1I (z := 0) mv_X1_markOf ws_X1_markOf lk_X2_99 dX2_valueAt_49 (by exact t_markOf (by omega)) (by omega) rfl (Nat.le_of_ble_eq_true rfl) (Nat.le_of_ble_eq_true rfl) ?_
    first | refine bz_iaddN dX2_valueAt_52 ?_ | refine bz_iadd dX2_valueAt_52 ?_
    refine bz_iload dX2_valueAt_53 rfl ?_
    refine bz_cSN1I (z := 0) mv_X1_markOf ws_X1_markOf lk_X2_99 dX2_valueAt_55 (by exact t_markOf (by omega)) (by omega) rfl (Nat.le_of_ble_eq_true rfl) (Nat.le_of_ble_eq_true rfl) ?_
    first | refine bz_iaddN dX2_valueAt_58 ?_ | refine bz_iadd dX2_valueAt_58 ?_
    refine bz_ist13 dX2_valueAt_59 (by decide) rfl ?_
    refine bz_aload_n dX2_valueAt_61 rfl ?_
    refine bz_getf fl_X2_23 dX2_valueAt_62 rfl rfl (by omega) ?_
    refine bz_iload dX2_valueAt_65 rfl ?_
    refine bz_iload dX2_valueAt_67 rfl ?_
    refine bz_iload dX2_valueAt_69 rfl ?_
    first | refine bz_iaddN dX2_valueAt_71 ?_ | refine bz_iadd dX2_valueAt_71 ?_
    refine bz_iload dX2_valueAt_72 rfl ?_
    first | refine bz_iaddN dX2_valueAt_74 ?_ | refine bz_iadd dX2_valueAt_74 ?_
    refine bz_cVN2I (z := 2) mv_X1_numberOf mi_X1_numberOf lk_X2_102 dX2_valueAt_75 (by exact t_numberOf (by omega) hi3.2.2 (by omega) (by exact hT.2.2.1)) (by omega) rfl (by omega) rfl rfl rfl (Nat.le_of_ble_eq_true rfl) (Nat.le_of_ble_eq_true rfl) ?_
    refine bz_topi (y := nI (xt_i3 i j k)) (by rw [hi3.1]; rfl) ?_
    refine bz_ist14 dX2_valueAt_78 (by decide) rfl ?_
    refine bz_iload dX2_valueAt_80 rfl ?_
    refine bz_cSN1I (z := 0) mv_X3_isPartition ws_X3_isPartition lk_X2_55 dX2_valueAt_82 (by exact t_isPart hl3) (by omega) rfl (Nat.le_of_ble_eq_true rfl) (Nat.le_of_ble_eq_true rfl) ?_
    refine bz_if_eq (tgt := 129) dX2_valueAt_85 rfl (fun q => absurd q (by decide)) (fun _ => ?_)
    refine bz_aload_n dX2_valueAt_88 rfl ?_
    refine bz_iload dX2_valueAt_89 rfl ?_
    refine bz_laload dX2_valueAt_91 h1 (by omega) hl3 ?_
    refine bz_lconst dX2_valueAt_92 kc_lconst_0 ?_
    refine bz_lcmp dX2_valueAt_93 ?_
    have hs2 := zsum_step hs
    refine bz_if_eq (tgt := 129) dX2_valueAt_94 rfl (fun h => ?_) (fun h => ?_)
    · first | refine bz_iinc12N dX2_valueAt_129 (by decide) rfl ?_ | refine bz_iinc12 dX2_valueAt_129 rfl (by decide) rfl ?_
      refine bz_goto (tgt := 29) dX2_valueAt_132 rfl ?_
      refine ih (k + 1) acc _ _ (by omega) ?_
      rw [show wk_v (σ.1 k1) x y z i j k = 0 by unfold wk_v; rw [bz_cmp0.mp h]; simp, Int64.add_zero] at hs2
      exact hs2
    · refine bz_lload dX2_valueAt_97 rfl ?_
      refine bz_aload_n dX2_valueAt_99 rfl ?_
      refine bz_iload dX2_valueAt_100 rfl ?_
      refine bz_laload dX2_valueAt_102 h1 (by omega) hl3 ?_
      refine bz_lload_n dX2_valueAt_103 rfl ?_
      refine bz_iload dX2_valueAt_104 rfl ?_
      refine bz_cS2L (z := 3) mv_X2_powerOf ws_X2_powerOf lk_X2_105 dX2_valueAt_106 (by exact t_powerOf (by omega)) (by omega) rfl (Nat.le_of_ble_eq_true rfl) (Nat.le_of_ble_eq_true rfl) ?_
      refine bz_lmul dX2_valueAt_109 ?_
      refine bz_lload dX2_valueAt_110 rfl ?_
      refine bz_iload dX2_valueAt_112 rfl ?_
      refine bz_cS2L (z := 3) mv_X2_powerOf ws_X2_powerOf lk_X2_105 dX2_valueAt_114 (by exact t_powerOf (by omega)) (by omega) rfl (Nat.le_of_ble_eq_true rfl) (Nat.le_of_ble_eq_true rfl) ?_
      refine bz_lmul dX2_valueAt_117 ?_
      refine bz_lload dX2_valueAt_118 rfl ?_
      refine bz_iload dX2_valueAt_120 rfl ?_
      refine bz_cS2L (z := 3) mv_X2_powerOf ws_X2_powerOf lk_X2_105 dX2_valueAt_122 (by exact t_powerOf (by omega)) (by omega) rfl (Nat.le_of_ble_eq_true rfl) (Nat.le_of_ble_eq_true rfl) ?_
      refine bz_lmul dX2_valueAt_125 ?_
      refine bz_ladd dX2_valueAt_126 ?_
      refine bz_lst8 dX2_valueAt_127 (by decide) rfl ?_
      first | refine bz_iinc12N dX2_valueAt_129 (by decide) rfl ?_ | refine bz_iinc12 dX2_valueAt_129 rfl (by decide) rfl ?_
      refine bz_goto (tgt := 29) dX2_valueAt_132 rfl ?_
      exact ih (k + 1) _ _ _ (by omega) hs2
theorem t_v2 {x y z T : Int64} {i : Nat} (h1 : bz_sh k1 = (1, 30, 0, [])) (hk1 : k1 < 73) (hT : pz_T σ.2.1) (hi : i ≤ 6)
    (kk : ∀ x12 x13 x14, bz_V l ad K 73 mX2_valueAt 2 r σ' 141 [some (.ref (ad 12)), some (.ref (ad k1)), some (.long x), none, some (.long y), none, some (.long z), none, some (.long T), none, some (.int (nI i)), some (.int (nI (7 - i))), x12, x13, x14] [] σ) :
    ∀ (m j : Nat) (acc : Int64) (x12 x13 x14 : Option Value), j + m = 7 - i → acc + zsum (wk_v2 (σ.1 k1) x y z i) j m = T →
      bz_V l ad K 73 mX2_valueAt 2 r σ' 16 [some (.ref (ad 12)), some (.ref (ad k1)), some (.long x), none, some (.long y), none, some (.long z), none, some (.long acc), none, some (.int (nI i)), some (.int (nI j)), x12, x13, x14] [] σ := by
  intro m
  induction m with
  | zero =>
    intro j acc x12 x13 x14 hj hs
    obtain rfl : j = 7 - i := by omega
    obtain rfl := zsum_end hs
    refine bz_iload dX2_valueAt_16 rfl ?_
    refine bz_iload dX2_valueAt_18 rfl ?_
    first | refine bz_iaddN dX2_valueAt_20 ?_ | refine bz_iadd dX2_valueAt_20 ?_
    refine bz_bipush dX2_valueAt_21 kc_bipush_6 ?_
    refine bz_icmp_gtN (tgt := 141) dX2_valueAt_23 rfl (by omega) (by omega) (fun _ => ?_) (fun q => absurd q (by omega))
    exact kk x12 x13 x14
  | succ m ih =>
    intro j acc x12 x13 x14 hj hs
    have hs2 := zsum_step hs
    refine bz_iload dX2_valueAt_16 rfl ?_
    refine bz_iload dX2_valueAt_18 rfl ?_
    first | refine bz_iaddN dX2_valueAt_20 ?_ | refine bz_iadd dX2_valueAt_20 ?_
    refine bz_bipush dX2_valueAt_21 kc_bipush_6 ?_
    refine bz_icmp_gtN (tgt := 141) dX2_valueAt_23 rfl (by omega) (by omega) (fun q => absurd q (by omega)) (fun _ => ?_)
    refine bz_iconst dX2_valueAt_26 kc_iconst_0 ?_
    refine bz_ist12 dX2_valueAt_27 (by decide) rfl ?_
    refine t_v3 (T := acc + wk_v2 (σ.1 k1) x y z i j) h1 hk1 hT (by omega) (fun x13 x14 => ?_) (7 - i - j) 0 acc x13 x14 (Nat.zero_add _) rfl
    first | refine bz_iinc11N dX2_valueAt_135 (by decide) rfl ?_ | refine bz_iinc11 dX2_valueAt_135 rfl (by decide) rfl ?_
    refine bz_goto (tgt := 16) dX2_valueAt_138 rfl ?_
    exact ih (j + 1) _ _ _ _ (by omega) hs2
theorem t_v1 {x y z T : Int64} (h1 : bz_sh k1 = (1, 30, 0, [])) (hk1 : k1 < 73) (hT : pz_T σ.2.1) :
    ∀ (m i : Nat) (acc : Int64) (x11 x12 x13 x14 : Option Value), i + m = 7 → acc + zsum (wk_v1 (σ.1 k1) x y z) i m = T →
      bz_V l ad K 73 mX2_valueAt 2 (some (.long T)) σ 6 [some (.ref (ad 12)), some (.ref (ad k1)), some (.long x), none, some (.long y), none, some (.long z), none, some (.long acc), none, some (.int (nI i)), x11, x12, x13, x14] [] σ := by
  intro m
  induction m with
  | zero =>
    intro i acc x11 x12 x13 x14 hi hs
    obtain rfl : i = 7 := by omega
    obtain rfl := zsum_end hs
    refine bz_iload dX2_valueAt_6 rfl ?_
    refine bz_bipush dX2_valueAt_8 kc_bipush_6 ?_
    refine bz_icmp_gtN (tgt := 147) dX2_valueAt_10 rfl (by omega) (by omega) (fun _ => ?_) (fun q => absurd q (by omega))
    refine bz_lload dX2_valueAt_147 rfl ?_
    refine bz_lret dX2_valueAt_149 rfl rfl rfl
  | succ m ih =>
    intro i acc x11 x12 x13 x14 hi hs
    have hs2 := zsum_step hs
    refine bz_iload dX2_valueAt_6 rfl ?_
    refine bz_bipush dX2_valueAt_8 kc_bipush_6 ?_
    refine bz_icmp_gtN (tgt := 147) dX2_valueAt_10 rfl (by omega) (by omega) (fun q => absurd q (by omega)) (fun _ => ?_)
    refine bz_iconst dX2_valueAt_13 kc_iconst_0 ?_
    refine bz_ist11 dX2_valueAt_14 (by decide) rfl ?_
    refine t_v2 (T := acc + wk_v1 (σ.1 k1) x y z i) h1 hk1 hT (by omega) (fun x12 x13 x14 => ?_) (7 - i) 0 acc x12 x13 x14 (Nat.zero_add _) rfl
    first | refine bz_iinc10N dX2_valueAt_141 (by decide) rfl ?_ | refine bz_iinc10 dX2_valueAt_141 rfl (by decide) rfl ?_
    refine bz_goto (tgt := 6) dX2_valueAt_144 rfl ?_
    exact ih (i + 1) _ _ _ _ _ (by omega) hs2
theorem t_valueAt {x y z : Int64} (h1 : bz_sh k1 = (1, 30, 0, [])) (hk1 : k1 < 73) (hT : pz_T σ.2.1) : bz_V l ad K 73 mX2_valueAt 2 (some (.long (wk_val (σ.1 k1) x y z))) σ 0 [some (.ref (ad 12)), some (.ref (ad k1)), some (.long x), none, some (.long y), none, some (.long z), none, none, none, none, none, none, none, none] [] σ := by
  refine bz_lconst dX2_valueAt_0 kc_lconst_0 ?_
  refine bz_lst8 dX2_valueAt_1 (by decide) rfl ?_
  refine bz_iconst dX2_valueAt_3 kc_iconst_0 ?_
  refine bz_ist10 dX2_valueAt_4 (by decide) rfl ?_
  exact t_v1 h1 hk1 hT 7 0 0 none none none none rfl (Int64.zero_add _)
end WN
