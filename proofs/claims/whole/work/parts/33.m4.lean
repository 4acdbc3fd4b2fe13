/-! the reference: fillings -/
def fl_left (n w : Nat) : Nat → Nat
  | 0 => w
  | i + 1 => fl_left n w i / n
def fl_box (n w i : Nat) : Nat := fl_left n w i % n
def fl_cn (n w : Nat) (i v : Nat) : Nat := nsum (fun i => if fl_box n w i = v then 1 else 0) i
def fl_c (n w D b : Nat) : Nat → Nat → Bool
  | _, 0 => true
  | k, m + 1 => if fl_cn n w D k = xp_part b k then fl_c n w D b (k + 1) m else false
def fl_st (a row : Nat) : Nat := nsum (xp_part a) row
def fl_ab (a : Nat) : Nat → Nat
  | 0 => 0
  | row + 1 => fl_st a row
def fl_rk (n w a row : Nat) : Nat → Nat → Bool
  | _, 0 => true
  | k, m + 1 => if 0 < k ∧ fl_box n w (fl_st a row + k) < fl_box n w (fl_st a row + k - 1) then false else if 0 < row ∧ fl_box n w (fl_st a row + k) ≤ fl_box n w (fl_ab a row + k) then false else fl_rk n w a row (k + 1) m
def fl_r (n w a : Nat) : Nat → Nat → Bool
  | _, 0 => true
  | row, m + 1 => if fl_rk n w a row 0 (xp_part a row) then fl_r n w a (row + 1) m else false
def fl_is (n w a b : Nat) : Bool := if fl_c n w (xt_deg a) b 0 6 then fl_r n w a 0 6 else false
def fl_n (c : Bool) : Nat := if c then 1 else 0
theorem fl_left_le (n w : Nat) : ∀ i, fl_left n w i ≤ w
  | 0 => Nat.le_refl w
  | i + 1 => Nat.le_trans (Nat.div_le_self _ _) (fl_left_le n w i)
theorem fl_st_d : ∀ a, a < 30 → ∀ row, row < 6 → ∀ k, k < xp_part a row → fl_st a row + k < xt_deg a ∧ (0 < row → fl_ab a row + k < xt_deg a) := by decide +kernel
theorem fl_st_b : ∀ a, a < 30 → ∀ row, row < 7 → fl_st a row ≤ 6 ∧ fl_ab a row ≤ 6 := by decide +kernel
def fl_cf (f : Nat → Int32) (n w i : Nat) : Nat → Int32 := fun v => if v < 6 then nI (fl_cn n w i v) else f v
def fl_bf (f : Nat → Int32) (n w i : Nat) : Nat → Int32 := bz_upto f (fun i => nI (fl_box n w i)) i
theorem fl_cf_s {f : Nat → Int32} {n w i : Nat} (h6 : fl_box n w i < 6) {x : Int32} (hx : x = nI (fl_cn n w i (fl_box n w i) + 1)) : upd (fl_cf f n w i) (fl_box n w i) x = fl_cf f n w (i + 1) := by
  funext v
  unfold upd fl_cf
  by_cases e : v = fl_box n w i
  · subst e
    rw [if_pos rfl, if_pos h6, hx, show fl_cn n w (i + 1) (fl_box n w i) = fl_cn n w i (fl_box n w i) + (if fl_box n w i = fl_box n w i then 1 else 0) from rfl, if_pos rfl]
  · rw [if_neg e]
    by_cases q : v < 6
    · rw [if_pos q, if_pos q, show fl_cn n w (i + 1) v = fl_cn n w i v + (if fl_box n w i = v then 1 else 0) from rfl, if_neg (fun z => e z.symm), Nat.add_zero]
    · rw [if_neg q, if_neg q]
/-- the state behind it: boxes and counts -/
def fl_s (σ : bz_S) (n w i : Nat) : bz_S := bz_setI (bz_setI σ 62 (fl_cf (σ.2.1 62) n w i)) 61 (fl_bf (σ.2.1 61) n w i)
theorem bz_upI_s2 {σ : bz_S} {j k i : Nat} {f g : Nat → Int32} {x : Int32} (h : j ≠ k) : bz_upI (bz_setI (bz_setI σ j f) k g) j i x = bz_setI (bz_setI σ j (upd f i x)) k g := by
  unfold bz_upI bz_setI
  congr 2
  funext a
  by_cases h1 : a = j
  · subst h1
    simp [h]
  · by_cases h2 : a = k
    · subst h2; simp [h1]
    · simp [h1, h2]
section M4
variable {l : Launch} {ad : Nat → Nat} {K : bz_K} {σ σ' : bz_S} {r : Option Value}
theorem mz_set {S : bz_S} {k : Nat} {f : Nat → Int32} (hk : 58 ≤ k) (h : mz_T S.2.1) : mz_T (bz_setI S k f).2.1 := ⟨fun i hi => by rw [bz_setI_ne (by omega)]; exact h.1 i hi, fun i hi => by rw [bz_setI_ne (by omega)]; exact h.2.1 i hi, fun i hi => by rw [bz_setI_ne (by omega)]; exact h.2.2 i hi⟩
theorem pz_set {S : bz_S} {k : Nat} {f : Nat → Int32} (hk : 58 ≤ k) (h : pz_T S.2.1) : pz_T (bz_setI S k f).2.1 := ⟨fun i hi => by rw [bz_setI_ne (by omega)]; exact h.1 i hi, fun i hi => by rw [bz_setI_ne (by omega)]; exact h.2.1 i hi, fun i hi => by rw [bz_setI_ne (by omega)]; exact h.2.2.1 i hi, fun i hi => by rw [bz_setI_ne (by omega)]; exact h.2.2.2.1 i hi, fun i hi => by rw [bz_setI_ne (by omega)]; exact h.2.2.2.2.1 i hi, fun i hi => by rw [bz_setI_ne (by omega)]; exact h.2.2.2.2.2.1 i hi, fun i hi => by rw [bz_setI_ne (by omega)]; exact h.2.2.2.2.2.2.1 i hi, fun i hi => by rw [bz_setI_ne (by omega)]; exact h.2.2.2.2.2.2.2 i hi⟩
theorem m_fl_1 {a b w n : Nat} (kk : bz_V l ad K 73 mX4_isFilled 1 r σ' 27 [some (.ref (ad 54)), some (.int (nI a)), some (.int (nI b)), some (.int (nI w)), some (.int (nI n)), some (.int (nI w)), some (.int (nI 6)), none, none, none] [] (bz_setI σ 62 (bz_upto (σ.2.1 62) (fun _ => nI 0) 6))) :
    ∀ (m k : Nat), k + m = 6 → bz_V l ad K 73 mX4_isFilled 1 r σ' 6 [some (.ref (ad 54)), some (.int (nI a)), some (.int (nI b)), some (.int (nI w)), some (.int (nI n)), some (.int (nI w)), some (.int (nI k)), none, none, none] [] (bz_setI σ 62 (bz_upto (σ.2.1 62) (fun _ => nI 0) k)) := by
  intro m
  induction m with
  | zero =>
    intro k hk
    obtain rfl : k = 6 := by omega
    refine bz_iload dX4_isFilled_6 rfl ?_
    refine bz_bipush dX4_isFilled_8 kc_bipush_6 ?_
    refine bz_icmp_geN (tgt := 27) dX4_isFilled_10 rfl (by omega) (by omega) (fun _ => ?_) (fun q => absurd q (by omega))
    exact kk
  | succ m ih =>
    intro k hk
    refine bz_iload dX4_isFilled_6 rfl ?_
    refine bz_bipush dX4_isFilled_8 kc_bipush_6 ?_
    refine bz_icmp_geN (tgt := 27) dX4_isFilled_10 rfl (by omega) (by omega) (fun q => absurd q (by omega)) (fun _ => ?_)
    refine bz_aload_n dX4_isFilled_13 rfl ?_
    refine bz_getf fl_X4_32 dX4_isFilled_14 rfl rfl (by omega) ?_
    refine bz_iload dX4_isFilled_17 rfl ?_
    refine bz_iconst dX4_isFilled_19 kc_iconst_0 ?_
    refine bz_iastore dX4_isFilled_20 rfl (by omega) (by omega) ?_
    first | refine bz_iinc6N dX4_isFilled_21 (by decide) rfl ?_ | refine bz_iinc6 dX4_isFilled_21 rfl (by decide) rfl ?_
    refine bz_goto (tgt := 6) dX4_isFilled_24 rfl ?_
    refine bz_st (by rw [bz_upI_set, bz_uptoI_s rfl]) ?_
    exact ih (k + 1) (by omega)
theorem m_fl_2 (hT : mz_T σ.2.1) {a b w n : Nat} (ha : a < 30) (hw : w < 2 ^ 31) (hn6 : n ≤ 6) (hn : xt_deg a = 0 ∨ 0 < n) (kk : bz_V l ad K 73 mX4_isFilled 1 r σ' 82 [some (.ref (ad 54)), some (.int (nI a)), some (.int (nI b)), some (.int (nI w)), some (.int (nI n)), some (.int (nI (fl_left n w (xt_deg a)))), some (.int (nI (xt_deg a))), none, none, none] [] (fl_s σ n w (xt_deg a))) :
    ∀ (m i : Nat), i + m = xt_deg a → bz_V l ad K 73 mX4_isFilled 1 r σ' 30 [some (.ref (ad 54)), some (.int (nI a)), some (.int (nI b)), some (.int (nI w)), some (.int (nI n)), some (.int (nI (fl_left n w i))), some (.int (nI i)), none, none, none] [] (fl_s σ n w i) := by
  have hd6 := xt_deg6 a ha
  have hTs : ∀ i, mz_T (fl_s σ n w i).2.1 := fun i => mz_set (by omega) (mz_set (by omega) hT)
  intro m
  induction m with
  | zero =>
    intro i hi
    obtain rfl : i = xt_deg a := by omega
    refine bz_iload dX4_isFilled_30 rfl ?_
    refine bz_aload_n dX4_isFilled_32 rfl ?_
    refine bz_getf fl_X4_13 dX4_isFilled_33 rfl rfl (by omega) ?_
    refine bz_iload_n dX4_isFilled_36 rfl ?_
    refine bz_iaload dX4_isFilled_37 rfl (by omega) (by omega) ?_
    refine bz_topi ((hTs _).2.1 a ha) ?_
    refine bz_icmp_geN (tgt := 82) dX4_isFilled_38 rfl (by omega) (by omega) (fun _ => ?_) (fun q => absurd q (by omega))
    exact kk
  | succ m ih =>
    intro i hi
    have hl := fl_left_le n w i
    have hb : fl_box n w i < n := Nat.mod_lt _ (by omega)
    refine bz_iload dX4_isFilled_30 rfl ?_
    refine bz_aload_n dX4_isFilled_32 rfl ?_
    refine bz_getf fl_X4_13 dX4_isFilled_33 rfl rfl (by omega) ?_
    refine bz_iload_n dX4_isFilled_36 rfl ?_
    refine bz_iaload dX4_isFilled_37 rfl (by omega) (by omega) ?_
    refine bz_topi ((hTs _).2.1 a ha) ?_
    refine bz_icmp_geN (tgt := 82) dX4_isFilled_38 rfl (by omega) (by omega) (fun q => absurd q (by omega)) (fun _ => ?_)
    refine bz_aload_n dX4_isFilled_41 rfl ?_
    refine bz_getf fl_X4_29 dX4_isFilled_42 rfl rfl (by omega) ?_
    refine bz_iload dX4_isFilled_45 rfl ?_
    refine bz_iload dX4_isFilled_47 rfl ?_
    refine bz_iload dX4_isFilled_49 rfl ?_
    refine bz_iremN dX4_isFilled_51 (by omega) (by omega) (by omega) ?_
    refine bz_iastore dX4_isFilled_52 rfl (by omega) (by omega) ?_
    refine bz_st (σ2 := bz_setI (bz_setI σ 62 (fl_cf (σ.2.1 62) n w i)) 61 (fl_bf (σ.2.1 61) n w (i + 1))) (by unfold fl_s; rw [bz_upI_set]; unfold fl_bf; rw [bz_uptoI_s (F := fun i => nI (fl_box n w i)) (x := nI (fl_left n w i % n)) rfl]) ?_
    refine bz_aload_n dX4_isFilled_53 rfl ?_
    refine bz_getf fl_X4_32 dX4_isFilled_54 rfl rfl (by omega) ?_
    refine bz_aload_n dX4_isFilled_57 rfl ?_
    refine bz_getf fl_X4_29 dX4_isFilled_58 rfl rfl (by omega) ?_
    refine bz_iload dX4_isFilled_61 rfl ?_
    refine bz_iaload dX4_isFilled_63 rfl (by omega) (by omega) ?_
    refine bz_topi (y := nI (fl_box n w i)) (by rw [bz_setI_at]; unfold fl_bf; rw [bz_upto_lt (by omega)]) ?_
    refine bz_dup2 dX4_isFilled_64 rfl rfl ?_
    refine bz_iaload dX4_isFilled_65 rfl (by omega) (by omega) ?_
    refine bz_topi (y := nI (fl_cn n w i (fl_box n w i))) (by rw [bz_setI_ne (by omega), bz_setI_at]; unfold fl_cf; rw [if_pos (by omega)]) ?_
    refine bz_iconst dX4_isFilled_66 kc_iconst_1 ?_
    first | refine bz_iaddN dX4_isFilled_67 ?_ | refine bz_iadd dX4_isFilled_67 ?_
    refine bz_iastore dX4_isFilled_68 rfl (by omega) (by omega) ?_
    refine bz_iload dX4_isFilled_69 rfl ?_
    refine bz_iload dX4_isFilled_71 rfl ?_
    refine bz_idivN dX4_isFilled_73 (by omega) (by omega) (by omega) ?_
    refine bz_ist5 dX4_isFilled_74 (by decide) rfl ?_
    first | refine bz_iinc6N dX4_isFilled_76 (by decide) rfl ?_ | refine bz_iinc6 dX4_isFilled_76 rfl (by decide) rfl ?_
    refine bz_goto (tgt := 30) dX4_isFilled_79 rfl ?_
    refine bz_st (σ2 := fl_s σ n w (i + 1)) (by rw [bz_upI_s2 (by omega), fl_cf_s (by omega) rfl]; rfl) ?_
    exact ih (i + 1) (by omega)
theorem m_fl_3 (hT : mz_T σ.2.1) {a b w n : Nat} (ha : a < 30) (hb : b < 30) {x5 : Int32} {S : bz_S} (hS : mz_T S.2.1) (hC : ∀ v, v < 6 → S.2.1 62 v = nI (fl_cn n w (xt_deg a) v)) (hcb : ∀ v, fl_cn n w (xt_deg a) v < 2 ^ 31)
    (kk : bz_V l ad K 73 mX4_isFilled 1 (some (.int (nI (fl_n (fl_r n w a 0 6))))) S 117 [some (.ref (ad 54)), some (.int (nI a)), some (.int (nI b)), some (.int (nI w)), some (.int (nI n)), some (.int x5), some (.int (nI 6)), none, none, none] [] S) :
    ∀ (m k : Nat), k + m = 6 → bz_V l ad K 73 mX4_isFilled 1 (some (.int (nI (fl_n (if fl_c n w (xt_deg a) b k m then fl_r n w a 0 6 else false))))) S 85 [some (.ref (ad 54)), some (.int (nI a)), some (.int (nI b)), some (.int (nI w)), some (.int (nI n)), some (.int x5), some (.int (nI k)), none, none, none] [] S := by
  intro m
  induction m with
  | zero =>
    intro k hk
    obtain rfl : k = 6 := by omega
    refine bz_iload dX4_isFilled_85 rfl ?_
    refine bz_bipush dX4_isFilled_87 kc_bipush_6 ?_
    refine bz_icmp_geN (tgt := 117) dX4_isFilled_89 rfl (by omega) (by omega) (fun _ => ?_) (fun q => absurd q (by omega))
    exact kk
  | succ m ih =>
    intro k hk
    have h6 : k < 6 := by omega
    have hp := xt_part6 b hb k h6
    have hcb1 := hcb k
    refine bz_iload dX4_isFilled_85 rfl ?_
    refine bz_bipush dX4_isFilled_87 kc_bipush_6 ?_
    refine bz_icmp_geN (tgt := 117) dX4_isFilled_89 rfl (by omega) (by omega) (fun q => absurd q (by omega)) (fun _ => ?_)
    refine bz_aload_n dX4_isFilled_92 rfl ?_
    refine bz_getf fl_X4_32 dX4_isFilled_93 rfl rfl (by omega) ?_
    refine bz_iload dX4_isFilled_96 rfl ?_
    refine bz_iaload dX4_isFilled_98 rfl (by omega) (by omega) ?_
    refine bz_topi (hC k h6) ?_
    refine bz_aload_n dX4_isFilled_99 rfl ?_
    refine bz_iload_n dX4_isFilled_100 rfl ?_
    refine bz_iload dX4_isFilled_101 rfl ?_
    refine bz_cV2I (z := 0) mv_X4_partOf mi_X4_partOf lk_X4_91 dX4_isFilled_103 (by exact m_partOf (by exact hS) hb h6) (by omega) rfl (by omega) rfl rfl rfl (Nat.le_of_ble_eq_true rfl) (Nat.le_of_ble_eq_true rfl) ?_
    refine bz_icmp_eqN (tgt := 111) dX4_isFilled_106 rfl (by omega) (by omega) (fun h => ?_) (fun h => ?_)
    · first | refine bz_iinc6N dX4_isFilled_111 (by decide) rfl ?_ | refine bz_iinc6 dX4_isFilled_111 rfl (by decide) rfl ?_
      refine bz_goto (tgt := 85) dX4_isFilled_114 rfl ?_
      have := ih (k + 1) (by omega)
      rw [fl_c, if_pos h]
      exact this
    · refine bz_iconst dX4_isFilled_109 kc_iconst_0 ?_
      refine bz_zret dX4_isFilled_110 rfl ?_ ?_ ?_
      · rfl
      · rw [fl_c, if_neg h]
        rfl
      · rfl
theorem m_fl_4k {a b w n row : Nat} (ha : a < 30) (hrow : row < 6) {x5 : Int32} {S : bz_S} (hS : mz_T S.2.1) (hn : n ≤ 6) (hB : ∀ i, i < xt_deg a → S.2.1 61 i = nI (fl_box n w i)) (hbb : ∀ i, i < xt_deg a → fl_box n w i < 6) {T : Bool}
    (kk : T = true → bz_V l ad K 73 mX4_isFilled 1 r S 214 [some (.ref (ad 54)), some (.int (nI a)), some (.int (nI b)), some (.int (nI w)), some (.int (nI n)), some (.int x5), some (.int (nI (fl_st a row))), some (.int (nI (fl_ab a row))), some (.int (nI row)), some (.int (nI (xp_part a row)))] [] S)
    (kf : T = false → r = some (.int (nI 0))) :
    ∀ (m k : Nat), k + m = xp_part a row → fl_rk n w a row k m = T → bz_V l ad K 73 mX4_isFilled 1 r S 136 [some (.ref (ad 54)), some (.int (nI a)), some (.int (nI b)), some (.int (nI w)), some (.int (nI n)), some (.int x5), some (.int (nI (fl_st a row))), some (.int (nI (fl_ab a row))), some (.int (nI row)), some (.int (nI k))] [] S := by
  have hp := xt_part6 a ha row hrow
  have hd6 := xt_deg6 a ha
  have hsb := fl_st_b a ha row (by omega)
  intro m
  induction m with
  | zero =>
    intro k hk ht
    obtain rfl : k = xp_part a row := by omega
    refine bz_iload dX4_isFilled_136 rfl ?_
    refine bz_aload_n dX4_isFilled_138 rfl ?_
    refine bz_iload_n dX4_isFilled_139 rfl ?_
    refine bz_iload dX4_isFilled_140 rfl ?_
    refine bz_cV2I (z := 0) mv_X4_partOf mi_X4_partOf lk_X4_91 dX4_isFilled_142 (by exact m_partOf (by exact hS) ha hrow) (by omega) rfl (by omega) rfl rfl rfl (Nat.le_of_ble_eq_true rfl) (Nat.le_of_ble_eq_true rfl) ?_
    refine bz_icmp_geN (tgt := 214) dX4_isFilled_145 rfl (by omega) (by omega) (fun _ => ?_) (fun q => absurd q (by omega))
    exact kk ht.symm
  | succ m ih =>
    intro k hk ht
    have hst := fl_st_d a ha row hrow k (by omega)
    have hst1 := hst.1
    have fin : ∀ k, T = false → bz_V l ad K 73 mX4_isFilled 1 r S 206 [some (.ref (ad 54)), some (.int (nI a)), some (.int (nI b)), some (.int (nI w)), some (.int (nI n)), some (.int x5), some (.int (nI (fl_st a row))), some (.int (nI (fl_ab a row))), some (.int (nI row)), some (.int (nI k))] [] S := by
      intro k hT
      rw [kf hT]
      refine bz_iconst dX4_isFilled_206 kc_iconst_0 ?_
      refine bz_zret dX4_isFilled_207 rfl rfl rfl rfl
    have c2 : ¬ (0 < k ∧ fl_box n w (fl_st a row + k) < fl_box n w (fl_st a row + k - 1)) → bz_V l ad K 73 mX4_isFilled 1 r S 178 [some (.ref (ad 54)), some (.int (nI a)), some (.int (nI b)), some (.int (nI w)), some (.int (nI n)), some (.int x5), some (.int (nI (fl_st a row))), some (.int (nI (fl_ab a row))), some (.int (nI row)), some (.int (nI k))] [] S := by
      intro hq
      rw [fl_rk, if_neg hq] at ht
      refine bz_iload dX4_isFilled_178 rfl ?_
      refine bz_if_le (tgt := 208) dX4_isFilled_180 rfl (fun h => ?_) (fun h => ?_)
      · have hr0 : ¬ 0 < row := fun q => absurd h (nI_nle q (by omega))
        rw [if_neg (fun q => hr0 q.1)] at ht
        first | refine bz_iinc9N dX4_isFilled_208 (by decide) rfl ?_ | refine bz_iinc9 dX4_isFilled_208 rfl (by decide) rfl ?_
        refine bz_goto (tgt := 136) dX4_isFilled_211 rfl ?_
        exact ih (k + 1) (by omega) ht
      · have hr0 : 0 < row := by
          rcases Nat.eq_zero_or_pos row with q | q
          · rw [q] at h; exact absurd (by decide) h
          · exact q
        have hab := hst.2 hr0
        have hb1 := hbb _ hst1
        have hb2 := hbb _ hab
        refine bz_aload_n dX4_isFilled_183 rfl ?_
        refine bz_getf fl_X4_29 dX4_isFilled_184 rfl rfl (by omega) ?_
        refine bz_iload dX4_isFilled_187 rfl ?_
        refine bz_iload dX4_isFilled_189 rfl ?_
        first | refine bz_iaddN dX4_isFilled_191 ?_ | refine bz_iadd dX4_isFilled_191 ?_
        refine bz_iaload dX4_isFilled_192 rfl (by omega) (by omega) ?_
        refine bz_topi (hB _ hst1) ?_
        refine bz_aload_n dX4_isFilled_193 rfl ?_
        refine bz_getf fl_X4_29 dX4_isFilled_194 rfl rfl (by omega) ?_
        refine bz_iload dX4_isFilled_197 rfl ?_
        refine bz_iload dX4_isFilled_199 rfl ?_
        first | refine bz_iaddN dX4_isFilled_201 ?_ | refine bz_iadd dX4_isFilled_201 ?_
        refine bz_iaload dX4_isFilled_202 rfl (by omega) (by omega) ?_
        refine bz_topi (hB _ hab) ?_
        refine bz_icmp_gtN (tgt := 208) dX4_isFilled_203 rfl (by omega) (by omega) (fun h2 => ?_) (fun h2 => ?_)
        · rw [if_neg (fun q => absurd q.2 (by omega))] at ht
          first | refine bz_iinc9N dX4_isFilled_208 (by decide) rfl ?_ | refine bz_iinc9 dX4_isFilled_208 rfl (by decide) rfl ?_
          refine bz_goto (tgt := 136) dX4_isFilled_211 rfl ?_
          exact ih (k + 1) (by omega) ht
        · rw [if_pos ⟨hr0, h2⟩] at ht
          exact fin k ht.symm
    refine bz_iload dX4_isFilled_136 rfl ?_
    refine bz_aload_n dX4_isFilled_138 rfl ?_
    refine bz_iload_n dX4_isFilled_139 rfl ?_
    refine bz_iload dX4_isFilled_140 rfl ?_
    refine bz_cV2I (z := 0) mv_X4_partOf mi_X4_partOf lk_X4_91 dX4_isFilled_142 (by exact m_partOf (by exact hS) ha hrow) (by omega) rfl (by omega) rfl rfl rfl (Nat.le_of_ble_eq_true rfl) (Nat.le_of_ble_eq_true rfl) ?_
    refine bz_icmp_geN (tgt := 214) dX4_isFilled_145 rfl (by omega) (by omega) (fun q => absurd q (by omega)) (fun _ => ?_)
    refine bz_iload dX4_isFilled_148 rfl ?_
    refine bz_if_le (tgt := 178) dX4_isFilled_150 rfl (fun h => ?_) (fun h => ?_)
    · have hk0 : ¬ 0 < k := fun q => absurd h (nI_nle q (by omega))
      exact c2 (fun q => hk0 q.1)
    · have hk0 : 0 < k := by
        rcases Nat.eq_zero_or_pos k with q | q
        · rw [q] at h; exact absurd (by decide) h
        · exact q
      have hb1 := hbb _ hst1
      have hb2 := hbb (fl_st a row + k - 1) (by omega)
      refine bz_aload_n dX4_isFilled_153 rfl ?_
      refine bz_getf fl_X4_29 dX4_isFilled_154 rfl rfl (by omega) ?_
      refine bz_iload dX4_isFilled_157 rfl ?_
      refine bz_iload dX4_isFilled_159 rfl ?_
      first | refine bz_iaddN dX4_isFilled_161 ?_ | refine bz_iadd dX4_isFilled_161 ?_
      refine bz_iaload dX4_isFilled_162 rfl (by omega) (by omega) ?_
      refine bz_topi (hB _ hst1) ?_
      refine bz_aload_n dX4_isFilled_163 rfl ?_
      refine bz_getf fl_X4_29 dX4_isFilled_164 rfl rfl (by omega) ?_
      refine bz_iload dX4_isFilled_167 rfl ?_
      refine bz_iload dX4_isFilled_169 rfl ?_
      first | refine bz_iaddN dX4_isFilled_171 ?_ | refine bz_iadd dX4_isFilled_171 ?_
      refine bz_iconst dX4_isFilled_172 kc_iconst_1 ?_
      refine bz_isubN dX4_isFilled_173 (by omega) ?_
      refine bz_iaload dX4_isFilled_174 rfl (by omega) (by omega) ?_
      refine bz_topi (hB _ (by omega)) ?_
      refine bz_icmp_ltN (tgt := 206) dX4_isFilled_175 rfl (by omega) (by omega) (fun h2 => ?_) (fun h2 => ?_)
      · rw [fl_rk, if_pos ⟨hk0, h2⟩] at ht
        exact fin k ht.symm
      · exact c2 (fun q => absurd q.2 (by omega))
theorem m_fl_4 {a b w n : Nat} (ha : a < 30) {x5 : Int32} {S : bz_S} (hS : mz_T S.2.1) (hn : n ≤ 6) (hB : ∀ i, i < xt_deg a → S.2.1 61 i = nI (fl_box n w i)) (hbb : ∀ i, i < xt_deg a → fl_box n w i < 6) :
    ∀ (m row : Nat) (x9 : Option Value), row + m = 6 → bz_V l ad K 73 mX4_isFilled 1 (some (.int (nI (fl_n (fl_r n w a row m))))) S 126 [some (.ref (ad 54)), some (.int (nI a)), some (.int (nI b)), some (.int (nI w)), some (.int (nI n)), some (.int x5), some (.int (nI (fl_st a row))), some (.int (nI (fl_ab a row))), some (.int (nI row)), x9] [] S := by
  intro m
  induction m with
  | zero =>
    intro row x9 hrow
    obtain rfl : row = 6 := by omega
    refine bz_iload dX4_isFilled_126 rfl ?_
    refine bz_bipush dX4_isFilled_128 kc_bipush_6 ?_
    refine bz_icmp_geN (tgt := 236) dX4_isFilled_130 rfl (by omega) (by omega) (fun _ => ?_) (fun q => absurd q (by omega))
    refine bz_iconst dX4_isFilled_236 kc_iconst_1 ?_
    refine bz_zret dX4_isFilled_237 rfl rfl rfl rfl
  | succ m ih =>
    intro row x9 hrow
    have h6 : row < 6 := by omega
    have hsb := fl_st_b a ha row (by omega)
    refine bz_iload dX4_isFilled_126 rfl ?_
    refine bz_bipush dX4_isFilled_128 kc_bipush_6 ?_
    refine bz_icmp_geN (tgt := 236) dX4_isFilled_130 rfl (by omega) (by omega) (fun q => absurd q (by omega)) (fun _ => ?_)
    refine bz_iconst dX4_isFilled_133 kc_iconst_0 ?_
    refine bz_ist9 dX4_isFilled_134 (by decide) rfl ?_
    refine m_fl_4k ha h6 hS hn hB hbb (fun hT => ?_) (fun hT => ?_) (xp_part a row) 0 (Nat.zero_add _) rfl
    · refine bz_iload dX4_isFilled_214 rfl ?_
      refine bz_ist7 dX4_isFilled_216 (by decide) rfl ?_
      refine bz_iload dX4_isFilled_218 rfl ?_
      refine bz_aload_n dX4_isFilled_220 rfl ?_
      refine bz_iload_n dX4_isFilled_221 rfl ?_
      refine bz_iload dX4_isFilled_222 rfl ?_
      refine bz_cV2I (z := 0) mv_X4_partOf mi_X4_partOf lk_X4_91 dX4_isFilled_224 (by exact m_partOf (by exact hS) ha h6) (by omega) rfl (by omega) rfl rfl rfl (Nat.le_of_ble_eq_true rfl) (Nat.le_of_ble_eq_true rfl) ?_
      first | refine bz_iaddN dX4_isFilled_227 ?_ | refine bz_iadd dX4_isFilled_227 ?_
      refine bz_ist6 dX4_isFilled_228 (by decide) rfl ?_
      first | refine bz_iinc8N dX4_isFilled_230 (by decide) rfl ?_ | refine bz_iinc8 dX4_isFilled_230 rfl (by decide) rfl ?_
      refine bz_goto (tgt := 126) dX4_isFilled_233 rfl ?_
      rw [fl_r, if_pos hT]
      exact ih (row + 1) _ (by omega)
    · rw [fl_r, hT]
      rfl
theorem m_isFilled (hT : mz_T σ.2.1) {a b w n : Nat} (ha : a < 30) (hb : b < 30) (hw : w < 2 ^ 31) (hn6 : n ≤ 6) (hn : xt_deg a = 0 ∨ 0 < n) : bz_V l ad K 73 mX4_isFilled 1 (some (.int (nI (fl_n (fl_is n w a b))))) (fl_s σ n w (xt_deg a)) 0 [some (.ref (ad 54)), some (.int (nI a)), some (.int (nI b)), some (.int (nI w)), some (.int (nI n)), none, none, none, none, none] [] σ := by
  have hTs : mz_T (fl_s σ n w (xt_deg a)).2.1 := mz_set (by omega) (mz_set (by omega) hT)
  have hd6 := xt_deg6 a ha
  have hbb : ∀ i, i < xt_deg a → fl_box n w i < 6 := fun i hi => Nat.lt_of_lt_of_le (Nat.mod_lt _ (by omega)) hn6
  have hcn : ∀ v, fl_cn n w (xt_deg a) v < 2 ^ 31 := fun v => by
    have := nsum_le (fun i => if fl_box n w i = v then 1 else 0) (fun i => by by_cases q : fl_box n w i = v <;> simp [q]) (xt_deg a)
    unfold fl_cn
    omega
  refine bz_iload_n dX4_isFilled_0 rfl ?_
  refine bz_ist5 dX4_isFilled_1 (by decide) rfl ?_
  refine bz_iconst dX4_isFilled_3 kc_iconst_0 ?_
  refine bz_ist6 dX4_isFilled_4 (by decide) rfl ?_
  refine bz_st (σ2 := bz_setI σ 62 (bz_upto (σ.2.1 62) (fun _ => nI 0) 0)) (by rw [bz_setI_id (bz_upto_0 _ (fun _ => nI 0))]) (m_fl_1 ?_ 6 0 rfl)
  refine bz_iconst dX4_isFilled_27 kc_iconst_0 ?_
  refine bz_ist6 dX4_isFilled_28 (by decide) rfl ?_
  refine bz_st (σ2 := fl_s σ n w 0) ?_ ?_
  · unfold fl_s
    have e1 : fl_cf (σ.2.1 62) n w 0 = bz_upto (σ.2.1 62) (fun _ => nI 0) 6 := by
      funext v
      unfold fl_cf bz_upto
      rfl
    have e2 : fl_bf (σ.2.1 61) n w 0 = (bz_setI σ 62 (fl_cf (σ.2.1 62) n w 0)).2.1 61 := by
      rw [bz_setI_ne (by omega)]
      exact bz_upto_0 _ _
    rw [bz_setI_id e2, e1]
  · refine m_fl_2 hT ha hw hn6 hn ?_ (xt_deg a) 0 (Nat.zero_add _)
    refine bz_iconst dX4_isFilled_82 kc_iconst_0 ?_
    refine bz_ist6 dX4_isFilled_83 (by decide) rfl ?_
    refine m_fl_3 hT ha hb hTs (fun v hv => ?_) hcn ?_ 6 0 rfl
    · unfold fl_s
      rw [bz_setI_ne (by omega), bz_setI_at]
      unfold fl_cf
      rw [if_pos hv]
    · refine bz_iconst dX4_isFilled_117 kc_iconst_0 ?_
      refine bz_ist6 dX4_isFilled_118 (by decide) rfl ?_
      refine bz_iconst dX4_isFilled_120 kc_iconst_0 ?_
      refine bz_ist7 dX4_isFilled_121 (by decide) rfl ?_
      refine bz_iconst dX4_isFilled_123 kc_iconst_0 ?_
      refine bz_ist8 dX4_isFilled_124 (by decide) rfl ?_
      exact m_fl_4 ha hTs hn6 (fun i hi => by
        unfold fl_s
        rw [bz_setI_at]
        unfold fl_bf
        rw [bz_upto_lt hi]) hbb 6 0 _ rfl
end M4
