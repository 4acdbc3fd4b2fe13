/-! fillColumn -/
section C2
variable {l : Launch} {ad : Nat → Nat} {K : bz_K} {n : Nat} {σ σ' : bz_S} {r : Option Value}
theorem t_fi_in (hn : 9 ≤ n) {a b sh less FK : Nat} {FX : Int} {x2 : Option Value} (ha : a < 30) (hb : b < 30) (hsh : sh < b) (hl : less ≤ 6) (h7 : ∀ c, c < 30 → σ.2.1 7 (c * 30 + sh) = tF7 (c * 30 + sh)) (h8 : ∀ c, c < 30 → σ.2.1 8 (c * 30 + sh) = tF8 (c * 30 + sh))
    (kk : ∀ x8, bz_V l ad K n mX1_fillColumn 3 r σ' 143 [some (.ref (ad 0)), some (.int (nI b)), x2, some (.int (nI less)), some (.int (nI sh)), some (.int (nI a)), some (.int (nI FK)), some (.int (Int32.ofInt FX)), x8] [] σ) :
    ∀ (m c f : Nat) (g : Int), c + m = xp_start (less + 1) → (∀ i, c ≤ i → i < xp_start (less + 1) → rs_ok a i = true) → fi_f a sh m c f = FK → fi_s a sh m c g = FX →
      bz_V l ad K n mX1_fillColumn 3 r σ' 78 [some (.ref (ad 0)), some (.int (nI b)), x2, some (.int (nI less)), some (.int (nI sh)), some (.int (nI a)), some (.int (nI f)), some (.int (Int32.ofInt g)), some (.int (nI c))] [] σ := by
  have hs := xp_start_le less hl
  intro m
  induction m with
  | zero =>
    intro c f g hc hr hf hg
    rw [fi_f] at hf
    rw [fi_s] at hg
    subst hf hg
    refine bz_iload dX1_fillColumn_78 rfl ?_
    refine bz_iload_n dX1_fillColumn_80 rfl ?_
    refine bz_cS1I (z := 0) mv_X1_endOf ws_X1_endOf lk_X1_64 dX1_fillColumn_81 (by exact t_endOf hl) (by omega) rfl (Nat.le_of_ble_eq_true rfl) (Nat.le_of_ble_eq_true rfl) ?_
    refine bz_icmp_geN (tgt := 143) dX1_fillColumn_84 rfl (by omega) (by omega) (fun _ => ?_) (fun q => absurd q (by omega))
    exact kk _
  | succ m ih =>
    intro c f g hc hr hf hg
    have hc30 : c < 30 := by omega
    rw [fi_f] at hf
    rw [fi_s] at hg
    have fin : ∀ x : Nat, x = (if irs a c 6 0 then xt_kost (c * 30 + sh) else 0) → bz_V l ad K n mX1_fillColumn 3 r σ' 112 [some (.ref (ad 0)), some (.int (nI b)), x2, some (.int (nI less)), some (.int (nI sh)), some (.int (nI a)), some (.int (nI f)), some (.int (Int32.ofInt g)), some (.int (nI c))] [.int (nI x), .int (nI f)] σ := by
      intro x hx
      rw [← hx] at hf
      first | refine bz_iaddN dX1_fillColumn_112 ?_ | refine bz_iadd dX1_fillColumn_112 ?_
      refine bz_ist6 dX1_fillColumn_113 (by decide) rfl ?_
      refine bz_iload dX1_fillColumn_115 rfl ?_
      refine bz_aload_n dX1_fillColumn_117 rfl ?_
      refine bz_iload dX1_fillColumn_118 rfl ?_
      refine bz_iload dX1_fillColumn_120 rfl ?_
      refine bz_cV2I (z := 3) mv_X1_rimSign mi_X1_rimSign lk_X1_83 dX1_fillColumn_122 (by exact t_rimSign hn ha hc30 (hr c (by omega) (by omega))) (by omega) rfl (by omega) rfl rfl rfl (Nat.le_of_ble_eq_true rfl) (Nat.le_of_ble_eq_true rfl) ?_
      refine bz_aload_n dX1_fillColumn_125 rfl ?_
      refine bz_iload dX1_fillColumn_126 rfl ?_
      refine bz_iload dX1_fillColumn_128 rfl ?_
      refine bz_cV2I (z := 0) mv_X1_characterOf mi_X1_characterOf lk_X1_86 dX1_fillColumn_130 (by exact t_characterOf hn hc30 (by omega)) (by omega) rfl (by omega) rfl rfl rfl (Nat.le_of_ble_eq_true rfl) (Nat.le_of_ble_eq_true rfl) ?_
      refine bz_topi (h8 c hc30) ?_
      refine bz_imul dX1_fillColumn_133 ?_
      refine bz_topi (ofI_mul _ _) ?_
      refine bz_iadd dX1_fillColumn_134 ?_
      refine bz_topi (ofI_add _ _) ?_
      refine bz_ist7 dX1_fillColumn_135 (by decide) rfl ?_
      first | refine bz_iinc8N dX1_fillColumn_137 (by decide) rfl ?_ | refine bz_iinc8 dX1_fillColumn_137 rfl (by decide) rfl ?_
      refine bz_goto (tgt := 78) dX1_fillColumn_140 rfl ?_
      exact ih (c + 1) _ _ (by omega) (fun i h1 h2 => hr i (by omega) h2) hf hg
    refine bz_iload dX1_fillColumn_78 rfl ?_
    refine bz_iload_n dX1_fillColumn_80 rfl ?_
    refine bz_cS1I (z := 0) mv_X1_endOf ws_X1_endOf lk_X1_64 dX1_fillColumn_81 (by exact t_endOf hl) (by omega) rfl (Nat.le_of_ble_eq_true rfl) (Nat.le_of_ble_eq_true rfl) ?_
    refine bz_icmp_geN (tgt := 143) dX1_fillColumn_84 rfl (by omega) (by omega) (fun q => absurd q (by omega)) (fun _ => ?_)
    refine bz_iload dX1_fillColumn_87 rfl ?_
    refine bz_aload_n dX1_fillColumn_89 rfl ?_
    refine bz_iload dX1_fillColumn_90 rfl ?_
    refine bz_iload dX1_fillColumn_92 rfl ?_
    refine bz_cV2I (z := 1) mv_X1_isRowStrip mi_X1_isRowStrip lk_X1_76 dX1_fillColumn_94 (by exact t_isRowStrip hn ha hc30) (by omega) rfl (by omega) rfl rfl rfl (Nat.le_of_ble_eq_true rfl) (Nat.le_of_ble_eq_true rfl) ?_
    cases hi : irs a c 6 0 with
    | true =>
      refine bz_if_eq (tgt := 111) dX1_fillColumn_97 rfl (fun q => absurd q (by decide)) (fun _ => ?_)
      refine bz_aload_n dX1_fillColumn_100 rfl ?_
      refine bz_iload dX1_fillColumn_101 rfl ?_
      refine bz_iload dX1_fillColumn_103 rfl ?_
      refine bz_cV2I (z := 0) mv_X1_kostkaOf mi_X1_kostkaOf lk_X1_80 dX1_fillColumn_105 (by exact t_kostkaOf hn hc30 (by omega)) (by omega) rfl (by omega) rfl rfl rfl (Nat.le_of_ble_eq_true rfl) (Nat.le_of_ble_eq_true rfl) ?_
      refine bz_topi (h7 c hc30) ?_
      refine bz_goto (tgt := 112) dX1_fillColumn_108 rfl ?_
      exact fin _ (by rw [hi]; rfl)
    | false =>
      refine bz_if_eq (tgt := 111) dX1_fillColumn_97 rfl (fun _ => ?_) (fun q => absurd (rfl) q)
      refine bz_iconst dX1_fillColumn_111 kc_iconst_0 ?_
      exact fin 0 (by rw [hi]; rfl)
theorem t_fi_out (hn : 9 ≤ n) {b : Nat} {f g : Nat → Int32} (hb : b < 29) (h1 : ∀ i, i < 30 → σ.2.1 1 i = nI (xt_deg i)) {x2 : Option Value} :
    ∀ (m a : Nat) (x6 x7 x8 : Option Value), a + m = xt_end (b + 1) → xt_start (b + 1) ≤ a →
      bz_V l ad K n mX1_fillColumn 3 none (st2 σ (tb f tF7 (b + 1) (xt_end (b + 1))) (tb g tF8 (b + 1) (xt_end (b + 1)))) 52 [some (.ref (ad 0)), some (.int (nI (b + 1))), x2, some (.int (nI (fl_less (b + 1)))), some (.int (nI (fl_sh (b + 1)))), some (.int (nI a)), x6, x7, x8] [] (st2 σ (tb f tF7 (b + 1) a) (tb g tF8 (b + 1) a)) := by
  have h6 := xt_deg6 (b + 1) (by omega)
  have hse := xt_se (b + 1) (by omega)
  have hF := fl_facts b hb
  have hs := xp_start_le _ hF.2.2.2.2.2.2
  have hv1 : ∀ a, (st2 σ (tb f tF7 (b + 1) a) (tb g tF8 (b + 1) a)).2.1 1 (b + 1) = nI (xt_deg (b + 1)) := fun a => by rw [st2_ne (by decide) (by decide)]; exact h1 _ (by omega)
  intro m
  induction m with
  | zero =>
    intro a x6 x7 x8 ha hsa
    obtain rfl : a = xt_end (b + 1) := by omega
    refine bz_iload dX1_fillColumn_52 rfl ?_
    refine bz_aload_n dX1_fillColumn_54 rfl ?_
    refine bz_getf fl_X1_9 dX1_fillColumn_55 rfl rfl (by omega) ?_
    refine bz_iload_n dX1_fillColumn_58 rfl ?_
    refine bz_iaload dX1_fillColumn_59 rfl (by omega) (by omega) ?_
    refine bz_topi (hv1 _) ?_
    refine bz_cS1I (z := 0) mv_X1_endOf ws_X1_endOf lk_X1_64 dX1_fillColumn_60 (by exact t_endOf h6) (by omega) rfl (Nat.le_of_ble_eq_true rfl) (Nat.le_of_ble_eq_true rfl) ?_
    refine bz_icmp_geN (tgt := 177) dX1_fillColumn_63 rfl (by omega) (by show xt_end (b + 1) < _; omega) (fun _ => ?_) (fun q => absurd q (by show ¬ xt_end (b + 1) < xt_end (b + 1); omega))
    refine bz_vret dX1_fillColumn_177 rfl rfl
  | succ m ih =>
    intro a x6 x7 x8 ha hsa
    have ha30 : a < 30 := by omega
    refine bz_iload dX1_fillColumn_52 rfl ?_
    refine bz_aload_n dX1_fillColumn_54 rfl ?_
    refine bz_getf fl_X1_9 dX1_fillColumn_55 rfl rfl (by omega) ?_
    refine bz_iload_n dX1_fillColumn_58 rfl ?_
    refine bz_iaload dX1_fillColumn_59 rfl (by omega) (by omega) ?_
    refine bz_topi (hv1 _) ?_
    refine bz_cS1I (z := 0) mv_X1_endOf ws_X1_endOf lk_X1_64 dX1_fillColumn_60 (by exact t_endOf h6) (by omega) rfl (Nat.le_of_ble_eq_true rfl) (Nat.le_of_ble_eq_true rfl) ?_
    refine bz_icmp_geN (tgt := 177) dX1_fillColumn_63 rfl (by omega) (by show xt_end (b + 1) < _; omega) (fun q => absurd q (by show ¬ xt_end (b + 1) ≤ a; omega)) (fun _ => ?_)
    refine bz_iconst dX1_fillColumn_66 kc_iconst_0 ?_
    refine bz_ist6 dX1_fillColumn_67 (by decide) rfl ?_
    refine bz_iconst dX1_fillColumn_69 kc_iconst_0 ?_
    refine bz_ist7 dX1_fillColumn_70 (by decide) rfl ?_
    refine bz_iload_n dX1_fillColumn_72 rfl ?_
    refine bz_cS1I (z := 0) mv_X1_startOf ws_X1_startOf lk_X1_67 dX1_fillColumn_73 (by exact t_startOf hF.2.2.2.2.2.2) (by omega) rfl (Nat.le_of_ble_eq_true rfl) (Nat.le_of_ble_eq_true rfl) ?_
    refine bz_ist8 dX1_fillColumn_76 (by decide) rfl ?_
    have eK := fi_allK b hb (a - xt_start (b + 1)) (by omega)
    have eX := fi_allX b hb (a - xt_start (b + 1)) (by omega)
    have eR := fi_allR b hb (a - xt_start (b + 1)) (by omega)
    rw [show xt_start (b + 1) + (a - xt_start (b + 1)) = a by omega] at eK eX eR
    refine t_fi_in hn (FK := fi_K (b + 1) a) (FX := fi_X (b + 1) a) ha30 (by omega) hF.2.2.2.2.2.1 hF.2.2.2.2.2.2 (fun c hc => by rw [st2_7]; exact tb_in hc hF.2.2.2.2.2.1 (by omega)) (fun c hc => by rw [st2_8]; exact tb_in hc hF.2.2.2.2.2.1 (by omega)) (fun x8 => ?_) (xp_start (fl_less (b + 1) + 1) - xp_start (fl_less (b + 1))) (xp_start (fl_less (b + 1))) 0 0 (by omega) (fun i h1 h2 => by have := eR (i - xp_start (fl_less (b + 1))) (by omega); rw [show xp_start (fl_less (b + 1)) + (i - xp_start (fl_less (b + 1))) = i by omega] at this; exact this) rfl rfl
    refine bz_aload_n dX1_fillColumn_143 rfl ?_
    refine bz_getf fl_X1_30 dX1_fillColumn_144 rfl rfl (by omega) ?_
    refine bz_iload dX1_fillColumn_147 rfl ?_
    refine bz_bipush dX1_fillColumn_149 kc_bipush_30 ?_
    first | refine bz_imulN dX1_fillColumn_151 ?_ | refine bz_imul dX1_fillColumn_151 ?_
    refine bz_iload_n dX1_fillColumn_152 rfl ?_
    first | refine bz_iaddN dX1_fillColumn_153 ?_ | refine bz_iadd dX1_fillColumn_153 ?_
    refine bz_iload dX1_fillColumn_154 rfl ?_
    refine bz_iastore dX1_fillColumn_156 rfl (by omega) (by omega) ?_
    refine bz_st (σ2 := st2 σ (tb f tF7 (b + 1) (a + 1)) (tb g tF8 (b + 1) a)) (by rw [st2_u7, eK]; exact congrArg (fun q => st2 σ q _) (tb_step (by omega) ha30)) ?_
    refine bz_aload_n dX1_fillColumn_157 rfl ?_
    refine bz_getf fl_X1_33 dX1_fillColumn_158 rfl rfl (by omega) ?_
    refine bz_iload dX1_fillColumn_161 rfl ?_
    refine bz_bipush dX1_fillColumn_163 kc_bipush_30 ?_
    first | refine bz_imulN dX1_fillColumn_165 ?_ | refine bz_imul dX1_fillColumn_165 ?_
    refine bz_iload_n dX1_fillColumn_166 rfl ?_
    first | refine bz_iaddN dX1_fillColumn_167 ?_ | refine bz_iadd dX1_fillColumn_167 ?_
    refine bz_iload dX1_fillColumn_168 rfl ?_
    refine bz_iastore dX1_fillColumn_170 rfl (by omega) (by omega) ?_
    refine bz_st (σ2 := st2 σ (tb f tF7 (b + 1) (a + 1)) (tb g tF8 (b + 1) (a + 1))) (by rw [st2_u8, eX]; exact congrArg (fun q => st2 σ _ q) (tb_step (by omega) ha30)) ?_
    first | refine bz_iinc5N dX1_fillColumn_171 (by decide) rfl ?_ | refine bz_iinc5 dX1_fillColumn_171 rfl (by decide) rfl ?_
    refine bz_goto (tgt := 52) dX1_fillColumn_174 rfl ?_
    exact ih (a + 1) _ _ _ (by omega) (by omega)
theorem t_fillColumn (hn : 9 ≤ n) {b : Nat} {f g : Nat → Int32} (hb : b < 29) (hf : ∀ i, i < 900 → f i = 0) (hg : ∀ i, i < 900 → g i = 0) (h1 : ∀ i, i < 30 → σ.2.1 1 i = nI (xt_deg i)) (h2 : ∀ i, i < 30 → σ.2.1 2 i = nI (xt_len i)) (h3 : ∀ i, i < 30 → σ.2.1 3 i = nI (xt_mark i)) :
    bz_V l ad K n mX1_fillColumn 3 none (st2 σ (tb f tF7 (b + 2) 0) (tb g tF8 (b + 2) 0)) 0 [some (.ref (ad 0)), some (.int (nI (b + 1))), none, none, none, none, none, none, none] [] (st2 σ (tb f tF7 (b + 1) 0) (tb g tF8 (b + 1) 0)) := by
  have h6 := xt_deg6 (b + 1) (by omega)
  have hse := xt_se (b + 1) (by omega)
  have hF := fl_facts b hb
  have hmk := xt_mark_lt (b + 1) (by omega)
  have hpl : fl_last (b + 1) < 7 := xp_partlt
  have hless : fl_less (b + 1) = xt_deg (b + 1) - fl_last (b + 1) := rfl
  have e7 : tb f tF7 (b + 2) 0 = tb f tF7 (b + 1) (xt_end (b + 1)) := by
    rw [← tb_col]
    refine (tb_skip (fun a h h2 h3 => ?_) hse.2.2).symm
    rw [hf _ (by omega)]
    rcases fi_out (b + 1) (by omega) a h with q | q
    · omega
    · show nI (xt_kost _) = 0
      rw [q.1]; rfl
  have e8 : tb g tF8 (b + 2) 0 = tb g tF8 (b + 1) (xt_end (b + 1)) := by
    rw [← tb_col]
    refine (tb_skip (fun a h h2 h3 => ?_) hse.2.2).symm
    rw [hg _ (by omega)]
    rcases fi_out (b + 1) (by omega) a h with q | q
    · omega
    · show Int32.ofInt (xt_char _) = 0
      rw [q.2]; rfl
  have s7 : tb f tF7 (b + 1) 0 = tb f tF7 (b + 1) (xt_start (b + 1)) := by
    refine tb_skip (fun a h h2 h3 => ?_) (by omega)
    rw [hf _ (by omega)]
    rcases fi_out (b + 1) (by omega) a h with q | q
    · omega
    · show nI (xt_kost _) = 0
      rw [q.1]; rfl
  have s8 : tb g tF8 (b + 1) 0 = tb g tF8 (b + 1) (xt_start (b + 1)) := by
    refine tb_skip (fun a h h2 h3 => ?_) (by omega)
    rw [hg _ (by omega)]
    rcases fi_out (b + 1) (by omega) a h with q | q
    · omega
    · show Int32.ofInt (xt_char _) = 0
      rw [q.2]; rfl
  rw [e7, e8, s7, s8]
  have hm3 : ∀ i, i < 30 → (st2 σ (tb f tF7 (b + 1) (xt_start (b + 1))) (tb g tF8 (b + 1) (xt_start (b + 1)))).2.1 3 i = nI (xt_mark i) := fun i hi => by rw [st2_ne (by decide) (by decide)]; exact h3 i hi
  refine bz_aload_n dX1_fillColumn_0 rfl ?_
  refine bz_iload_n dX1_fillColumn_1 rfl ?_
  refine bz_aload_n dX1_fillColumn_2 rfl ?_
  refine bz_getf fl_X1_15 dX1_fillColumn_3 rfl rfl (by omega) ?_
  refine bz_iload_n dX1_fillColumn_6 rfl ?_
  refine bz_iaload dX1_fillColumn_7 rfl (by omega) (by omega) ?_
  refine bz_topi (y := nI (xt_len (b + 1))) (by rw [st2_ne (by decide) (by decide)]; exact h2 _ (by omega)) ?_
  refine bz_iconst dX1_fillColumn_8 kc_iconst_1 ?_
  refine bz_isubN dX1_fillColumn_9 hF.1 ?_
  refine bz_cV2I (z := 0) mv_X1_partAt mi_X1_partAt lk_X1_70 dX1_fillColumn_10 (by exact t_partAt (k := xt_len (b + 1) - 1) (by omega) (by omega)) (by omega) rfl (by omega) rfl rfl rfl (Nat.le_of_ble_eq_true rfl) (Nat.le_of_ble_eq_true rfl) ?_
  refine bz_ist2 dX1_fillColumn_13 (by decide) rfl ?_
  refine bz_aload_n dX1_fillColumn_14 rfl ?_
  refine bz_getf fl_X1_9 dX1_fillColumn_15 rfl rfl (by omega) ?_
  refine bz_iload_n dX1_fillColumn_18 rfl ?_
  refine bz_iaload dX1_fillColumn_19 rfl (by omega) (by omega) ?_
  refine bz_topi (y := nI (xt_deg (b + 1))) (by rw [st2_ne (by decide) (by decide)]; exact h1 _ (by omega)) ?_
  refine bz_iload_n dX1_fillColumn_20 rfl ?_
  refine bz_isubN dX1_fillColumn_21 hF.2.2.1 ?_
  refine bz_ist3 dX1_fillColumn_22 (by decide) rfl ?_
  refine bz_aload_n dX1_fillColumn_23 rfl ?_
  refine bz_aload_n dX1_fillColumn_24 rfl ?_
  refine bz_getf fl_X1_18 dX1_fillColumn_25 rfl rfl (by omega) ?_
  refine bz_iload_n dX1_fillColumn_28 rfl ?_
  refine bz_iaload dX1_fillColumn_29 rfl (by omega) (by omega) ?_
  refine bz_topi (y := nI (xt_mark (b + 1))) (hm3 _ (by omega)) ?_
  refine bz_iload_n dX1_fillColumn_30 rfl ?_
  refine bz_cS1I (z := 0) mv_X1_markOf ws_X1_markOf lk_X1_73 dX1_fillColumn_31 (by exact t_markOf (p := fl_last (b + 1)) (by omega)) (by omega) rfl (Nat.le_of_ble_eq_true rfl) (Nat.le_of_ble_eq_true rfl) ?_
  refine bz_isubN dX1_fillColumn_34 hF.2.2.2.1 ?_
  refine bz_iload_n dX1_fillColumn_35 rfl ?_
  refine bz_cV2I (z := 2) mv_X1_numberOf mi_X1_numberOf lk_X1_44 dX1_fillColumn_36 (by exact t_numberOf (mk := xt_mark (b + 1) - xt_mk (fl_last (b + 1))) (d := fl_less (b + 1)) hn (by omega) (by omega) hm3) (by omega) rfl (by omega) rfl rfl rfl (Nat.le_of_ble_eq_true rfl) (Nat.le_of_ble_eq_true rfl) ?_
  refine bz_topi (y := nI (fl_sh (b + 1))) (by rw [hF.2.2.2.2.1]; rfl) ?_
  refine bz_ist4 dX1_fillColumn_39 (by decide) rfl ?_
  refine bz_aload_n dX1_fillColumn_41 rfl ?_
  refine bz_getf fl_X1_9 dX1_fillColumn_42 rfl rfl (by omega) ?_
  refine bz_iload_n dX1_fillColumn_45 rfl ?_
  refine bz_iaload dX1_fillColumn_46 rfl (by omega) (by omega) ?_
  refine bz_topi (y := nI (xt_deg (b + 1))) (by rw [st2_ne (by decide) (by decide)]; exact h1 _ (by omega)) ?_
  refine bz_cS1I (z := 0) mv_X1_startOf ws_X1_startOf lk_X1_67 dX1_fillColumn_47 (by exact t_startOf h6) (by omega) rfl (Nat.le_of_ble_eq_true rfl) (Nat.le_of_ble_eq_true rfl) ?_
  refine bz_ist5 dX1_fillColumn_50 (by decide) rfl ?_
  exact t_fi_out hn hb h1 (xt_end (b + 1) - xt_start (b + 1)) (xt_start (b + 1)) _ _ _ (by omega) (Nat.le_refl _)
/-! the loops of the constructor -/
def in1 (σ0 : bz_S) (a : Nat) (σ : bz_S) : Prop := σ.1 = σ0.1 ∧ σ.2.2 = σ0.2.2 ∧ (∀ k, k ≠ 1 → k ≠ 2 → k ≠ 3 → k ≠ 5 → σ.2.1 k = σ0.2.1 k) ∧ ∀ i, i < 30 → (i < a → σ.2.1 1 i = nI (xt_deg i) ∧ σ.2.1 2 i = nI (xt_len i) ∧ σ.2.1 3 i = nI (xt_mark i) ∧ σ.2.1 5 i = nI (xt_z i)) ∧ (a ≤ i → σ.2.1 1 i = 0 ∧ σ.2.1 2 i = 0 ∧ σ.2.1 3 i = 0)
theorem in1_step {σ0 σ : bz_S} {a : Nat} (h : in1 σ0 a σ) : in1 σ0 (a + 1) (ms_st σ a (xt_deg a) (xt_len a) (xt_mark a) (xt_z a)) := by
  obtain ⟨h1, h2, h3, h4⟩ := h
  refine ⟨h1, h2, fun k k1 k2 k3 k5 => ?_, fun i hi => ⟨fun q => ?_, fun q => ?_⟩⟩
  · rw [← h3 k k1 k2 k3 k5]
    funext j
    rw [ms_at]
    simp [k1, k2, k3, k5]
  · by_cases e : i = a
    · subst e
      simp [ms_at]
    · have := (h4 i hi).1 (by omega)
      simp [ms_at, e, this]
  · have := (h4 i hi).2 (by omega)
    simp [ms_at, show i ≠ a by omega, this]
theorem t_in_1 (hn : 9 ≤ n) {σ0 : bz_S} {P : bz_S → Prop} {x2 : Option Value} (kk : ∀ σ1, in1 σ0 30 σ1 → ∃ σ', P σ' ∧ bz_V l ad K n mX1_init 4 none σ' 90 [some (.ref (ad 0)), some (.int (nI 30)), x2] [] σ1) :
    ∀ (m a : Nat) (σ : bz_S), a + m = 30 → in1 σ0 a σ → ∃ σ', P σ' ∧ bz_V l ad K n mX1_init 4 none σ' 73 [some (.ref (ad 0)), some (.int (nI a)), x2] [] σ := by
  intro m
  induction m with
  | zero =>
    intro a σ ha h
    obtain rfl : a = 30 := by omega
    obtain ⟨σ', hP, hV⟩ := kk σ h
    refine ⟨σ', hP, ?_⟩
    refine bz_iload_n dX1_init_73 rfl ?_
    refine bz_bipush dX1_init_74 kc_bipush_30 ?_
    refine bz_icmp_geN (tgt := 90) dX1_init_76 rfl (by omega) (by omega) (fun _ => ?_) (fun q => absurd q (by omega))
    exact hV
  | succ m ih =>
    intro a σ ha h
    have h30 : a < 30 := by omega
    obtain ⟨σ', hP, hV⟩ := ih (a + 1) _ (by omega) (in1_step h)
    refine ⟨σ', hP, ?_⟩
    have h0 := (h.2.2.2 a h30).2 (Nat.le_refl a)
    refine bz_iload_n dX1_init_73 rfl ?_
    refine bz_bipush dX1_init_74 kc_bipush_30 ?_
    refine bz_icmp_geN (tgt := 90) dX1_init_76 rfl (by omega) (by omega) (fun q => absurd q (by omega)) (fun _ => ?_)
    refine bz_aload_n dX1_init_79 rfl ?_
    refine bz_iload_n dX1_init_80 rfl ?_
    refine bz_cV1U (z := 3) mv_X1_measure mi_X1_measure lk_X1_36 dX1_init_81 (by exact t_measure hn h30 h0.1 h0.2.1 h0.2.2) (by omega) rfl (by omega) rfl rfl rfl (Nat.le_of_ble_eq_true rfl) (Nat.le_of_ble_eq_true rfl) ?_
    first | refine bz_iinc1N dX1_init_84 (by decide) rfl ?_ | refine bz_iinc1 dX1_init_84 rfl (by decide) rfl ?_
    refine bz_goto (tgt := 73) dX1_init_87 rfl ?_
    exact hV
theorem jn_all : ∀ a, a < 30 → ∀ b, b < 30 → (match xt_num (xt_mark a + xt_mark b) (xt_deg a + xt_deg b) with | some c => (c : Int) | none => -1) = xt_join (a * 30 + b) := by decide +kernel
theorem jn_o (o : Option Nat) : xt_o o = Int32.ofInt (match o with | some c => (c : Int) | none => -1) := by
  cases o with
  | none => rfl
  | some c => rfl
def st46 (σ : bz_S) (f g : Nat → Int32) : bz_S := bz_setI (bz_setI σ 4 f) 6 g
theorem st46_4 {σ : bz_S} {f g : Nat → Int32} : (st46 σ f g).2.1 4 = f := by simp [st46, bz_setI]
theorem st46_6 {σ : bz_S} {f g : Nat → Int32} : (st46 σ f g).2.1 6 = g := by simp [st46, bz_setI]
theorem st46_ne {σ : bz_S} {f g : Nat → Int32} {k : Nat} (h7 : k ≠ 4) (h8 : k ≠ 6) : (st46 σ f g).2.1 k = σ.2.1 k := by simp [st46, bz_setI, h7, h8]
theorem st46_u4 {σ : bz_S} {f g : Nat → Int32} {i : Nat} {x : Int32} : bz_upI (st46 σ f g) 4 i x = st46 σ (upd f i x) g :=
  bz_Seq (fun _ _ => rfl) (fun k j => by
    by_cases h7 : k = 4
    · subst h7; simp [st46, bz_setI, bz_upI]
    · by_cases h8 : k = 6
      · subst h8; simp [st46, bz_setI, bz_upI]
      · simp [st46, bz_setI, bz_upI, h7, h8]) rfl
theorem st46_u6 {σ : bz_S} {f g : Nat → Int32} {i : Nat} {x : Int32} : bz_upI (st46 σ f g) 6 i x = st46 σ f (upd g i x) :=
  bz_Seq (fun _ _ => rfl) (fun k j => by
    by_cases h8 : k = 6
    · subst h8; simp [st46, bz_setI, bz_upI]
    · simp [st46, bz_setI, bz_upI, h8]) rfl
theorem st46_id {σ : bz_S} {f g : Nat → Int32} (h7 : f = σ.2.1 4) (h8 : g = σ.2.1 6) : st46 σ f g = σ :=
  bz_Seq (fun _ _ => rfl) (fun k j => by
    by_cases e8 : k = 6
    · subst e8; simp [st46, bz_setI, h8]
    · by_cases e7 : k = 4
      · subst e7; simp [st46, bz_setI, h7]
      · simp [st46, bz_setI, e7, e8]) rfl
theorem xt_mark5 : ∀ i, i < 30 → xt_mark i < 40000 := by decide +kernel
abbrev tF4 (i : Nat) : Int32 := nI (xt_conj i)
abbrev tF6 (i : Nat) : Int32 := Int32.ofInt (xt_join i)
theorem t_in_2b (hn : 9 ≤ n) {a : Nat} {f g : Nat → Int32} {r : Option Value} (ha : a < 30) (h1 : ∀ i, i < 30 → σ.2.1 1 i = nI (xt_deg i)) (h3 : ∀ i, i < 30 → σ.2.1 3 i = nI (xt_mark i))
    (kk : bz_V l ad K n mX1_init 4 r σ' 164 [some (.ref (ad 0)), some (.int (nI a)), some (.int (nI 30))] [] (st46 σ f (bz_upto g tF6 (a * 30 + 30)))) :
    ∀ (m b : Nat), b + m = 30 → bz_V l ad K n mX1_init 4 r σ' 111 [some (.ref (ad 0)), some (.int (nI a)), some (.int (nI b))] [] (st46 σ f (bz_upto g tF6 (a * 30 + b))) := by
  intro m
  induction m with
  | zero =>
    intro b hb
    obtain rfl : b = 30 := by omega
    refine bz_iload_n dX1_init_111 rfl ?_
    refine bz_bipush dX1_init_112 kc_bipush_30 ?_
    refine bz_icmp_geN (tgt := 164) dX1_init_114 rfl (by omega) (by omega) (fun _ => ?_) (fun q => absurd q (by omega))
    exact kk
  | succ m ih =>
    intro b hb
    have hb30 : b < 30 := by omega
    have p1 := xt_deg6 a ha
    have p2 := xt_deg6 b hb30
    have p3 := xt_mark5 a ha
    have p4 := xt_mark5 b hb30
    have v1 : ∀ i, i < 30 → (st46 σ f (bz_upto g tF6 (a * 30 + b))).2.1 1 i = nI (xt_deg i) := fun i hi => by rw [st46_ne (by decide) (by decide)]; exact h1 i hi
    have v3 : ∀ i, i < 30 → (st46 σ f (bz_upto g tF6 (a * 30 + b))).2.1 3 i = nI (xt_mark i) := fun i hi => by rw [st46_ne (by decide) (by decide)]; exact h3 i hi
    refine bz_iload_n dX1_init_111 rfl ?_
    refine bz_bipush dX1_init_112 kc_bipush_30 ?_
    refine bz_icmp_geN (tgt := 164) dX1_init_114 rfl (by omega) (by omega) (fun q => absurd q (by omega)) (fun _ => ?_)
    refine bz_aload_n dX1_init_117 rfl ?_
    refine bz_getf fl_X1_27 dX1_init_118 rfl rfl (by omega) ?_
    refine bz_iload_n dX1_init_121 rfl ?_
    refine bz_bipush dX1_init_122 kc_bipush_30 ?_
    first | refine bz_imulN dX1_init_124 ?_ | refine bz_imul dX1_init_124 ?_
    refine bz_iload_n dX1_init_125 rfl ?_
    first | refine bz_iaddN dX1_init_126 ?_ | refine bz_iadd dX1_init_126 ?_
    refine bz_aload_n dX1_init_127 rfl ?_
    refine bz_aload_n dX1_init_128 rfl ?_
    refine bz_getf fl_X1_18 dX1_init_129 rfl rfl (by omega) ?_
    refine bz_iload_n dX1_init_132 rfl ?_
    refine bz_iaload dX1_init_133 rfl (by omega) (by omega) ?_
    refine bz_topi (y := nI (xt_mark a)) (v3 a ha) ?_
    refine bz_aload_n dX1_init_134 rfl ?_
    refine bz_getf fl_X1_18 dX1_init_135 rfl rfl (by omega) ?_
    refine bz_iload_n dX1_init_138 rfl ?_
    refine bz_iaload dX1_init_139 rfl (by omega) (by omega) ?_
    refine bz_topi (y := nI (xt_mark b)) (v3 b hb30) ?_
    first | refine bz_iaddN dX1_init_140 ?_ | refine bz_iadd dX1_init_140 ?_
    refine bz_aload_n dX1_init_141 rfl ?_
    refine bz_getf fl_X1_9 dX1_init_142 rfl rfl (by omega) ?_
    refine bz_iload_n dX1_init_145 rfl ?_
    refine bz_iaload dX1_init_146 rfl (by omega) (by omega) ?_
    refine bz_topi (y := nI (xt_deg a)) (v1 a ha) ?_
    refine bz_aload_n dX1_init_147 rfl ?_
    refine bz_getf fl_X1_9 dX1_init_148 rfl rfl (by omega) ?_
    refine bz_iload_n dX1_init_151 rfl ?_
    refine bz_iaload dX1_init_152 rfl (by omega) (by omega) ?_
    refine bz_topi (y := nI (xt_deg b)) (v1 b hb30) ?_
    first | refine bz_iaddN dX1_init_153 ?_ | refine bz_iadd dX1_init_153 ?_
    refine bz_cV2I (z := 2) mv_X1_numberOf mi_X1_numberOf lk_X1_44 dX1_init_154 (by exact t_numberOf (mk := xt_mark a + xt_mark b) (d := xt_deg a + xt_deg b) hn (by omega) (by omega) v3) (by omega) rfl (by omega) rfl rfl rfl (Nat.le_of_ble_eq_true rfl) (Nat.le_of_ble_eq_true rfl) ?_
    refine bz_iastore dX1_init_157 rfl (by omega) (by omega) ?_
    refine bz_st (σ2 := st46 σ f (bz_upto g tF6 (a * 30 + (b + 1)))) (by rw [st46_u6, bz_uptoI_s (F := tF6) (by rw [jn_o, jn_all a ha b hb30])]; rfl) ?_
    first | refine bz_iinc2N dX1_init_158 (by decide) rfl ?_ | refine bz_iinc2 dX1_init_158 rfl (by decide) rfl ?_
    refine bz_goto (tgt := 111) dX1_init_161 rfl ?_
    exact ih (b + 1) (by omega)
theorem t_in_2 (hn : 9 ≤ n) {f g : Nat → Int32} {r : Option Value} (h1 : ∀ i, i < 30 → σ.2.1 1 i = nI (xt_deg i)) (h3 : ∀ i, i < 30 → σ.2.1 3 i = nI (xt_mark i))
    (kk : ∀ x2, bz_V l ad K n mX1_init 4 r σ' 170 [some (.ref (ad 0)), some (.int (nI 30)), x2] [] (st46 σ (bz_upto f tF4 30) (bz_upto g tF6 900))) :
    ∀ (m a : Nat) (x2 : Option Value), a + m = 30 → bz_V l ad K n mX1_init 4 r σ' 92 [some (.ref (ad 0)), some (.int (nI a)), x2] [] (st46 σ (bz_upto f tF4 a) (bz_upto g tF6 (a * 30))) := by
  intro m
  induction m with
  | zero =>
    intro a x2 ha
    obtain rfl : a = 30 := by omega
    refine bz_iload_n dX1_init_92 rfl ?_
    refine bz_bipush dX1_init_93 kc_bipush_30 ?_
    refine bz_icmp_geN (tgt := 170) dX1_init_95 rfl (by omega) (by omega) (fun _ => ?_) (fun q => absurd q (by omega))
    exact kk x2
  | succ m ih =>
    intro a x2 ha
    have h30 : a < 30 := by omega
    have v1 : ∀ i, i < 30 → (st46 σ (bz_upto f tF4 a) (bz_upto g tF6 (a * 30))).2.1 1 i = nI (xt_deg i) := fun i hi => by rw [st46_ne (by decide) (by decide)]; exact h1 i hi
    have v3 : ∀ i, i < 30 → (st46 σ (bz_upto f tF4 a) (bz_upto g tF6 (a * 30))).2.1 3 i = nI (xt_mark i) := fun i hi => by rw [st46_ne (by decide) (by decide)]; exact h3 i hi
    refine bz_iload_n dX1_init_92 rfl ?_
    refine bz_bipush dX1_init_93 kc_bipush_30 ?_
    refine bz_icmp_geN (tgt := 170) dX1_init_95 rfl (by omega) (by omega) (fun q => absurd q (by omega)) (fun _ => ?_)
    refine bz_aload_n dX1_init_98 rfl ?_
    refine bz_getf fl_X1_21 dX1_init_99 rfl rfl (by omega) ?_
    refine bz_iload_n dX1_init_102 rfl ?_
    refine bz_aload_n dX1_init_103 rfl ?_
    refine bz_iload_n dX1_init_104 rfl ?_
    refine bz_cV1I (z := 4) mv_X1_findConjugate mi_X1_findConjugate lk_X1_40 dX1_init_105 (by exact t_findConj hn h30 (v1 a h30) v3) (by omega) rfl (by omega) rfl rfl rfl (Nat.le_of_ble_eq_true rfl) (Nat.le_of_ble_eq_true rfl) ?_
    refine bz_iastore dX1_init_108 rfl (by omega) (by omega) ?_
    refine bz_st (σ2 := st46 σ (bz_upto f tF4 (a + 1)) (bz_upto g tF6 (a * 30 + 0))) (by rw [st46_u4, bz_uptoI_s (F := tF4) rfl]; rfl) ?_
    refine bz_iconst dX1_init_109 kc_iconst_0 ?_
    refine bz_ist2 dX1_init_110 (by decide) rfl ?_
    refine t_in_2b hn h30 h1 h3 ?_ 30 0 rfl
    first | refine bz_iinc1N dX1_init_164 (by decide) rfl ?_ | refine bz_iinc1 dX1_init_164 rfl (by decide) rfl ?_
    refine bz_goto (tgt := 92) dX1_init_167 rfl ?_
    have := ih (a + 1) (some (.int (nI 30))) (by omega)
    rw [show (a + 1) * 30 = a * 30 + 30 by omega] at this
    exact this
theorem t_in_3 (hn : 9 ≤ n) {f g : Nat → Int32} {x2 : Option Value} (hf : ∀ i, i < 900 → f i = 0) (hg : ∀ i, i < 900 → g i = 0) (h1 : ∀ i, i < 30 → σ.2.1 1 i = nI (xt_deg i)) (h2 : ∀ i, i < 30 → σ.2.1 2 i = nI (xt_len i)) (h3 : ∀ i, i < 30 → σ.2.1 3 i = nI (xt_mark i)) :
    ∀ (m b : Nat), b + m = 29 → bz_V l ad K n mX1_init 4 none (st2 σ (tb f tF7 30 0) (tb g tF8 30 0)) 186 [some (.ref (ad 0)), some (.int (nI (b + 1))), x2] [] (st2 σ (tb f tF7 (b + 1) 0) (tb g tF8 (b + 1) 0)) := by
  intro m
  induction m with
  | zero =>
    intro b hb
    obtain rfl : b = 29 := by omega
    refine bz_iload_n dX1_init_186 rfl ?_
    refine bz_bipush dX1_init_187 kc_bipush_30 ?_
    refine bz_icmp_geN (tgt := 203) dX1_init_189 rfl (by omega) (by omega) (fun _ => ?_) (fun q => absurd q (by omega))
    refine bz_vret dX1_init_203 rfl rfl
  | succ m ih =>
    intro b hb
    refine bz_iload_n dX1_init_186 rfl ?_
    refine bz_bipush dX1_init_187 kc_bipush_30 ?_
    refine bz_icmp_geN (tgt := 203) dX1_init_189 rfl (by omega) (by omega) (fun q => absurd q (by omega)) (fun _ => ?_)
    refine bz_aload_n dX1_init_192 rfl ?_
    refine bz_iload_n dX1_init_193 rfl ?_
    refine bz_cV1U (z := 7) mv_X1_fillColumn mi_X1_fillColumn lk_X1_48 dX1_init_194 (by exact t_fillColumn hn (by omega) hf hg h1 h2 h3) (by omega) rfl (by omega) rfl rfl rfl (Nat.le_of_ble_eq_true rfl) (Nat.le_of_ble_eq_true rfl) ?_
    first | refine bz_iinc1N dX1_init_197 (by decide) rfl ?_ | refine bz_iinc1 dX1_init_197 rfl (by decide) rfl ?_
    refine bz_goto (tgt := 186) dX1_init_200 rfl ?_
    exact ih (b + 1) (by omega)
/-- behind the allocation: the tables are laid -/
theorem t_in_all (hn : 9 ≤ n) (h1 : ∀ i, i < 30 → σ.2.1 1 i = 0) (h2 : ∀ i, i < 30 → σ.2.1 2 i = 0) (h3 : ∀ i, i < 30 → σ.2.1 3 i = 0) (h7 : ∀ i, i < 900 → σ.2.1 7 i = 0) (h8 : ∀ i, i < 900 → σ.2.1 8 i = 0) :
    ∃ σ', (σ'.1 = σ.1 ∧ σ'.2.2 = σ.2.2 ∧ pz_T σ'.2.1 ∧ ∀ k, 9 ≤ k → σ'.2.1 k = σ.2.1 k) ∧ bz_V l ad K n mX1_init 4 none σ' 71 [some (.ref (ad 0)), none, none] [] σ := by
  obtain ⟨σ', hP, hV⟩ := t_in_1 (l := l) (ad := ad) (K := K) (n := n) (σ0 := σ) (x2 := none) (P := fun σ' => σ'.1 = σ.1 ∧ σ'.2.2 = σ.2.2 ∧ pz_T σ'.2.1 ∧ ∀ k, 9 ≤ k → σ'.2.1 k = σ.2.1 k) hn (fun σ1 hi => by
    obtain ⟨e1, e2, e3, e4⟩ := hi
    have d1 : ∀ i, i < 30 → σ1.2.1 1 i = nI (xt_deg i) := fun i hi => ((e4 i hi).1 hi).1
    have d2 : ∀ i, i < 30 → σ1.2.1 2 i = nI (xt_len i) := fun i hi => ((e4 i hi).1 hi).2.1
    have d3 : ∀ i, i < 30 → σ1.2.1 3 i = nI (xt_mark i) := fun i hi => ((e4 i hi).1 hi).2.2.1
    have d5 : ∀ i, i < 30 → σ1.2.1 5 i = nI (xt_z i) := fun i hi => ((e4 i hi).1 hi).2.2.2
    let τ := st46 σ1 (bz_upto (σ1.2.1 4) tF4 30) (bz_upto (σ1.2.1 6) tF6 900)
    have t1 : ∀ i, i < 30 → τ.2.1 1 i = nI (xt_deg i) := fun i hi => by show (st46 _ _ _).2.1 1 i = _; rw [st46_ne (by decide) (by decide)]; exact d1 i hi
    have t2 : ∀ i, i < 30 → τ.2.1 2 i = nI (xt_len i) := fun i hi => by show (st46 _ _ _).2.1 2 i = _; rw [st46_ne (by decide) (by decide)]; exact d2 i hi
    have t3 : ∀ i, i < 30 → τ.2.1 3 i = nI (xt_mark i) := fun i hi => by show (st46 _ _ _).2.1 3 i = _; rw [st46_ne (by decide) (by decide)]; exact d3 i hi
    have t5 : ∀ i, i < 30 → τ.2.1 5 i = nI (xt_z i) := fun i hi => by show (st46 _ _ _).2.1 5 i = _; rw [st46_ne (by decide) (by decide)]; exact d5 i hi
    have t7 : τ.2.1 7 = σ.2.1 7 := by show (st46 _ _ _).2.1 7 = _; rw [st46_ne (by decide) (by decide)]; exact e3 7 (by decide) (by decide) (by decide) (by decide)
    have t8 : τ.2.1 8 = σ.2.1 8 := by show (st46 _ _ _).2.1 8 = _; rw [st46_ne (by decide) (by decide)]; exact e3 8 (by decide) (by decide) (by decide) (by decide)
    have z7 : ∀ i, i < 900 → τ.2.1 7 i = 0 := fun i hi => by rw [t7]; exact h7 i hi
    have z8 : ∀ i, i < 900 → τ.2.1 8 i = 0 := fun i hi => by rw [t8]; exact h8 i hi
    refine ⟨st2 τ (tb (τ.2.1 7) tF7 30 0) (tb (τ.2.1 8) tF8 30 0), ⟨e1, e2, ⟨fun i hi => by rw [st2_ne (by decide) (by decide)]; exact t1 i hi, fun i hi => by rw [st2_ne (by decide) (by decide)]; exact t2 i hi, fun i hi => by rw [st2_ne (by decide) (by decide)]; exact t3 i hi, fun i hi => by rw [st2_ne (by decide) (by decide)]; show (st46 _ _ _).2.1 4 i = _; rw [st46_4, bz_upto_lt hi], fun i hi => by rw [st2_ne (by decide) (by decide)]; exact t5 i hi, fun i hi => by rw [st2_ne (by decide) (by decide)]; show (st46 _ _ _).2.1 6 i = _; rw [st46_6, bz_upto_lt hi], fun i hi => by rw [st2_7, tb_30 hi], fun i hi => by rw [st2_8, tb_30 hi]⟩, fun k hk => by rw [st2_ne (by omega) (by omega)]; show (st46 _ _ _).2.1 k = _; rw [st46_ne (by omega) (by omega)]; exact e3 k (by omega) (by omega) (by omega) (by omega)⟩, ?_⟩
    refine bz_iconst dX1_init_90 kc_iconst_0 ?_
    refine bz_ist1 dX1_init_91 (by decide) rfl ?_
    refine bz_st (σ2 := st46 σ1 (bz_upto (σ1.2.1 4) tF4 0) (bz_upto (σ1.2.1 6) tF6 (0 * 30))) (by rw [bz_upto_0, Nat.zero_mul, bz_upto_0, st46_id rfl rfl]) ?_
    refine t_in_2 hn d1 d3 (fun x2 => ?_) 30 0 none rfl
    refine bz_st (σ2 := st2 τ (tb (τ.2.1 7) tF7 0 0) (tb (τ.2.1 8) tF8 0 0)) (by rw [tb_0, tb_0, st2_id rfl rfl]) ?_
    refine bz_aload_n dX1_init_170 rfl ?_
    refine bz_getf fl_X1_30 dX1_init_171 rfl rfl (by omega) ?_
    refine bz_iconst dX1_init_174 kc_iconst_0 ?_
    refine bz_iconst dX1_init_175 kc_iconst_1 ?_
    refine bz_iastore dX1_init_176 rfl (by omega) (by omega) ?_
    refine bz_st (σ2 := st2 τ (tb (τ.2.1 7) tF7 0 1) (tb (τ.2.1 8) tF8 0 0)) (by rw [st2_u7]; exact congrArg (fun q => st2 τ q _) (tb_step (F := tF7) (a := 0) (by decide) (by decide))) ?_
    refine bz_aload_n dX1_init_177 rfl ?_
    refine bz_getf fl_X1_33 dX1_init_178 rfl rfl (by omega) ?_
    refine bz_iconst dX1_init_181 kc_iconst_0 ?_
    refine bz_iconst dX1_init_182 kc_iconst_1 ?_
    refine bz_iastore dX1_init_183 rfl (by omega) (by omega) ?_
    refine bz_st (σ2 := st2 τ (tb (τ.2.1 7) tF7 1 0) (tb (τ.2.1 8) tF8 1 0)) (by
      rw [st2_u8]
      have q7 : tb (τ.2.1 7) tF7 0 1 = tb (τ.2.1 7) tF7 1 0 := by
        rw [← tb_col]
        refine tb_skip (fun a h h2 h3 => ?_) (by decide)
        rw [z7 _ (by omega)]
        rcases fi_out 0 (by decide) a h with q | q
        · have : xt_end 0 = 1 := by decide
          omega
        · show nI (xt_kost _) = 0
          rw [q.1]; rfl
      have q8 : tb (τ.2.1 8) tF8 0 1 = tb (τ.2.1 8) tF8 1 0 := by
        rw [← tb_col]
        refine tb_skip (fun a h h2 h3 => ?_) (by decide)
        rw [z8 _ (by omega)]
        rcases fi_out 0 (by decide) a h with q | q
        · have : xt_end 0 = 1 := by decide
          omega
        · show Int32.ofInt (xt_char _) = 0
          rw [q.2]; rfl
      rw [q7, ← q8]
      exact congrArg (fun q => st2 τ _ q) (tb_step (F := tF8) (a := 0) (by decide) (by decide))) ?_
    refine bz_iconst dX1_init_184 kc_iconst_1 ?_
    refine bz_ist1 dX1_init_185 (by decide) rfl ?_
    exact t_in_3 hn z7 z8 t1 t2 t3 29 0 rfl) 30 0 σ rfl ⟨rfl, rfl, fun _ _ _ _ _ => rfl, fun i hi => ⟨fun q => absurd q (by omega), fun _ => ⟨h1 i hi, h2 i hi, h3 i hi⟩⟩⟩
  refine ⟨σ', hP, ?_⟩
  refine bz_iconst dX1_init_71 kc_iconst_0 ?_
  refine bz_ist1 dX1_init_72 (by decide) rfl ?_
  exact hV
end C2
