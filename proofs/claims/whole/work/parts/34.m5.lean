/-! the reference: how many fillings; the tableaux' members -/
def fl_pw (n : Nat) : Nat → Nat
  | 0 => 1
  | i + 1 => fl_pw n i * n
def fl_cnt (a b : Nat) : Nat := if xt_deg a = xt_deg b then nsum (fun w => fl_n (fl_is (xt_len b) w a b)) (fl_pw (xt_len b) (xt_deg a)) else 0
/-- boxes and counts alone have changed -/
def bz_mf (σ σ2 : bz_S) : Prop := σ2.1 = σ.1 ∧ σ2.2.2 = σ.2.2 ∧ ∀ j, j ≠ 61 → j ≠ 62 → σ2.2.1 j = σ.2.1 j
theorem bz_mf_rf (σ : bz_S) : bz_mf σ σ := ⟨rfl, rfl, fun _ _ _ => rfl⟩
theorem bz_mf_tr {a b c : bz_S} (h2 : bz_mf b c) (h1 : bz_mf a b) : bz_mf a c := ⟨h2.1.trans h1.1, h2.2.1.trans h1.2.1, fun j q1 q2 => (h2.2.2 j q1 q2).trans (h1.2.2 j q1 q2)⟩
theorem bz_mf_s (σ : bz_S) (n w i : Nat) : bz_mf σ (fl_s σ n w i) := ⟨rfl, rfl, fun j q1 q2 => by unfold fl_s; rw [bz_setI_ne q1, bz_setI_ne q2]⟩
theorem mz_mf {σ σ2 : bz_S} (h : bz_mf σ σ2) (hT : mz_T σ.2.1) : mz_T σ2.2.1 := ⟨fun i hi => by rw [h.2.2 55 (by omega) (by omega)]; exact hT.1 i hi, fun i hi => by rw [h.2.2 56 (by omega) (by omega)]; exact hT.2.1 i hi, fun i hi => by rw [h.2.2 57 (by omega) (by omega)]; exact hT.2.2 i hi⟩
theorem fl_pw_b : ∀ a, a < 30 → ∀ b, b < 30 → ∀ i, i < 7 → fl_pw (xt_len b) i < 2 ^ 31 := by decide +kernel
theorem fl_len0 : ∀ b, b < 30 → xt_deg b = 0 ∨ 0 < xt_len b := by decide +kernel
section M5
variable {l : Launch} {ad : Nat → Nat} {K : bz_K} {σ σ' : bz_S} {r : Option Value}
theorem m_fi_1 (hT : mz_T σ.2.1) {a b : Nat} (ha : a < 30) (hb : b < 30) (kk : bz_V l ad K 73 mX4_fillings 2 r σ' 52 [some (.ref (ad 54)), some (.int (nI a)), some (.int (nI b)), some (.int (nI (xt_len b))), some (.int (nI (fl_pw (xt_len b) (xt_deg a)))), some (.int (nI (xt_deg a))), none] [] σ) :
    ∀ (m i : Nat), i + m = xt_deg a → bz_V l ad K 73 mX4_fillings 2 r σ' 29 [some (.ref (ad 54)), some (.int (nI a)), some (.int (nI b)), some (.int (nI (xt_len b))), some (.int (nI (fl_pw (xt_len b) i))), some (.int (nI i)), none] [] σ := by
  have hd6 := xt_deg6 a ha
  intro m
  induction m with
  | zero =>
    intro i hi
    obtain rfl : i = xt_deg a := by omega
    refine bz_iload dX4_fillings_29 rfl ?_
    refine bz_aload_n dX4_fillings_31 rfl ?_
    refine bz_getf fl_X4_13 dX4_fillings_32 rfl rfl (by omega) ?_
    refine bz_iload_n dX4_fillings_35 rfl ?_
    refine bz_iaload dX4_fillings_36 rfl (by omega) (by omega) ?_
    refine bz_topi (hT.2.1 a ha) ?_
    refine bz_icmp_geN (tgt := 52) dX4_fillings_37 rfl (by omega) (by omega) (fun _ => ?_) (fun q => absurd q (by omega))
    exact kk
  | succ m ih =>
    intro i hi
    refine bz_iload dX4_fillings_29 rfl ?_
    refine bz_aload_n dX4_fillings_31 rfl ?_
    refine bz_getf fl_X4_13 dX4_fillings_32 rfl rfl (by omega) ?_
    refine bz_iload_n dX4_fillings_35 rfl ?_
    refine bz_iaload dX4_fillings_36 rfl (by omega) (by omega) ?_
    refine bz_topi (hT.2.1 a ha) ?_
    refine bz_icmp_geN (tgt := 52) dX4_fillings_37 rfl (by omega) (by omega) (fun q => absurd q (by omega)) (fun _ => ?_)
    refine bz_iload dX4_fillings_40 rfl ?_
    refine bz_iload_n dX4_fillings_42 rfl ?_
    first | refine bz_imulN dX4_fillings_43 ?_ | refine bz_imul dX4_fillings_43 ?_
    refine bz_ist4 dX4_fillings_44 (by decide) rfl ?_
    first | refine bz_iinc5N dX4_fillings_46 (by decide) rfl ?_ | refine bz_iinc5 dX4_fillings_46 rfl (by decide) rfl ?_
    refine bz_goto (tgt := 29) dX4_fillings_49 rfl ?_
    exact ih (i + 1) (by omega)
theorem m_fi_2 {a b N : Nat} (ha : a < 30) (hb : b < 30) (hN : N < 2 ^ 31) (hn : xt_deg a = 0 ∨ 0 < xt_len b) :
    ∀ (m w : Nat) (σ : bz_S) (acc : Nat), w + m = N → mz_T σ.2.1 → nsum (fun w => fl_n (fl_is (xt_len b) w a b)) w = acc → ∃ σ2, bz_V l ad K 73 mX4_fillings 2 (some (.int (nI (nsum (fun w => fl_n (fl_is (xt_len b) w a b)) N)))) σ2 58 [some (.ref (ad 54)), some (.int (nI a)), some (.int (nI b)), some (.int (nI (xt_len b))), some (.int (nI N)), some (.int (nI acc)), some (.int (nI w))] [] σ ∧ bz_mf σ σ2 := by
  have hl6 := xt_len6 b hb
  intro m
  induction m with
  | zero =>
    intro w σ acc hw hT hs
    obtain rfl : w = N := by omega
    refine ⟨σ, ?_, bz_mf_rf σ⟩
    refine bz_iload dX4_fillings_58 rfl ?_
    refine bz_iload dX4_fillings_60 rfl ?_
    refine bz_icmp_geN (tgt := 93) dX4_fillings_62 rfl (by omega) (by omega) (fun _ => ?_) (fun q => absurd q (by omega))
    refine bz_iload dX4_fillings_93 rfl ?_
    refine bz_iret dX4_fillings_95 rfl ?_ ?_
    · rw [hs]
    · rfl
  | succ m ih =>
    intro w σ acc hw hT hs
    have hmf := bz_mf_s σ (xt_len b) w (xt_deg a)
    obtain ⟨σ2, hV, hm⟩ := ih (w + 1) (fl_s σ (xt_len b) w (xt_deg a)) (acc + fl_n (fl_is (xt_len b) w a b)) (by omega) (mz_mf hmf hT) (by rw [nsum, hs])
    refine ⟨σ2, ?_, bz_mf_tr hm hmf⟩
    refine bz_iload dX4_fillings_58 rfl ?_
    refine bz_iload dX4_fillings_60 rfl ?_
    refine bz_icmp_geN (tgt := 93) dX4_fillings_62 rfl (by omega) (by omega) (fun q => absurd q (by omega)) (fun _ => ?_)
    refine bz_iload dX4_fillings_65 rfl ?_
    refine bz_aload_n dX4_fillings_67 rfl ?_
    refine bz_iload_n dX4_fillings_68 rfl ?_
    refine bz_iload_n dX4_fillings_69 rfl ?_
    refine bz_iload dX4_fillings_70 rfl ?_
    refine bz_iload_n dX4_fillings_72 rfl ?_
    refine bz_cV4I (z := 5) mv_X4_isFilled mi_X4_isFilled lk_X4_105 dX4_fillings_73 (by exact m_isFilled hT ha hb (by omega) hl6 hn) (by omega) rfl (by omega) rfl rfl rfl (Nat.le_of_ble_eq_true rfl) (Nat.le_of_ble_eq_true rfl) ?_
    cases h : fl_is (xt_len b) w a b with
    | true =>
      rw [h] at hV
      refine bz_topi (y := nI 1) rfl ?_
      refine bz_if_eq (tgt := 83) dX4_fillings_76 rfl (fun q => absurd q (by decide)) (fun _ => ?_)
      refine bz_iconst dX4_fillings_79 kc_iconst_1 ?_
      refine bz_goto (tgt := 84) dX4_fillings_80 rfl ?_
      first | refine bz_iaddN dX4_fillings_84 ?_ | refine bz_iadd dX4_fillings_84 ?_
      refine bz_ist5 dX4_fillings_85 (by decide) rfl ?_
      first | refine bz_iinc6N dX4_fillings_87 (by decide) rfl ?_ | refine bz_iinc6 dX4_fillings_87 rfl (by decide) rfl ?_
      refine bz_goto (tgt := 58) dX4_fillings_90 rfl ?_
      exact hV
    | false =>
      rw [h] at hV
      refine bz_topi (y := nI 0) rfl ?_
      refine bz_if_eq (tgt := 83) dX4_fillings_76 rfl (fun _ => ?_) (fun q => absurd (by decide) q)
      refine bz_iconst dX4_fillings_83 kc_iconst_0 ?_
      first | refine bz_iaddN dX4_fillings_84 ?_ | refine bz_iadd dX4_fillings_84 ?_
      refine bz_ist5 dX4_fillings_85 (by decide) rfl ?_
      first | refine bz_iinc6N dX4_fillings_87 (by decide) rfl ?_ | refine bz_iinc6 dX4_fillings_87 rfl (by decide) rfl ?_
      refine bz_goto (tgt := 58) dX4_fillings_90 rfl ?_
      exact hV
theorem m_fillings (hT : mz_T σ.2.1) {a b : Nat} (ha : a < 30) (hb : b < 30) : ∃ σ2, bz_V l ad K 73 mX4_fillings 2 (some (.int (nI (fl_cnt a b)))) σ2 0 [some (.ref (ad 54)), some (.int (nI a)), some (.int (nI b)), none, none, none, none] [] σ ∧ bz_mf σ σ2 := by
  have h1 := xt_deg6 a ha
  have h2 := xt_deg6 b hb
  by_cases hd : xt_deg a = xt_deg b
  · have hn : xt_deg a = 0 ∨ 0 < xt_len b := by rw [hd]; exact fl_len0 b hb
    obtain ⟨σ2, hV, hm⟩ := m_fi_2 (l := l) (ad := ad) (K := K) ha hb (fl_pw_b a ha b hb (xt_deg a) (by omega)) hn (fl_pw (xt_len b) (xt_deg a)) 0 σ 0 (Nat.zero_add _) hT rfl
    refine ⟨σ2, ?_, hm⟩
    rw [fl_cnt, if_pos hd]
    refine bz_aload_n dX4_fillings_0 rfl ?_
    refine bz_getf fl_X4_13 dX4_fillings_1 rfl rfl (by omega) ?_
    refine bz_iload_n dX4_fillings_4 rfl ?_
    refine bz_iaload dX4_fillings_5 rfl (by omega) (by omega) ?_
    refine bz_topi (hT.2.1 a ha) ?_
    refine bz_aload_n dX4_fillings_6 rfl ?_
    refine bz_getf fl_X4_13 dX4_fillings_7 rfl rfl (by omega) ?_
    refine bz_iload_n dX4_fillings_10 rfl ?_
    refine bz_iaload dX4_fillings_11 rfl (by omega) (by omega) ?_
    refine bz_topi (hT.2.1 b hb) ?_
    refine bz_icmp_eqN (tgt := 17) dX4_fillings_12 rfl (by omega) (by omega) (fun _ => ?_) (fun q => absurd q (by omega))
    refine bz_aload_n dX4_fillings_17 rfl ?_
    refine bz_iload_n dX4_fillings_18 rfl ?_
    refine bz_cV1I (z := 2) mv_X4_lengthOf mi_X4_lengthOf lk_X4_94 dX4_fillings_19 (by exact m_lengthOf (by exact hT) hb) (by omega) rfl (by omega) rfl rfl rfl (Nat.le_of_ble_eq_true rfl) (Nat.le_of_ble_eq_true rfl) ?_
    refine bz_ist3 dX4_fillings_22 (by decide) rfl ?_
    refine bz_iconst dX4_fillings_23 kc_iconst_1 ?_
    refine bz_ist4 dX4_fillings_24 (by decide) rfl ?_
    refine bz_iconst dX4_fillings_26 kc_iconst_0 ?_
    refine bz_ist5 dX4_fillings_27 (by decide) rfl ?_
    refine m_fi_1 hT ha hb ?_ (xt_deg a) 0 (Nat.zero_add _)
    refine bz_iconst dX4_fillings_52 kc_iconst_0 ?_
    refine bz_ist5 dX4_fillings_53 (by decide) rfl ?_
    refine bz_iconst dX4_fillings_55 kc_iconst_0 ?_
    refine bz_ist6 dX4_fillings_56 (by decide) rfl ?_
    exact hV
  · refine ⟨σ, ?_, bz_mf_rf σ⟩
    rw [fl_cnt, if_neg hd]
    refine bz_aload_n dX4_fillings_0 rfl ?_
    refine bz_getf fl_X4_13 dX4_fillings_1 rfl rfl (by omega) ?_
    refine bz_iload_n dX4_fillings_4 rfl ?_
    refine bz_iaload dX4_fillings_5 rfl (by omega) (by omega) ?_
    refine bz_topi (hT.2.1 a ha) ?_
    refine bz_aload_n dX4_fillings_6 rfl ?_
    refine bz_getf fl_X4_13 dX4_fillings_7 rfl rfl (by omega) ?_
    refine bz_iload_n dX4_fillings_10 rfl ?_
    refine bz_iaload dX4_fillings_11 rfl (by omega) (by omega) ?_
    refine bz_topi (hT.2.1 b hb) ?_
    refine bz_icmp_eqN (tgt := 17) dX4_fillings_12 rfl (by omega) (by omega) (fun q => absurd q (by omega)) (fun _ => ?_)
    refine bz_iconst dX4_fillings_15 kc_iconst_0 ?_
    refine bz_iret dX4_fillings_16 rfl rfl rfl
end M5
/-! a flag of the reference is put -/
theorem bz_putB {l : Launch} {ad : Nat → Nat} {K : bz_K} {M : bz_M} {d : Nat} {r : Option Value} {σ σ' : bz_S} {pc : Nat} {ls : List (Option Value)} {st : List Value} {x : Int32} (hM : M.2.2.1 = RX4) (hd : decode M.2.1 pc = .ok (.putfield 109, 3)) (hn : narrow .boolean (.int x) = .int x) (hft : fits .boolean (.int x) = true) (hlk : Cond.fieldLink RX4 109 "BasisMovesModel" "areTableaux" "Z" ∈ bz_tbl)
    (kk : bz_V l ad K 73 M d r σ' (pc + 3) ls st (bz_upB σ x)) : bz_V l ad K 73 M d r σ' pc ls (.int x :: .ref (ad 54) :: st) σ := by
  intro p e R s m args below meth c A Q mc ms C hR hQ H locs LS hP hS hl
  have hs : bz_sh 54 = (4, 4, 0, [some 55, some 56, some 57, some 58, none, some 59, some 60, some 61, some 62, some 63, some 64, some 65, some 66, some 67, some 68, some 69, some 70, some 71, some 72]) := rfl
  have he : (bz_ws ad K σ 73)[54]? = some (ad 54, .inr (4, ([some 55, some 56, some 57, some 58, none, some 59, some 60, some 61, some 62, some 63, some 64, some 65, some 66, some 67, some 68, some 69, some 70, some 71, some 72] : List (Option Nat)).map (bz_fv ad σ))) := by rw [bz_ws_at (by omega), bz_ent4 hs]
  refine va_put (T := TX4) (C := RX4) (N := 19) (ref := "BasisMovesModel") (ty := .boolean) C.1 C.2.1 C.2.2.2.2.2.1 wf_X4 tyX4 tyX4_ok nmX4 (by rw [← hM]; exact C.2.2.2.2.1) C.2.2.2.2.2.2.1 hP (bz_D C.2.2.2.2.2.2) hS 54 he rfl 4 (by omega) (C.2.2.2.2.2.1 _ hlk) (fun _ q => q) rfl (by decide +kernel) hn hft (Nat.le_of_ble_eq_true rfl) hd (fun H1 locs1 hP1 _ hS1 => ?_)
  rw [bz_set_eq (ad := ad) (K := K) (σ := σ) (n := 73) (k := 54) (σ1 := bz_upB σ x) (by rw [bz_ent4 hs]; rfl) (fun j hj => by
    unfold bz_ent
    have hno : ∀ q ∈ bz_shl.zipIdx, q.2 ≠ 54 → none ∉ q.1.2.2.2 := by decide +kernel
    have hfl : none ∉ (bz_sh j).2.2.2 := by
      unfold bz_sh
      rw [List.getD_eq_getElem?_getD]
      cases hq : bz_shl[j]? with
      | none => simp
      | some q =>
        have := hno (q, j) (by rw [List.mem_zipIdx_iff_getElem?]; exact hq) hj
        exact this
    have hmap : (bz_sh j).2.2.2.map (bz_fv ad (bz_upB σ x)) = (bz_sh j).2.2.2.map (bz_fv ad σ) := List.map_congr_left (fun o ho => by
      cases o with
      | none => exact absurd ho hfl
      | some q => rfl)
    revert hmap
    cases bz_sh j with
    | mk a rest =>
      obtain ⟨b, c, fl⟩ := rest
      intro hmap
      have hmap : fl.map (bz_fv ad (bz_upB σ x)) = fl.map (bz_fv ad σ) := hmap
      match a with
      | 0 => rfl
      | 1 => rfl
      | 2 => rfl
      | 3 => rfl
      | n + 4 => show Sum.inr (b, fl.map (bz_fv ad (bz_upB σ x))) = Sum.inr (b, fl.map (bz_fv ad σ)); rw [hmap])] at hP1
  exact kk p e R s m args below meth c A Q mc ms C hR hQ H1 locs1 LS hP1 hS1 hl
theorem wB_109 : Cond.fieldLink RX4 109 "BasisMovesModel" "areTableaux" "Z" ∈ bz_tbl := bz_one 548 (by decide +kernel) rfl
/-- what laying the tableaux changes -/
def bz_mt (σ σ2 : bz_S) : Prop := (∀ j, j ≠ 58 → σ2.1 j = σ.1 j) ∧ (∀ i, i < 3600 → σ2.1 58 i = σ.1 58 i) ∧ ∀ j, j ≠ 61 → j ≠ 62 → σ2.2.1 j = σ.2.1 j
theorem bz_mt_rf (σ : bz_S) : bz_mt σ σ := ⟨fun _ _ => rfl, fun _ _ => rfl, fun _ _ _ => rfl⟩
theorem bz_mt_tr {a b c : bz_S} (h2 : bz_mt b c) (h1 : bz_mt a b) : bz_mt a c := ⟨fun j q => (h2.1 j q).trans (h1.1 j q), fun i q => (h2.2.1 i q).trans (h1.2.1 i q), fun j q1 q2 => (h2.2.2 j q1 q2).trans (h1.2.2 j q1 q2)⟩
theorem mz_mt {σ σ2 : bz_S} (h : bz_mt σ σ2) (hT : mz_T σ.2.1) : mz_T σ2.2.1 := ⟨fun i hi => by rw [h.2.2 55 (by omega) (by omega)]; exact hT.1 i hi, fun i hi => by rw [h.2.2 56 (by omega) (by omega)]; exact hT.2.1 i hi, fun i hi => by rw [h.2.2 57 (by omega) (by omega)]; exact hT.2.2 i hi⟩
def fl_V (a b : Nat) : Int64 := (nI (fl_cnt a b)).toInt64
/-- rows before a, and of row a places before b, are laid -/
def fl_D (σ : bz_S) (a b : Nat) : Prop := ∀ a' b', a' < 30 → b' < 30 → (a' < a ∨ (a' = a ∧ b' < b)) → σ.1 58 (30 * (30 * 4 + a') + b') = fl_V a' b'
section M6
variable {l : Launch} {ad : Nat → Nat} {K : bz_K} {σ σ' : bz_S} {r : Option Value}
theorem m_lt_in {a : Nat} (ha : a < 30) (kk : ∀ σ1, mz_T σ1.2.1 → σ1.2.2 = nI 1 → fl_D σ1 a 30 → ∃ σ2, bz_V l ad K 73 mX4_layTableaux 3 none σ2 53 [some (.ref (ad 54)), some (.int (nI a)), some (.int (nI 30))] [] σ1 ∧ bz_mt σ1 σ2 ∧ σ2.2.2 = nI 1 ∧ fl_D σ2 30 0) :
    ∀ (m b : Nat) (σ : bz_S), b + m = 30 → mz_T σ.2.1 → σ.2.2 = nI 1 → fl_D σ a b → ∃ σ2, bz_V l ad K 73 mX4_layTableaux 3 none σ2 23 [some (.ref (ad 54)), some (.int (nI a)), some (.int (nI b))] [] σ ∧ bz_mt σ σ2 ∧ σ2.2.2 = nI 1 ∧ fl_D σ2 30 0 := by
  intro m
  induction m with
  | zero =>
    intro b σ hb hT h1 hD
    obtain rfl : b = 30 := by omega
    obtain ⟨σ2, hV, h⟩ := kk σ hT h1 hD
    refine ⟨σ2, ?_, h⟩
    refine bz_iload_n dX4_layTableaux_23 rfl ?_
    refine bz_bipush dX4_layTableaux_24 kc_bipush_30 ?_
    refine bz_icmp_geN (tgt := 53) dX4_layTableaux_26 rfl (by omega) (by omega) (fun _ => ?_) (fun q => absurd q (by omega))
    exact hV
  | succ m ih =>
    intro b σ hb hT h1 hD
    obtain ⟨σa, hVa, hma⟩ := m_fillings (l := l) (ad := ad) (K := K) hT ha (show b < 30 by omega)
    have hm2 : bz_mt σ (bz_upJ σa 58 (30 * (30 * 4 + a) + b) (fl_V a b)) := ⟨fun j q => by rw [bz_upJ_as, bz_setJ_ne q, hma.1], fun i q => by rw [bz_upJ_as, bz_setJ_at, hma.1]; unfold vp_updL; rw [if_neg (by omega)], hma.2.2⟩
    obtain ⟨σ2, hV, hm, hf, hDD⟩ := ih (b + 1) (bz_upJ σa 58 (30 * (30 * 4 + a) + b) (fl_V a b)) (by omega) (mz_mt hm2 hT) (by show σa.2.2 = _; rw [hma.2.1]; exact h1) (fun a' b' q1 q2 q3 => by
      rw [bz_upJ_as, bz_setJ_at, hma.1]
      unfold vp_updL
      by_cases e : 30 * (30 * 4 + a') + b' = 30 * (30 * 4 + a) + b
      · have e1 : a' = a := by omega
        have e2 : b' = b := by omega
        rw [if_pos e, e1, e2]
      · rw [if_neg e]
        exact hD a' b' q1 q2 (by omega))
    refine ⟨σ2, ?_, bz_mt_tr hm hm2, hf, hDD⟩
    refine bz_iload_n dX4_layTableaux_23 rfl ?_
    refine bz_bipush dX4_layTableaux_24 kc_bipush_30 ?_
    refine bz_icmp_geN (tgt := 53) dX4_layTableaux_26 rfl (by omega) (by omega) (fun q => absurd q (by omega)) (fun _ => ?_)
    refine bz_aload_n dX4_layTableaux_29 rfl ?_
    refine bz_getf fl_X4_19 dX4_layTableaux_30 rfl rfl (by omega) ?_
    refine bz_iconst dX4_layTableaux_33 kc_iconst_4 ?_
    refine bz_iload_n dX4_layTableaux_34 rfl ?_
    refine bz_iload_n dX4_layTableaux_35 rfl ?_
    refine bz_cS3I (z := 0) mv_X4_at ws_X4_at lk_X4_75 dX4_layTableaux_36 (by exact m_at) (by omega) rfl (Nat.le_of_ble_eq_true rfl) (Nat.le_of_ble_eq_true rfl) ?_
    refine bz_aload_n dX4_layTableaux_39 rfl ?_
    refine bz_iload_n dX4_layTableaux_40 rfl ?_
    refine bz_iload_n dX4_layTableaux_41 rfl ?_
    refine bz_cV2I (z := 4) mv_X4_fillings mi_X4_fillings lk_X4_113 dX4_layTableaux_42 (by exact hVa) (by omega) rfl (by omega) rfl rfl rfl (Nat.le_of_ble_eq_true rfl) (Nat.le_of_ble_eq_true rfl) ?_
    refine bz_i2l dX4_layTableaux_45 ?_
    refine bz_lastore dX4_layTableaux_46 rfl (by omega) (by omega) ?_
    first | refine bz_iinc2N dX4_layTableaux_47 (by decide) rfl ?_ | refine bz_iinc2 dX4_layTableaux_47 rfl (by decide) rfl ?_
    refine bz_goto (tgt := 23) dX4_layTableaux_50 rfl ?_
    exact hV
theorem m_lt_out : ∀ (m a : Nat) (σ : bz_S) (x2 : Option Value), a + m = 30 → mz_T σ.2.1 → σ.2.2 = nI 1 → fl_D σ a 0 → ∃ σ2, bz_V l ad K 73 mX4_layTableaux 3 none σ2 15 [some (.ref (ad 54)), some (.int (nI a)), x2] [] σ ∧ bz_mt σ σ2 ∧ σ2.2.2 = nI 1 ∧ fl_D σ2 30 0 := by
  intro m
  induction m with
  | zero =>
    intro a σ x2 ha hT h1 hD
    obtain rfl : a = 30 := by omega
    refine ⟨σ, ?_, bz_mt_rf σ, h1, hD⟩
    refine bz_iload_n dX4_layTableaux_15 rfl ?_
    refine bz_bipush dX4_layTableaux_16 kc_bipush_30 ?_
    refine bz_icmp_geN (tgt := 59) dX4_layTableaux_18 rfl (by omega) (by omega) (fun _ => ?_) (fun q => absurd q (by omega))
    refine bz_vret dX4_layTableaux_59 rfl rfl
  | succ m ih =>
    intro a σ x2 ha hT h1 hD
    obtain ⟨σ2, hV, h⟩ := m_lt_in (l := l) (ad := ad) (K := K) (show a < 30 by omega) (fun σ1 hT1 h11 hD1 => by
      obtain ⟨σ2, hV, h⟩ := ih (a + 1) σ1 (some (.int (nI 30))) (by omega) hT1 h11 (fun a' b' q1 q2 q3 => hD1 a' b' q1 q2 (by omega))
      refine ⟨σ2, ?_, h⟩
      first | refine bz_iinc1N dX4_layTableaux_53 (by decide) rfl ?_ | refine bz_iinc1 dX4_layTableaux_53 rfl (by decide) rfl ?_
      refine bz_goto (tgt := 15) dX4_layTableaux_56 rfl ?_
      exact hV) 30 0 σ rfl hT h1 hD
    refine ⟨σ2, ?_, h⟩
    refine bz_iload_n dX4_layTableaux_15 rfl ?_
    refine bz_bipush dX4_layTableaux_16 kc_bipush_30 ?_
    refine bz_icmp_geN (tgt := 59) dX4_layTableaux_18 rfl (by omega) (by omega) (fun q => absurd q (by omega)) (fun _ => ?_)
    refine bz_iconst dX4_layTableaux_21 kc_iconst_0 ?_
    refine bz_ist2 dX4_layTableaux_22 (by decide) rfl ?_
    exact hV
/-- the reference's flag, and its members of tableaux where it is put -/
def fl_F (σ : bz_S) : Prop := σ.2.2 = 0 ∨ (σ.2.2 = nI 1 ∧ fl_D σ 30 0)
theorem m_layTableaux (hT : mz_T σ.2.1) (hF : fl_F σ) : ∃ σ2, bz_V l ad K 73 mX4_layTableaux 3 none σ2 0 [some (.ref (ad 54)), none, none] [] σ ∧ bz_mt σ σ2 ∧ σ2.2.2 = nI 1 ∧ fl_D σ2 30 0 := by
  rcases hF with h0 | ⟨h1, hD⟩
  · obtain ⟨σ2, hV, h⟩ := m_lt_out (l := l) (ad := ad) (K := K) 30 0 (bz_upB σ (nI 1)) none rfl (by exact hT) rfl (fun a' b' q1 q2 q3 => by omega)
    refine ⟨σ2, ?_, h⟩
    refine bz_aload_n dX4_layTableaux_0 rfl ?_
    refine bz_getB fl_X4_109 dX4_layTableaux_1 rfl rfl (by omega) ?_
    refine bz_if_eq (tgt := 8) dX4_layTableaux_4 rfl (fun _ => ?_) (fun q => absurd (h0) q)
    refine bz_aload_n dX4_layTableaux_8 rfl ?_
    refine bz_iconst dX4_layTableaux_9 kc_iconst_1 ?_
    refine bz_putB rfl dX4_layTableaux_10 (by decide) (by decide) wB_109 ?_
    refine bz_iconst dX4_layTableaux_13 kc_iconst_0 ?_
    refine bz_ist1 dX4_layTableaux_14 (by decide) rfl ?_
    exact hV
  · refine ⟨σ, ?_, bz_mt_rf σ, h1, hD⟩
    refine bz_aload_n dX4_layTableaux_0 rfl ?_
    refine bz_getB fl_X4_109 dX4_layTableaux_1 rfl rfl (by omega) ?_
    refine bz_topi h1 ?_
    refine bz_if_eq (tgt := 8) dX4_layTableaux_4 rfl (fun q => absurd q (by decide)) (fun _ => ?_)
    refine bz_vret dX4_layTableaux_7 rfl rfl
end M6
