/-! the law from its entry -/
theorem lki_9 : Cond.methodLink R_law 9 yX3_init ∈ bz_tbl := bz_one 74 (by decide +kernel) rfl
theorem lki_12 : Cond.methodLink R_law 12 yX4_init ∈ bz_tbl := bz_one 507 (by decide +kernel) rfl
abbrev lw_fl : List Cond := flatC (Jvm.Cond.and given_1 narrow_1)
theorem lw_f5 : lw_fl[5]? = some (Cond.arrayOf (.static "BasisMoves$Partitions" "PARTS" "[I") .int) := by decide +kernel
theorem lw_f6 : lw_fl[6]? = some (Cond.eq (.length (.static "BasisMoves$Partitions" "PARTS" "[I")) (.int (Int32.ofNat 180))) := by decide +kernel
theorem lw_f7 : ∀ j, j < 180 → lw_fl[7 + j]? = some (Cond.eq (.elem (.static "BasisMoves$Partitions" "PARTS" "[I") (.int (Int32.ofNat j))) (.int (bz_PARTS j))) := by decide +kernel
theorem lw_f188 : lw_fl[188]? = some (Cond.arrayOf (.static "BasisMoves$Partitions" "STARTS" "[I") .int) := by decide +kernel
theorem lw_f189 : lw_fl[189]? = some (Cond.eq (.length (.static "BasisMoves$Partitions" "STARTS" "[I")) (.int (Int32.ofNat 8))) := by decide +kernel
theorem lw_f190 : ∀ j, j < 8 → lw_fl[190 + j]? = some (Cond.eq (.elem (.static "BasisMoves$Partitions" "STARTS" "[I") (.int (Int32.ofNat j))) (.int (bz_STARTS j))) := by decide +kernel
theorem lw_w101 : lw_tbl[101]? = some (Cond.laysStatic RX1 "PARTS" "[I") := by decide +kernel
theorem lw_w117 : lw_tbl[117]? = some (Cond.laysStatic RX1 "STARTS" "[I") := by decide +kernel
theorem lw_w204 : lw_tbl[204]? = some (Cond.arrayOver (.array .long)) := by decide +kernel
theorem zw_0 : zw 0 100000 := by decide
theorem lw_G0 {s : State} {b : Nat} (hts0 : ∀ w ∈ lw_tbl, w.before #[Value.ref b] s = true) (hgv : (Jvm.Cond.and given_1 narrow_1).before #[Value.ref b] s = true) : ∃ K : bz_K, bz_G0 K (fun q => s.heap.size ≤ q) s := by
  have hts : ∀ w ∈ bz_tbl, w.before #[Value.ref b] s = true := fun w hw => hts0 w (List.mem_filter.mp hw).1
  have hnA : ∀ a : Nat, a < s.heap.size → ¬ (fun q : Nat => s.heap.size ≤ q) a := fun a h => Nat.not_le.mpr h
  obtain ⟨c0, i0, k0⟩ := u_known (C := RX0) (T := TX0) (N := 3) (n := 3) hts wf_X0 (hts _ kn_X0)
  obtain ⟨c1, i1, k1⟩ := u_known (C := RX1) (T := TX1) (N := 8) (n := 8) hts wf_X1 (hts _ kn_X1)
  obtain ⟨c2, i2, k2⟩ := u_known (C := RX2) (T := TX2) (N := 4) (n := 4) hts wf_X2 (hts _ kn_X2)
  obtain ⟨c3, i3, k3⟩ := u_known (C := RX3) (T := TX3) (N := 9) (n := 9) hts wf_X3 (hts _ kn_X3)
  obtain ⟨c4, i4, k4⟩ := u_known (C := RX4) (T := TX4) (N := 19) (n := 19) hts wf_X4 (hts _ kn_X4)
  obtain ⟨dC, dI, hKc⟩ : ∃ (dC : Nat → ClassId) (dI : Nat → Nat → Nat), ∀ (k : Nat) (q : vw_C), vwCl[k]? = some q → u_Kn s q.1 q.2.1 q.2.2 (dC k) (dI k) := by
    refine ⟨fun k => if k = 0 then c0 else if k = 1 then c1 else if k = 2 then c2 else if k = 3 then c3 else c4, fun k => if k = 0 then i0 else if k = 1 then i1 else if k = 2 then i2 else if k = 3 then i3 else i4, ?_⟩
    intro k q hq
    match k, hq with
    | 0, hq => cases hq; exact k0
    | 1, hq => cases hq; exact k1
    | 2, hq => cases hq; exact k2
    | 3, hq => cases hq; exact k3
    | 4, hq => cases hq; exact k4
    | k + 5, hq => simp [vwCl] at hq
  obtain ⟨cI, kI, pI, fI, gI, eI⟩ := Cond.arrayClass_spec (hts _ wa_int)
  obtain ⟨cJ, kJ, pJ, fJ, gJ, eJ⟩ := Cond.arrayClass_spec (hts _ wa_long)
  obtain ⟨cB, kB, pB, fB, gB, eB⟩ := Cond.arrayClass_spec (hts _ wa_boolean)
  have hov := hts0 _ (List.mem_of_getElem? lw_w204)
  obtain ⟨pA, cA, kA, -, -, gA, eA, fA⟩ := arrayOverA_spec hov
  have hs := flat_of_before _ hgv
  obtain ⟨tS, eS, vS⟩ := va_Tof (A := fun q => s.heap.size ≤ q) (tm := .static "BasisMoves$Partitions" "STARTS" "[I") (ty := .int) (N := 8) (f := fun j => .int (bz_STARTS j)) (by decide) (hs _ (List.mem_of_getElem? lw_f188)) (va_eqt (hs _ (List.mem_of_getElem? lw_f189))) (fun j hj => va_eqt (hs _ (List.mem_of_getElem? (lw_f190 j hj)))) hnA
  obtain ⟨tP, eP, vP⟩ := va_Tof (A := fun q => s.heap.size ≤ q) (tm := .static "BasisMoves$Partitions" "PARTS" "[I") (ty := .int) (N := 180) (f := fun j => .int (bz_PARTS j)) (by decide) (hs _ (List.mem_of_getElem? lw_f5)) (va_eqt (hs _ (List.mem_of_getElem? lw_f6))) (fun j hj => va_eqt (hs _ (List.mem_of_getElem? (lw_f7 j hj)))) hnA
  refine ⟨((dC, dI), cI, cJ, cB, cA, tS, tP), ⟨hKc, fun k q hq => ?_⟩, fun w hw => va_Nw.of (bz_nst_on hw) (hts0 w (List.mem_filter.mp hw).1), hov, va_Zof (hts0 _ (List.mem_of_getElem? lw_w117)) (hts _ wi_BasisMoves_Partitions) eS hnA, vS, va_Zof (hts0 _ (List.mem_of_getElem? lw_w101)) (hts _ wi_BasisMoves_Partitions) eP hnA, vP⟩
  match k, hq with
  | 0, hq => cases hq; exact ⟨fun n z => ⟨fun k h => (by cases h), kI, gI, pI, eI⟩, fI⟩
  | 1, hq => cases hq; exact ⟨fun n z => ⟨fun k h => (by cases h), kJ, gJ, pJ, eJ⟩, fJ⟩
  | 2, hq => cases hq; exact ⟨fun n z => ⟨fun k h => (by cases h), kB, gB, pB, eB⟩, fB⟩
  | 3, hq => cases hq; exact ⟨fun n z => ⟨fun k h => (by cases h), kA, gA, pA, eA⟩, fA⟩
  | k + 4, hq => simp [bz_tys] at hq
theorem bI_start {σ σ0 : bz_S} (hT0 : pz_T σ0.2.1) (hz1 : ∀ k, σ0.1 k = fun _ => 0) (hz2 : ∀ k, 9 ≤ k → σ0.2.1 k = fun _ => 0) (g : mz_T σ.2.1 ∧ mz_M σ ∧ σ.2.2 = 0 ∧ (∀ k, k < 54 → σ.1 k = σ0.1 k) ∧ (∀ k, k < 54 → σ.2.1 k = σ0.2.1 k) ∧ (∀ k, 59 ≤ k → k ≠ 60 → σ.1 k = fun _ => 0) ∧ σ.2.1 72 = fun _ => 0) : bI σ := by
  obtain ⟨g1, g2, g3, g4, g5, g6, g7⟩ := g
  refine ⟨pz_same hT0 (fun k hk => g5 k (by omega)), ⟨g1, g2, Or.inl g3⟩, fun s hs j hj => ?_, fun k hk s hs j hj => ?_, fun k hk => ?_⟩
  · rw [g4 (25 + s) (by omega), hz1, g6 59 (by omega) (by omega)]
    exact ⟨rfl, zw_0⟩
  · rw [g4 (34 + k * 8 + s) (by omega), hz1, g6 71 (by omega) (by omega)]
    exact ⟨rfl, zw_0⟩
  · rw [g5 50 (by omega), hz2 50 (by omega), g7]
set_option maxHeartbeats 4000000 in
set_option maxRecDepth 100000 in
/-- from the entry, for every script of at most 2560 ints, the law comes to its end with true -/
theorem whole_start {p : Program} {e : Env} {s : State} {m : MethodId} {below : List Frame} {meth : Method} {c : Code} (l : Launch) (hflags : l.flags = flags0) {b L : Nat} {xs : Nat → Int32} (hL : L ≤ 2560) (C0 : lw_At p s m meth c b L xs) : W p l e room_1 s m #[Value.ref b] below meth c s.heap [] 0 0 (lw_Z below #[Value.ref b] s) (entryFrame m ([Value.ref b] : List Value).toArray 4) := by
  obtain ⟨hx, hb, hr, hml, hown, hts0, hX, hbl, hlocks, hgv⟩ := id C0
  have hts : ∀ w ∈ bz_tbl, w.before #[Value.ref b] s = true := fun w hw => hts0 w (List.mem_filter.mp hw).1
  obtain ⟨K, hG⟩ := lw_G0 hts0 hgv
  have hA : ∀ q : Nat, s.heap.size ≤ q → (fun q : Nat => s.heap.size ≤ q) q := fun _ h => h
  have hbA : ¬ (fun q : Nat => s.heap.size ≤ q) b := Nat.not_le.mpr hbl
  have hS : va_S (fun q : Nat => s.heap.size ≤ q) s.heap s.heap [] := va_S.rf
  have hP : va_P K.1 vwCl [] s.heap := fun k q h => by simp at h
  have hD : va_D (fun q : Nat => s.heap.size ≤ q) [] := ⟨fun i j p q h => by simp at h, fun k q h => by simp at h⟩
  have hl := lv_entry ([.ref b]) (n := 4) (Nat.le_of_ble_eq_true rfl)
  rw [lg_entry_eq]
  generalize (lg_sl ([.ref b]) ++ List.replicate (4 - (lg_sl ([.ref b])).length) Slot.unset).toArray = ls at hl ⊢
  have hl : lv_has ls 4 [(0, .ref b)] := hl
  refine va_new (ci := 3) (fs := [.null, .null, .null, .null, .null, .null, .null, .null, .null]) (C := RX3) (T := TX3) (N := 9) hx hb hts wf_X3 tyX3 tyX3_ok hown (hts _ kl_L_7c) (hts _ kn_X3) (hts _ wi_BasisMoves) hG.1 hP hD hS hA rfl df_X3 (Nat.le_of_ble_eq_true rfl) (Nat.le_of_ble_eq_true rfl) dL_law_0 (fun h23 H hP hD hS => ?_)
  refine lv_dup hx hb dL_law_3 rfl ?_
  refine bz_cI (X := []) (wc := [(h23, .inr (3, [.null, .null, .null, .null, .null, .null, .null, .null, .null]))]) (As := []) (rest := [.ref h23]) (b := h23) hx hb hml hl.1 hown hts hG mv_X3_init rfl ki_X3 rfl lki_9 dL_law_4 rfl (fun sz => k_X3 l K h23 sz) ⟨Nat.le_of_ble_eq_true rfl, Nat.le_of_ble_eq_true rfl⟩ ⟨Nat.le_of_ble_eq_true rfl, Nat.le_of_ble_eq_true rfl⟩ (Nat.le_of_ble_eq_true rfl) hP hD hS hA (fun w1 H locs f1 hP hD hS => ?_)
  obtain ⟨ad0, σ0, e23, hT0, hz1, hz2, rfl⟩ := f1
  rw [← e23]
  have hP : va_P K.1 vwCl (bz_ws ad0 K σ0 54) H := hP
  have hD : va_D (fun q : Nat => s.heap.size ≤ q) (bz_ws ad0 K σ0 54) := hD
  refine lv_astore_n (lv' := [(1, .ref (ad0 23)), (0, .ref b)]) hx hb dL_law_7 rfl hl (by decide) rfl (fun ls hl => ?_)
  refine va_new (ci := 4) (fs := [.null, .null, .null, .null, .int 0, .null, .null, .null, .null, .null, .null, .null, .null, .null, .null, .null, .null, .null, .null]) (C := RX4) (T := TX4) (N := 19) hx hb hts wf_X4 tyX4 tyX4_ok hown (hts _ kl_L_10c) (hts _ kn_X4) (hts _ wi_BasisMovesModel) hG.1 hP hD hS hA rfl df_X4 (Nat.le_of_ble_eq_true rfl) (Nat.le_of_ble_eq_true rfl) dL_law_8 (fun h54 H hP hD hS => ?_)
  refine lv_dup hx hb dL_law_11 rfl ?_
  refine bz_cI (X := []) (wc := bz_ws ad0 K σ0 54 ++ [(h54, .inr (4, [.null, .null, .null, .null, .int 0, .null, .null, .null, .null, .null, .null, .null, .null, .null, .null, .null, .null, .null, .null]))]) (As := []) (rest := [.ref h54]) (b := h54) hx hb hml hl.1 hown hts hG mv_X4_init rfl ki_X4 rfl lki_12 dL_law_12 rfl (fun sz => k_X4 l K ad0 σ0 h54 sz) ⟨Nat.le_of_ble_eq_true rfl, Nat.le_of_ble_eq_true rfl⟩ ⟨Nat.le_of_ble_eq_true rfl, Nat.le_of_ble_eq_true rfl⟩ (Nat.le_of_ble_eq_true rfl) hP hD hS hA (fun w1 H locs f1 hP hD hS => ?_)
  obtain ⟨ad, σ, ha, e54, g, rfl⟩ := f1
  have hP : va_P K.1 vwCl (bz_ws ad K σ 73) H := hP
  have hD : va_D (fun q : Nat => s.heap.size ≤ q) (bz_ws ad K σ 73) := hD
  rw [← e54]
  rw [← ha 23 (by decide)] at hl
  refine lv_astore_n (lv' := [(2, .ref (ad 54)), (1, .ref (ad 23)), (0, .ref b)]) hx hb dL_law_15 rfl hl (by decide) rfl (fun ls hl => ?_)
  refine lv_iconst hx hb dL_law_16 (v := nI 0) (by decide) ?_
  refine lv_istore_n (lv' := [(3, .int (nI 0)), (2, .ref (ad 54)), (1, .ref (ad 23)), (0, .ref b)]) hx hb dL_law_17 rfl hl (by decide) rfl (fun ls hl => ?_)
  exact lw_loop (ad := ad) (K := K) ⟨hx, hb, hml, hown, hts, bz_G0_G hG hD, hX, hbl, hbA, hL⟩ hr hlocks ⟨Nat.le_of_ble_eq_true rfl, Nat.le_of_ble_eq_true rfl⟩ (L + 1) 0 σ H locs ls (by omega) (Nat.zero_le L) (bI_start hT0 hz1 hz2 g) hP hS (lv_sub hl [3, 2, 1, 0] rfl)
