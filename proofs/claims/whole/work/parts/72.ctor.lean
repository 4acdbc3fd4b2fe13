/-! constructors -/
theorem ko_inst : Cond.instanceMethod objectInit ∈ bz_tbl := bz_one 78 (by decide +kernel) rfl
theorem ko_code : Cond.code objectInit ⟨#[0xb1]⟩ 1 none ∈ bz_tbl := bz_one 79 (by decide +kernel) rfl
theorem ko_X3 : Cond.methodLink RX3 1 objectInit ∈ bz_tbl := bz_one 77 (by decide +kernel) rfl
theorem ko_X1 : Cond.methodLink RX1 3 objectInit ∈ bz_tbl := bz_one 85 (by decide +kernel) rfl
theorem ko_X0 : Cond.methodLink RX0 3 objectInit ∈ bz_tbl := bz_one 185 (by decide +kernel) rfl
theorem ko_X2 : Cond.methodLink RX2 3 objectInit ∈ bz_tbl := bz_one 202 (by decide +kernel) rfl
theorem ko_X4 : Cond.methodLink RX4 1 objectInit ∈ bz_tbl := bz_one 510 (by decide +kernel) rfl
theorem ki_X0 : Cond.instanceMethod yX0_init ∈ bz_tbl := bz_one 183 (by decide +kernel) rfl
theorem ki_X1 : Cond.instanceMethod yX1_init ∈ bz_tbl := bz_one 83 (by decide +kernel) rfl
theorem ki_X2 : Cond.instanceMethod yX2_init ∈ bz_tbl := bz_one 200 (by decide +kernel) rfl
theorem ki_X3 : Cond.instanceMethod yX3_init ∈ bz_tbl := bz_one 75 (by decide +kernel) rfl
theorem ki_X4 : Cond.instanceMethod yX4_init ∈ bz_tbl := bz_one 508 (by decide +kernel) rfl
theorem kn_X3 : Cond.instantiable RX3 9 ∈ bz_tbl := bz_one 73 (by decide +kernel) rfl
theorem kn_X1 : Cond.instantiable RX1 8 ∈ bz_tbl := bz_one 81 (by decide +kernel) rfl
theorem kn_X0 : Cond.instantiable RX0 3 ∈ bz_tbl := bz_one 181 (by decide +kernel) rfl
theorem kn_X2 : Cond.instantiable RX2 4 ∈ bz_tbl := bz_one 198 (by decide +kernel) rfl
theorem kn_X4 : Cond.instantiable RX4 19 ∈ bz_tbl := bz_one 506 (by decide +kernel) rfl
theorem kl_L_7c : Cond.classLink RL 7 RX3 ∈ bz_tbl := bz_one 72 (by decide +kernel) rfl
theorem kl_X3_7c : Cond.classLink RX3 7 RX1 ∈ bz_tbl := bz_one 80 (by decide +kernel) rfl
theorem kl_X3_16c : Cond.classLink RX3 16 RX0 ∈ bz_tbl := bz_one 180 (by decide +kernel) rfl
theorem kl_X3_25c : Cond.classLink RX3 25 RX2 ∈ bz_tbl := bz_one 197 (by decide +kernel) rfl
theorem kl_X2_9c : Cond.classLink RX2 9 "[[J" ∈ bz_tbl := bz_one 203 (by decide +kernel) rfl
theorem kl_X3_32c : Cond.classLink RX3 32 "[[J" ∈ bz_tbl := bz_one 218 (by decide +kernel) rfl
theorem kl_L_10c : Cond.classLink RL 10 RX4 ∈ bz_tbl := bz_one 505 (by decide +kernel) rfl
set_option maxRecDepth 100000 in
set_option maxHeartbeats 4000000 in
theorem k_X1 (l : Launch) (K : bz_K) (h0 sz : Nat) : Met l mX1_init.1 (bz_w mX1_init) (bz_rmc 4 8 2850) (va_Pc [.ref h0] (bz_Bc K ([(h0, .inr (1, [.null, .null, .null, .null, .null, .null, .null, .null]))]) sz)) (bz_Qc K (va_A ([(h0, .inr (1, [.null, .null, .null, .null, .null, .null, .null, .null]))]) sz) (fun w1 => ∃ (ad : Nat → Nat) (σ : bz_S), ad 0 = h0 ∧ pz_T σ.2.1 ∧ w1 = bz_ws ad K σ 9)) 8 2850 (va_A ([(h0, .inr (1, [.null, .null, .null, .null, .null, .null, .null, .null]))]) sz) := by
  refine Met.ofW (cc := cX1_init) (maxL := 3) (ret := none) (by decide +kernel) rfl ?_
  intro p e s m args below meth c s₁ B hml hv
  obtain ⟨rfl, hsz, hP, hD0, hG⟩ := hv
  have hx := B.exec
  have hb := B.bytes
  have hr := B.returns
  have hts0 := atoms_spec (ws := bz_w mX1_init) B.pre
  have hts : ∀ w ∈ bz_tbl, w.before _ s = true := fun w hw => hts0 w (List.mem_cons_of_mem _ hw)
  have hown : s.vm.findClass RX1 = some m.cls := findClass_of_methodNamed B.named
  have hlocks := B.notSynchronized
  have hin : meth.name = "<init>" := (name_of_methodNamed B.named B.method).1
  subst hsz
  have hD := hD0.self (sz := s.heap.size)
  generalize hAe : va_A ([(h0, .inr (1, [.null, .null, .null, .null, .null, .null, .null, .null]))]) s.heap.size = A at hD hG ⊢
  have hA : ∀ q : Nat, s.heap.size ≤ q → A q := fun q h => by rw [← hAe]; exact Or.inr h
  have hS : va_S A s.heap s.heap [] := va_S.rf
  have hl := lv_entry ([.ref h0]) (n := 3) (Nat.le_of_ble_eq_true rfl)
  rw [lg_entry_eq]
  generalize (lg_sl ([.ref h0]) ++ List.replicate (3 - (lg_sl ([.ref h0])).length) Slot.unset).toArray = ls at hl ⊢
  have hl : lv_has ls 3 [(0, .ref h0)] := hl
  refine lv_aload_n hx hb dX1_init_0 rfl (lv_at hl 0 rfl) ?_
  refine W.objInit hx hb hown (hts _ ko_X1) (hts _ ko_inst) (hts _ ko_code) rfl (by rw [hml]; exact hl.1) rfl dX1_init_1 (Nat.le_of_ble_eq_true rfl) (Nat.le_of_ble_eq_true rfl) ?_
  refine lv_aload_n hx hb dX1_init_4 rfl (lv_at hl 0 rfl) ?_
  refine lv_bipush hx hb dX1_init_5 (v := nI 30) (by decide) ?_
  refine bz_nI hx hb hts hG.1 hP hD hS hA (n := 30) (by decide) (Nat.le_of_ble_eq_true rfl) (Nat.le_of_ble_eq_true rfl) dX1_init_7 (fun q1 H hP hD hS => ?_)
  have hP : va_P K.1 vwCl ([(h0, .inr (1, [.null, .null, .null, .null, .null, .null, .null, .null])), (q1, .inl (K.2.1, 30, .inl (fun _ => 0)))]) H := hP
  have hD : va_D A ([(h0, .inr (1, [.null, .null, .null, .null, .null, .null, .null, .null])), (q1, .inl (K.2.1, 30, .inl (fun _ => 0)))]) := hD
  refine va_putF (D := K.1) (ci := 1) (v := .ref q1) (ty := (.array .int)) (C := RX1) (T := TX1) (N := 8) hx hb hts wf_X1 tyX1 tyX1_ok nmX1 hown hG.1 hP hD hS 0 rfl rfl 0 (by decide) (hts (.fieldLink RX1 9 RX1 "degrees" "[I") (bz_one 144 (by decide +kernel) rfl)) (fun _ h9 => h9) rfl hin rfl (by decide +kernel) rfl rfl (Nat.le_of_ble_eq_true rfl) dX1_init_9 (fun H locs hP hD hS => ?_)
  have hP : va_P K.1 vwCl ([(h0, .inr (1, [.ref q1, .null, .null, .null, .null, .null, .null, .null])), (q1, .inl (K.2.1, 30, .inl (fun _ => 0)))]) H := hP
  have hD : va_D A ([(h0, .inr (1, [.ref q1, .null, .null, .null, .null, .null, .null, .null])), (q1, .inl (K.2.1, 30, .inl (fun _ => 0)))]) := hD
  refine lv_aload_n hx hb dX1_init_12 rfl (lv_at hl 0 rfl) ?_
  refine lv_bipush hx hb dX1_init_13 (v := nI 30) (by decide) ?_
  refine bz_nI hx hb hts hG.1 hP hD hS hA (n := 30) (by decide) (Nat.le_of_ble_eq_true rfl) (Nat.le_of_ble_eq_true rfl) dX1_init_15 (fun q2 H hP hD hS => ?_)
  have hP : va_P K.1 vwCl ([(h0, .inr (1, [.ref q1, .null, .null, .null, .null, .null, .null, .null])), (q1, .inl (K.2.1, 30, .inl (fun _ => 0))), (q2, .inl (K.2.1, 30, .inl (fun _ => 0)))]) H := hP
  have hD : va_D A ([(h0, .inr (1, [.ref q1, .null, .null, .null, .null, .null, .null, .null])), (q1, .inl (K.2.1, 30, .inl (fun _ => 0))), (q2, .inl (K.2.1, 30, .inl (fun _ => 0)))]) := hD
  refine va_putF (D := K.1) (ci := 1) (v := .ref q2) (ty := (.array .int)) (C := RX1) (T := TX1) (N := 8) hx hb hts wf_X1 tyX1 tyX1_ok nmX1 hown hG.1 hP hD hS 0 rfl rfl 1 (by decide) (hts (.fieldLink RX1 15 RX1 "lengths" "[I") (bz_one 148 (by decide +kernel) rfl)) (fun _ h9 => h9) rfl hin rfl (by decide +kernel) rfl rfl (Nat.le_of_ble_eq_true rfl) dX1_init_17 (fun H locs hP hD hS => ?_)
  have hP : va_P K.1 vwCl ([(h0, .inr (1, [.ref q1, .ref q2, .null, .null, .null, .null, .null, .null])), (q1, .inl (K.2.1, 30, .inl (fun _ => 0))), (q2, .inl (K.2.1, 30, .inl (fun _ => 0)))]) H := hP
  have hD : va_D A ([(h0, .inr (1, [.ref q1, .ref q2, .null, .null, .null, .null, .null, .null])), (q1, .inl (K.2.1, 30, .inl (fun _ => 0))), (q2, .inl (K.2.1, 30, .inl (fun _ => 0)))]) := hD
  refine lv_aload_n hx hb dX1_init_20 rfl (lv_at hl 0 rfl) ?_
  refine lv_bipush hx hb dX1_init_21 (v := nI 30) (by decide) ?_
  refine bz_nI hx hb hts hG.1 hP hD hS hA (n := 30) (by decide) (Nat.le_of_ble_eq_true rfl) (Nat.le_of_ble_eq_true rfl) dX1_init_23 (fun q3 H hP hD hS => ?_)
  have hP : va_P K.1 vwCl ([(h0, .inr (1, [.ref q1, .ref q2, .null, .null, .null, .null, .null, .null])), (q1, .inl (K.2.1, 30, .inl (fun _ => 0))), (q2, .inl (K.2.1, 30, .inl (fun _ => 0))), (q3, .inl (K.2.1, 30, .inl (fun _ => 0)))]) H := hP
  have hD : va_D A ([(h0, .inr (1, [.ref q1, .ref q2, .null, .null, .null, .null, .null, .null])), (q1, .inl (K.2.1, 30, .inl (fun _ => 0))), (q2, .inl (K.2.1, 30, .inl (fun _ => 0))), (q3, .inl (K.2.1, 30, .inl (fun _ => 0)))]) := hD
  refine va_putF (D := K.1) (ci := 1) (v := .ref q3) (ty := (.array .int)) (C := RX1) (T := TX1) (N := 8) hx hb hts wf_X1 tyX1 tyX1_ok nmX1 hown hG.1 hP hD hS 0 rfl rfl 2 (by decide) (hts (.fieldLink RX1 18 RX1 "marks" "[I") (bz_one 151 (by decide +kernel) rfl)) (fun _ h9 => h9) rfl hin rfl (by decide +kernel) rfl rfl (Nat.le_of_ble_eq_true rfl) dX1_init_25 (fun H locs hP hD hS => ?_)
  have hP : va_P K.1 vwCl ([(h0, .inr (1, [.ref q1, .ref q2, .ref q3, .null, .null, .null, .null, .null])), (q1, .inl (K.2.1, 30, .inl (fun _ => 0))), (q2, .inl (K.2.1, 30, .inl (fun _ => 0))), (q3, .inl (K.2.1, 30, .inl (fun _ => 0)))]) H := hP
  have hD : va_D A ([(h0, .inr (1, [.ref q1, .ref q2, .ref q3, .null, .null, .null, .null, .null])), (q1, .inl (K.2.1, 30, .inl (fun _ => 0))), (q2, .inl (K.2.1, 30, .inl (fun _ => 0))), (q3, .inl (K.2.1, 30, .inl (fun _ => 0)))]) := hD
  refine lv_aload_n hx hb dX1_init_28 rfl (lv_at hl 0 rfl) ?_
  refine lv_bipush hx hb dX1_init_29 (v := nI 30) (by decide) ?_
  refine bz_nI hx hb hts hG.1 hP hD hS hA (n := 30) (by decide) (Nat.le_of_ble_eq_true rfl) (Nat.le_of_ble_eq_true rfl) dX1_init_31 (fun q4 H hP hD hS => ?_)
  have hP : va_P K.1 vwCl ([(h0, .inr (1, [.ref q1, .ref q2, .ref q3, .null, .null, .null, .null, .null])), (q1, .inl (K.2.1, 30, .inl (fun _ => 0))), (q2, .inl (K.2.1, 30, .inl (fun _ => 0))), (q3, .inl (K.2.1, 30, .inl (fun _ => 0))), (q4, .inl (K.2.1, 30, .inl (fun _ => 0)))]) H := hP
  have hD : va_D A ([(h0, .inr (1, [.ref q1, .ref q2, .ref q3, .null, .null, .null, .null, .null])), (q1, .inl (K.2.1, 30, .inl (fun _ => 0))), (q2, .inl (K.2.1, 30, .inl (fun _ => 0))), (q3, .inl (K.2.1, 30, .inl (fun _ => 0))), (q4, .inl (K.2.1, 30, .inl (fun _ => 0)))]) := hD
  refine va_putF (D := K.1) (ci := 1) (v := .ref q4) (ty := (.array .int)) (C := RX1) (T := TX1) (N := 8) hx hb hts wf_X1 tyX1 tyX1_ok nmX1 hown hG.1 hP hD hS 0 rfl rfl 3 (by decide) (hts (.fieldLink RX1 21 RX1 "conjugates" "[I") (bz_one 152 (by decide +kernel) rfl)) (fun _ h9 => h9) rfl hin rfl (by decide +kernel) rfl rfl (Nat.le_of_ble_eq_true rfl) dX1_init_33 (fun H locs hP hD hS => ?_)
  have hP : va_P K.1 vwCl ([(h0, .inr (1, [.ref q1, .ref q2, .ref q3, .ref q4, .null, .null, .null, .null])), (q1, .inl (K.2.1, 30, .inl (fun _ => 0))), (q2, .inl (K.2.1, 30, .inl (fun _ => 0))), (q3, .inl (K.2.1, 30, .inl (fun _ => 0))), (q4, .inl (K.2.1, 30, .inl (fun _ => 0)))]) H := hP
  have hD : va_D A ([(h0, .inr (1, [.ref q1, .ref q2, .ref q3, .ref q4, .null, .null, .null, .null])), (q1, .inl (K.2.1, 30, .inl (fun _ => 0))), (q2, .inl (K.2.1, 30, .inl (fun _ => 0))), (q3, .inl (K.2.1, 30, .inl (fun _ => 0))), (q4, .inl (K.2.1, 30, .inl (fun _ => 0)))]) := hD
  refine lv_aload_n hx hb dX1_init_36 rfl (lv_at hl 0 rfl) ?_
  refine lv_bipush hx hb dX1_init_37 (v := nI 30) (by decide) ?_
  refine bz_nI hx hb hts hG.1 hP hD hS hA (n := 30) (by decide) (Nat.le_of_ble_eq_true rfl) (Nat.le_of_ble_eq_true rfl) dX1_init_39 (fun q5 H hP hD hS => ?_)
  have hP : va_P K.1 vwCl ([(h0, .inr (1, [.ref q1, .ref q2, .ref q3, .ref q4, .null, .null, .null, .null])), (q1, .inl (K.2.1, 30, .inl (fun _ => 0))), (q2, .inl (K.2.1, 30, .inl (fun _ => 0))), (q3, .inl (K.2.1, 30, .inl (fun _ => 0))), (q4, .inl (K.2.1, 30, .inl (fun _ => 0))), (q5, .inl (K.2.1, 30, .inl (fun _ => 0)))]) H := hP
  have hD : va_D A ([(h0, .inr (1, [.ref q1, .ref q2, .ref q3, .ref q4, .null, .null, .null, .null])), (q1, .inl (K.2.1, 30, .inl (fun _ => 0))), (q2, .inl (K.2.1, 30, .inl (fun _ => 0))), (q3, .inl (K.2.1, 30, .inl (fun _ => 0))), (q4, .inl (K.2.1, 30, .inl (fun _ => 0))), (q5, .inl (K.2.1, 30, .inl (fun _ => 0)))]) := hD
  refine va_putF (D := K.1) (ci := 1) (v := .ref q5) (ty := (.array .int)) (C := RX1) (T := TX1) (N := 8) hx hb hts wf_X1 tyX1 tyX1_ok nmX1 hown hG.1 hP hD hS 0 rfl rfl 4 (by decide) (hts (.fieldLink RX1 24 RX1 "zs" "[I") (bz_one 155 (by decide +kernel) rfl)) (fun _ h9 => h9) rfl hin rfl (by decide +kernel) rfl rfl (Nat.le_of_ble_eq_true rfl) dX1_init_41 (fun H locs hP hD hS => ?_)
  have hP : va_P K.1 vwCl ([(h0, .inr (1, [.ref q1, .ref q2, .ref q3, .ref q4, .ref q5, .null, .null, .null])), (q1, .inl (K.2.1, 30, .inl (fun _ => 0))), (q2, .inl (K.2.1, 30, .inl (fun _ => 0))), (q3, .inl (K.2.1, 30, .inl (fun _ => 0))), (q4, .inl (K.2.1, 30, .inl (fun _ => 0))), (q5, .inl (K.2.1, 30, .inl (fun _ => 0)))]) H := hP
  have hD : va_D A ([(h0, .inr (1, [.ref q1, .ref q2, .ref q3, .ref q4, .ref q5, .null, .null, .null])), (q1, .inl (K.2.1, 30, .inl (fun _ => 0))), (q2, .inl (K.2.1, 30, .inl (fun _ => 0))), (q3, .inl (K.2.1, 30, .inl (fun _ => 0))), (q4, .inl (K.2.1, 30, .inl (fun _ => 0))), (q5, .inl (K.2.1, 30, .inl (fun _ => 0)))]) := hD
  refine lv_aload_n hx hb dX1_init_44 rfl (lv_at hl 0 rfl) ?_
  refine lv_sipush hx hb dX1_init_45 (v := nI 900) (by decide) ?_
  refine bz_nI hx hb hts hG.1 hP hD hS hA (n := 900) (by decide) (Nat.le_of_ble_eq_true rfl) (Nat.le_of_ble_eq_true rfl) dX1_init_48 (fun q6 H hP hD hS => ?_)
  have hP : va_P K.1 vwCl ([(h0, .inr (1, [.ref q1, .ref q2, .ref q3, .ref q4, .ref q5, .null, .null, .null])), (q1, .inl (K.2.1, 30, .inl (fun _ => 0))), (q2, .inl (K.2.1, 30, .inl (fun _ => 0))), (q3, .inl (K.2.1, 30, .inl (fun _ => 0))), (q4, .inl (K.2.1, 30, .inl (fun _ => 0))), (q5, .inl (K.2.1, 30, .inl (fun _ => 0))), (q6, .inl (K.2.1, 900, .inl (fun _ => 0)))]) H := hP
  have hD : va_D A ([(h0, .inr (1, [.ref q1, .ref q2, .ref q3, .ref q4, .ref q5, .null, .null, .null])), (q1, .inl (K.2.1, 30, .inl (fun _ => 0))), (q2, .inl (K.2.1, 30, .inl (fun _ => 0))), (q3, .inl (K.2.1, 30, .inl (fun _ => 0))), (q4, .inl (K.2.1, 30, .inl (fun _ => 0))), (q5, .inl (K.2.1, 30, .inl (fun _ => 0))), (q6, .inl (K.2.1, 900, .inl (fun _ => 0)))]) := hD
  refine va_putF (D := K.1) (ci := 1) (v := .ref q6) (ty := (.array .int)) (C := RX1) (T := TX1) (N := 8) hx hb hts wf_X1 tyX1 tyX1_ok nmX1 hown hG.1 hP hD hS 0 rfl rfl 5 (by decide) (hts (.fieldLink RX1 27 RX1 "joins" "[I") (bz_one 159 (by decide +kernel) rfl)) (fun _ h9 => h9) rfl hin rfl (by decide +kernel) rfl rfl (Nat.le_of_ble_eq_true rfl) dX1_init_50 (fun H locs hP hD hS => ?_)
  have hP : va_P K.1 vwCl ([(h0, .inr (1, [.ref q1, .ref q2, .ref q3, .ref q4, .ref q5, .ref q6, .null, .null])), (q1, .inl (K.2.1, 30, .inl (fun _ => 0))), (q2, .inl (K.2.1, 30, .inl (fun _ => 0))), (q3, .inl (K.2.1, 30, .inl (fun _ => 0))), (q4, .inl (K.2.1, 30, .inl (fun _ => 0))), (q5, .inl (K.2.1, 30, .inl (fun _ => 0))), (q6, .inl (K.2.1, 900, .inl (fun _ => 0)))]) H := hP
  have hD : va_D A ([(h0, .inr (1, [.ref q1, .ref q2, .ref q3, .ref q4, .ref q5, .ref q6, .null, .null])), (q1, .inl (K.2.1, 30, .inl (fun _ => 0))), (q2, .inl (K.2.1, 30, .inl (fun _ => 0))), (q3, .inl (K.2.1, 30, .inl (fun _ => 0))), (q4, .inl (K.2.1, 30, .inl (fun _ => 0))), (q5, .inl (K.2.1, 30, .inl (fun _ => 0))), (q6, .inl (K.2.1, 900, .inl (fun _ => 0)))]) := hD
  refine lv_aload_n hx hb dX1_init_53 rfl (lv_at hl 0 rfl) ?_
  refine lv_sipush hx hb dX1_init_54 (v := nI 900) (by decide) ?_
  refine bz_nI hx hb hts hG.1 hP hD hS hA (n := 900) (by decide) (Nat.le_of_ble_eq_true rfl) (Nat.le_of_ble_eq_true rfl) dX1_init_57 (fun q7 H hP hD hS => ?_)
  have hP : va_P K.1 vwCl ([(h0, .inr (1, [.ref q1, .ref q2, .ref q3, .ref q4, .ref q5, .ref q6, .null, .null])), (q1, .inl (K.2.1, 30, .inl (fun _ => 0))), (q2, .inl (K.2.1, 30, .inl (fun _ => 0))), (q3, .inl (K.2.1, 30, .inl (fun _ => 0))), (q4, .inl (K.2.1, 30, .inl (fun _ => 0))), (q5, .inl (K.2.1, 30, .inl (fun _ => 0))), (q6, .inl (K.2.1, 900, .inl (fun _ => 0))), (q7, .inl (K.2.1, 900, .inl (fun _ => 0)))]) H := hP
  have hD : va_D A ([(h0, .inr (1, [.ref q1, .ref q2, .ref q3, .ref q4, .ref q5, .ref q6, .null, .null])), (q1, .inl (K.2.1, 30, .inl (fun _ => 0))), (q2, .inl (K.2.1, 30, .inl (fun _ => 0))), (q3, .inl (K.2.1, 30, .inl (fun _ => 0))), (q4, .inl (K.2.1, 30, .inl (fun _ => 0))), (q5, .inl (K.2.1, 30, .inl (fun _ => 0))), (q6, .inl (K.2.1, 900, .inl (fun _ => 0))), (q7, .inl (K.2.1, 900, .inl (fun _ => 0)))]) := hD
  refine va_putF (D := K.1) (ci := 1) (v := .ref q7) (ty := (.array .int)) (C := RX1) (T := TX1) (N := 8) hx hb hts wf_X1 tyX1 tyX1_ok nmX1 hown hG.1 hP hD hS 0 rfl rfl 6 (by decide) (hts (.fieldLink RX1 30 RX1 "kostkas" "[I") (bz_one 160 (by decide +kernel) rfl)) (fun _ h9 => h9) rfl hin rfl (by decide +kernel) rfl rfl (Nat.le_of_ble_eq_true rfl) dX1_init_59 (fun H locs hP hD hS => ?_)
  have hP : va_P K.1 vwCl ([(h0, .inr (1, [.ref q1, .ref q2, .ref q3, .ref q4, .ref q5, .ref q6, .ref q7, .null])), (q1, .inl (K.2.1, 30, .inl (fun _ => 0))), (q2, .inl (K.2.1, 30, .inl (fun _ => 0))), (q3, .inl (K.2.1, 30, .inl (fun _ => 0))), (q4, .inl (K.2.1, 30, .inl (fun _ => 0))), (q5, .inl (K.2.1, 30, .inl (fun _ => 0))), (q6, .inl (K.2.1, 900, .inl (fun _ => 0))), (q7, .inl (K.2.1, 900, .inl (fun _ => 0)))]) H := hP
  have hD : va_D A ([(h0, .inr (1, [.ref q1, .ref q2, .ref q3, .ref q4, .ref q5, .ref q6, .ref q7, .null])), (q1, .inl (K.2.1, 30, .inl (fun _ => 0))), (q2, .inl (K.2.1, 30, .inl (fun _ => 0))), (q3, .inl (K.2.1, 30, .inl (fun _ => 0))), (q4, .inl (K.2.1, 30, .inl (fun _ => 0))), (q5, .inl (K.2.1, 30, .inl (fun _ => 0))), (q6, .inl (K.2.1, 900, .inl (fun _ => 0))), (q7, .inl (K.2.1, 900, .inl (fun _ => 0)))]) := hD
  refine lv_aload_n hx hb dX1_init_62 rfl (lv_at hl 0 rfl) ?_
  refine lv_sipush hx hb dX1_init_63 (v := nI 900) (by decide) ?_
  refine bz_nI hx hb hts hG.1 hP hD hS hA (n := 900) (by decide) (Nat.le_of_ble_eq_true rfl) (Nat.le_of_ble_eq_true rfl) dX1_init_66 (fun q8 H hP hD hS => ?_)
  have hP : va_P K.1 vwCl ([(h0, .inr (1, [.ref q1, .ref q2, .ref q3, .ref q4, .ref q5, .ref q6, .ref q7, .null])), (q1, .inl (K.2.1, 30, .inl (fun _ => 0))), (q2, .inl (K.2.1, 30, .inl (fun _ => 0))), (q3, .inl (K.2.1, 30, .inl (fun _ => 0))), (q4, .inl (K.2.1, 30, .inl (fun _ => 0))), (q5, .inl (K.2.1, 30, .inl (fun _ => 0))), (q6, .inl (K.2.1, 900, .inl (fun _ => 0))), (q7, .inl (K.2.1, 900, .inl (fun _ => 0))), (q8, .inl (K.2.1, 900, .inl (fun _ => 0)))]) H := hP
  have hD : va_D A ([(h0, .inr (1, [.ref q1, .ref q2, .ref q3, .ref q4, .ref q5, .ref q6, .ref q7, .null])), (q1, .inl (K.2.1, 30, .inl (fun _ => 0))), (q2, .inl (K.2.1, 30, .inl (fun _ => 0))), (q3, .inl (K.2.1, 30, .inl (fun _ => 0))), (q4, .inl (K.2.1, 30, .inl (fun _ => 0))), (q5, .inl (K.2.1, 30, .inl (fun _ => 0))), (q6, .inl (K.2.1, 900, .inl (fun _ => 0))), (q7, .inl (K.2.1, 900, .inl (fun _ => 0))), (q8, .inl (K.2.1, 900, .inl (fun _ => 0)))]) := hD
  refine va_putF (D := K.1) (ci := 1) (v := .ref q8) (ty := (.array .int)) (C := RX1) (T := TX1) (N := 8) hx hb hts wf_X1 tyX1 tyX1_ok nmX1 hown hG.1 hP hD hS 0 rfl rfl 7 (by decide) (hts (.fieldLink RX1 33 RX1 "characters" "[I") (bz_one 161 (by decide +kernel) rfl)) (fun _ h9 => h9) rfl hin rfl (by decide +kernel) rfl rfl (Nat.le_of_ble_eq_true rfl) dX1_init_68 (fun H locs hP hD hS => ?_)
  have hP : va_P K.1 vwCl ([(h0, .inr (1, [.ref q1, .ref q2, .ref q3, .ref q4, .ref q5, .ref q6, .ref q7, .ref q8])), (q1, .inl (K.2.1, 30, .inl (fun _ => 0))), (q2, .inl (K.2.1, 30, .inl (fun _ => 0))), (q3, .inl (K.2.1, 30, .inl (fun _ => 0))), (q4, .inl (K.2.1, 30, .inl (fun _ => 0))), (q5, .inl (K.2.1, 30, .inl (fun _ => 0))), (q6, .inl (K.2.1, 900, .inl (fun _ => 0))), (q7, .inl (K.2.1, 900, .inl (fun _ => 0))), (q8, .inl (K.2.1, 900, .inl (fun _ => 0)))]) H := hP
  have hD : va_D A ([(h0, .inr (1, [.ref q1, .ref q2, .ref q3, .ref q4, .ref q5, .ref q6, .ref q7, .ref q8])), (q1, .inl (K.2.1, 30, .inl (fun _ => 0))), (q2, .inl (K.2.1, 30, .inl (fun _ => 0))), (q3, .inl (K.2.1, 30, .inl (fun _ => 0))), (q4, .inl (K.2.1, 30, .inl (fun _ => 0))), (q5, .inl (K.2.1, 30, .inl (fun _ => 0))), (q6, .inl (K.2.1, 900, .inl (fun _ => 0))), (q7, .inl (K.2.1, 900, .inl (fun _ => 0))), (q8, .inl (K.2.1, 900, .inl (fun _ => 0)))]) := hD
  refine W.widen (k := 8) (n := 2850) (by omega) (by omega) ?_
  let ad : Nat → Nat := fun k => [h0, q1, q2, q3, q4, q5, q6, q7, q8].getD k 0
  let σ0 : bz_S := (fun _ _ => 0, fun _ _ => 0, 0)
  have hP : va_P K.1 vwCl (bz_ws ad K σ0 9) H := hP
  have hD : va_D A (bz_ws ad K σ0 9) := hD
  obtain ⟨σ2, ⟨g1, g2, g3, g4⟩, hV⟩ := t_in_all (l := l) (ad := ad) (K := K) (n := 9) (σ := σ0) (Nat.le_refl 9) (fun _ _ => rfl) (fun _ _ => rfl) (fun _ _ => rfl) (fun _ _ => rfl) (fun _ _ => rfl)
  refine hV p e (bz_rmc 4 8 2850) s m _ below meth c A _ 8 2850 ⟨hx, hb, hr, hml, hown, hts, bz_G0_G hG hD⟩ ⟨Nat.le_refl _, Nat.le_refl _, Nat.le_refl _, Nat.le_refl _⟩ ?_ H locs ls hP hS ⟨hl.1, hl.2.1, fun i v h => ?_⟩
  · intro pc' H' locs' LS' hret hP' hS' hsz
    exact W.vret hx hb (hr.trans hret.2) (fun t ht hW => ⟨rfl, ⟨_, ⟨ad, σ2, rfl, g3, rfl⟩, by rw [ht]; exact hP', bz_D (bz_G0_G hG hD)⟩, hS'.F ht⟩) hS'.2.2 hret.1
  · match i, h with
    | 0, h => cases h; exact lv_at hl 0 rfl
    | 1, h => cases h
    | 2, h => cases h
    | i + 3, h => simp at h
set_option maxRecDepth 100000 in
set_option maxHeartbeats 4000000 in
theorem k_X0 (l : Launch) (K : bz_K) (pp : Nat) (h0 sz : Nat) : Met l mX0_init.1 (bz_w mX0_init) (bz_rmc 1 2 60) (va_Pc [.ref h0, .ref pp] (bz_Bc K ([(h0, .inr (0, [.null, .null, .null]))]) sz)) (bz_Qc K (va_A ([(h0, .inr (0, [.null, .null, .null]))]) sz) (fun w1 => ∃ q1 q2 : Nat, w1 = [(h0, .inr (0, [.ref pp, .ref q1, .ref q2])), (q1, .inl (K.2.2.1, 30, .inr (.inl (fun _ => 0)))), (q2, .inl (K.2.2.1, 30, .inr (.inl (fun _ => 0))))])) 2 60 (va_A ([(h0, .inr (0, [.null, .null, .null]))]) sz) := by
  refine Met.ofW (cc := cX0_init) (maxL := 2) (ret := none) (by decide +kernel) rfl ?_
  intro p e s m args below meth c s₁ B hml hv
  obtain ⟨rfl, hsz, hP, hD0, hG⟩ := hv
  have hx := B.exec
  have hb := B.bytes
  have hr := B.returns
  have hts0 := atoms_spec (ws := bz_w mX0_init) B.pre
  have hts : ∀ w ∈ bz_tbl, w.before _ s = true := fun w hw => hts0 w (List.mem_cons_of_mem _ hw)
  have hown : s.vm.findClass RX0 = some m.cls := findClass_of_methodNamed B.named
  have hlocks := B.notSynchronized
  have hin : meth.name = "<init>" := (name_of_methodNamed B.named B.method).1
  subst hsz
  have hD := hD0.self (sz := s.heap.size)
  generalize hAe : va_A ([(h0, .inr (0, [.null, .null, .null]))]) s.heap.size = A at hD hG ⊢
  have hA : ∀ q : Nat, s.heap.size ≤ q → A q := fun q h => by rw [← hAe]; exact Or.inr h
  have hS : va_S A s.heap s.heap [] := va_S.rf
  have hl := lv_entry ([.ref h0, .ref pp]) (n := 2) (Nat.le_of_ble_eq_true rfl)
  rw [lg_entry_eq]
  generalize (lg_sl ([.ref h0, .ref pp]) ++ List.replicate (2 - (lg_sl ([.ref h0, .ref pp])).length) Slot.unset).toArray = ls at hl ⊢
  have hl : lv_has ls 2 [(0, .ref h0), (1, .ref pp)] := hl
  refine lv_aload_n hx hb dX0_init_0 rfl (lv_at hl 0 rfl) ?_
  refine W.objInit hx hb hown (hts _ ko_X0) (hts _ ko_inst) (hts _ ko_code) rfl (by rw [hml]; exact hl.1) rfl dX0_init_1 (Nat.le_of_ble_eq_true rfl) (Nat.le_of_ble_eq_true rfl) ?_
  refine lv_aload_n hx hb dX0_init_4 rfl (lv_at hl 0 rfl) ?_
  refine lv_bipush hx hb dX0_init_5 (v := nI 30) (by decide) ?_
  refine bz_nJ hx hb hts hG.1 hP hD hS hA (n := 30) (by decide) (Nat.le_of_ble_eq_true rfl) (Nat.le_of_ble_eq_true rfl) dX0_init_7 (fun q1 H hP hD hS => ?_)
  have hP : va_P K.1 vwCl ([(h0, .inr (0, [.null, .null, .null])), (q1, .inl (K.2.2.1, 30, .inr (.inl (fun _ => 0))))]) H := hP
  have hD : va_D A ([(h0, .inr (0, [.null, .null, .null])), (q1, .inl (K.2.2.1, 30, .inr (.inl (fun _ => 0))))]) := hD
  refine va_putF (D := K.1) (ci := 0) (v := .ref q1) (ty := (.array .long)) (C := RX0) (T := TX0) (N := 3) hx hb hts wf_X0 tyX0 tyX0_ok nmX0 hown hG.1 hP hD hS 0 rfl rfl 1 (by decide) (hts (.fieldLink RX0 9 RX0 "tableaux" "[J") (bz_one 187 (by decide +kernel) rfl)) (fun _ h9 => h9) rfl hin rfl (by decide +kernel) rfl rfl (Nat.le_of_ble_eq_true rfl) dX0_init_9 (fun H locs hP hD hS => ?_)
  have hP : va_P K.1 vwCl ([(h0, .inr (0, [.null, .ref q1, .null])), (q1, .inl (K.2.2.1, 30, .inr (.inl (fun _ => 0))))]) H := hP
  have hD : va_D A ([(h0, .inr (0, [.null, .ref q1, .null])), (q1, .inl (K.2.2.1, 30, .inr (.inl (fun _ => 0))))]) := hD
  refine lv_aload_n hx hb dX0_init_12 rfl (lv_at hl 0 rfl) ?_
  refine lv_bipush hx hb dX0_init_13 (v := nI 30) (by decide) ?_
  refine bz_nJ hx hb hts hG.1 hP hD hS hA (n := 30) (by decide) (Nat.le_of_ble_eq_true rfl) (Nat.le_of_ble_eq_true rfl) dX0_init_15 (fun q2 H hP hD hS => ?_)
  have hP : va_P K.1 vwCl ([(h0, .inr (0, [.null, .ref q1, .null])), (q1, .inl (K.2.2.1, 30, .inr (.inl (fun _ => 0)))), (q2, .inl (K.2.2.1, 30, .inr (.inl (fun _ => 0))))]) H := hP
  have hD : va_D A ([(h0, .inr (0, [.null, .ref q1, .null])), (q1, .inl (K.2.2.1, 30, .inr (.inl (fun _ => 0)))), (q2, .inl (K.2.2.1, 30, .inr (.inl (fun _ => 0))))]) := hD
  refine va_putF (D := K.1) (ci := 0) (v := .ref q2) (ty := (.array .long)) (C := RX0) (T := TX0) (N := 3) hx hb hts wf_X0 tyX0 tyX0_ok nmX0 hown hG.1 hP hD hS 0 rfl rfl 2 (by decide) (hts (.fieldLink RX0 15 RX0 "turned" "[J") (bz_one 188 (by decide +kernel) rfl)) (fun _ h9 => h9) rfl hin rfl (by decide +kernel) rfl rfl (Nat.le_of_ble_eq_true rfl) dX0_init_17 (fun H locs hP hD hS => ?_)
  have hP : va_P K.1 vwCl ([(h0, .inr (0, [.null, .ref q1, .ref q2])), (q1, .inl (K.2.2.1, 30, .inr (.inl (fun _ => 0)))), (q2, .inl (K.2.2.1, 30, .inr (.inl (fun _ => 0))))]) H := hP
  have hD : va_D A ([(h0, .inr (0, [.null, .ref q1, .ref q2])), (q1, .inl (K.2.2.1, 30, .inr (.inl (fun _ => 0)))), (q2, .inl (K.2.2.1, 30, .inr (.inl (fun _ => 0))))]) := hD
  refine lv_aload_n hx hb dX0_init_20 rfl (lv_at hl 0 rfl) ?_
  refine lv_aload_n hx hb dX0_init_21 rfl (lv_at hl 1 rfl) ?_
  refine va_putF (D := K.1) (ci := 0) (v := .ref pp) (ty := (.object "BasisMoves$Partitions")) (C := RX0) (T := TX0) (N := 3) hx hb hts wf_X0 tyX0 tyX0_ok nmX0 hown hG.1 hP hD hS 0 rfl rfl 0 (by decide) (hts (.fieldLink RX0 18 RX0 "partitions" "LBasisMoves$Partitions;") (bz_one 186 (by decide +kernel) rfl)) (fun _ h9 => h9) rfl hin rfl (by decide +kernel) rfl rfl (Nat.le_of_ble_eq_true rfl) dX0_init_22 (fun H locs hP hD hS => ?_)
  have hP : va_P K.1 vwCl ([(h0, .inr (0, [.ref pp, .ref q1, .ref q2])), (q1, .inl (K.2.2.1, 30, .inr (.inl (fun _ => 0)))), (q2, .inl (K.2.2.1, 30, .inr (.inl (fun _ => 0))))]) H := hP
  have hD : va_D A ([(h0, .inr (0, [.ref pp, .ref q1, .ref q2])), (q1, .inl (K.2.2.1, 30, .inr (.inl (fun _ => 0)))), (q2, .inl (K.2.2.1, 30, .inr (.inl (fun _ => 0))))]) := hD
  refine W.widen (k := 2) (n := 60) (by omega) (by omega) ?_
  exact W.vret hx hb hr (fun t ht hW => ⟨rfl, ⟨_, ⟨q1, q2, rfl⟩, by rw [ht]; exact hP, hD⟩, hS.F ht⟩) hS.2.2 dX0_init_25
set_option maxRecDepth 100000 in
set_option maxHeartbeats 4000000 in
theorem k_X2 (l : Launch) (K : bz_K) (pp : Nat) (h0 sz : Nat) : Met l mX2_init.1 (bz_w mX2_init) (bz_rmc 1 10 277) (va_Pc [.ref h0, .ref pp] (bz_Bc K ([(h0, .inr (2, [.null, .null, .null, .null]))]) sz)) (bz_Qc K (va_A ([(h0, .inr (2, [.null, .null, .null, .null]))]) sz) (fun w1 => ∃ (q : Nat) (r : Nat → Nat) (a b : Nat), w1 = ((h0, .inr (2, [.ref pp, .ref q, .ref a, .ref b])) :: (((q, .inl (K.2.2.2.2.1, 7, .inr (.inr (.inr (.inr (fun i => if i < 7 then some (r i) else none)))))) :: (List.range 7).map (fun i => (r i, .inl (K.2.2.1, 30, .inr (.inl (fun _ => 0)))))) ++ [(a, .inl (K.2.2.1, 30, .inr (.inl (fun _ => 0)))), (b, .inl (K.2.2.1, 30, .inr (.inl (fun _ => 0))))])))) 10 277 (va_A ([(h0, .inr (2, [.null, .null, .null, .null]))]) sz) := by
  refine Met.ofW (cc := cX2_init) (maxL := 2) (ret := none) (by decide +kernel) rfl ?_
  intro p e s m args below meth c s₁ B hml hv
  obtain ⟨rfl, hsz, hP, hD0, hG⟩ := hv
  have hx := B.exec
  have hb := B.bytes
  have hr := B.returns
  have hts0 := atoms_spec (ws := bz_w mX2_init) B.pre
  have hts : ∀ w ∈ bz_tbl, w.before _ s = true := fun w hw => hts0 w (List.mem_cons_of_mem _ hw)
  have hown : s.vm.findClass RX2 = some m.cls := findClass_of_methodNamed B.named
  have hlocks := B.notSynchronized
  have hin : meth.name = "<init>" := (name_of_methodNamed B.named B.method).1
  subst hsz
  have hD := hD0.self (sz := s.heap.size)
  generalize hAe : va_A ([(h0, .inr (2, [.null, .null, .null, .null]))]) s.heap.size = A at hD hG ⊢
  have hA : ∀ q : Nat, s.heap.size ≤ q → A q := fun q h => by rw [← hAe]; exact Or.inr h
  have hS : va_S A s.heap s.heap [] := va_S.rf
  have hl := lv_entry ([.ref h0, .ref pp]) (n := 2) (Nat.le_of_ble_eq_true rfl)
  rw [lg_entry_eq]
  generalize (lg_sl ([.ref h0, .ref pp]) ++ List.replicate (2 - (lg_sl ([.ref h0, .ref pp])).length) Slot.unset).toArray = ls at hl ⊢
  have hl : lv_has ls 2 [(0, .ref h0), (1, .ref pp)] := hl
  refine lv_aload_n hx hb dX2_init_0 rfl (lv_at hl 0 rfl) ?_
  refine W.objInit hx hb hown (hts _ ko_X2) (hts _ ko_inst) (hts _ ko_code) rfl (by rw [hml]; exact hl.1) rfl dX2_init_1 (Nat.le_of_ble_eq_true rfl) (Nat.le_of_ble_eq_true rfl) ?_
  refine lv_aload_n hx hb dX2_init_4 rfl (lv_at hl 0 rfl) ?_
  refine lv_bipush hx hb dX2_init_5 (v := nI 7) (by decide) ?_
  refine lv_bipush hx hb dX2_init_7 (v := nI 30) (by decide) ?_
  refine bz_nJJ hx hb hown hts kl_X2_9c hG.2.2.1 hG.1 hP hD hS hA (n := 7) (by decide) (Nat.le_of_ble_eq_true rfl) (Nat.le_of_ble_eq_true rfl) dX2_init_9 (fun q0 r H hP hD hS => ?_)
  have hP : va_P K.1 vwCl ((h0, .inr (2, [.null, .null, .null, .null])) :: ((q0, .inl (K.2.2.2.2.1, 7, .inr (.inr (.inr (.inr (fun i => if i < 7 then some (r i) else none)))))) :: (List.range 7).map (fun i => (r i, .inl (K.2.2.1, 30, .inr (.inl (fun _ => 0))))))) H := hP
  have hD : va_D A ((h0, .inr (2, [.null, .null, .null, .null])) :: ((q0, .inl (K.2.2.2.2.1, 7, .inr (.inr (.inr (.inr (fun i => if i < 7 then some (r i) else none)))))) :: (List.range 7).map (fun i => (r i, .inl (K.2.2.1, 30, .inr (.inl (fun _ => 0))))))) := hD
  refine va_putF (D := K.1) (ci := 2) (v := .ref q0) (ty := (.array (.array .long))) (C := RX2) (T := TX2) (N := 4) hx hb hts wf_X2 tyX2 tyX2_ok nmX2 hown hG.1 hP hD hS 0 rfl rfl 1 (by decide) (hts (.fieldLink RX2 11 RX2 "stretched" "[[J") (bz_one 206 (by decide +kernel) rfl)) (fun _ h9 => h9) rfl hin rfl (by decide +kernel) rfl rfl (Nat.le_of_ble_eq_true rfl) dX2_init_13 (fun H locs hP hD hS => ?_)
  have hP : va_P K.1 vwCl ((h0, .inr (2, [.null, .ref q0, .null, .null])) :: ((q0, .inl (K.2.2.2.2.1, 7, .inr (.inr (.inr (.inr (fun i => if i < 7 then some (r i) else none)))))) :: (List.range 7).map (fun i => (r i, .inl (K.2.2.1, 30, .inr (.inl (fun _ => 0))))))) H := hP
  have hD : va_D A ((h0, .inr (2, [.null, .ref q0, .null, .null])) :: ((q0, .inl (K.2.2.2.2.1, 7, .inr (.inr (.inr (.inr (fun i => if i < 7 then some (r i) else none)))))) :: (List.range 7).map (fun i => (r i, .inl (K.2.2.1, 30, .inr (.inl (fun _ => 0))))))) := hD
  refine lv_aload_n hx hb dX2_init_16 rfl (lv_at hl 0 rfl) ?_
  refine lv_bipush hx hb dX2_init_17 (v := nI 30) (by decide) ?_
  refine bz_nJ hx hb hts hG.1 hP hD hS hA (n := 30) (by decide) (Nat.le_of_ble_eq_true rfl) (Nat.le_of_ble_eq_true rfl) dX2_init_19 (fun q1 H hP hD hS => ?_)
  have hP : va_P K.1 vwCl ((h0, .inr (2, [.null, .ref q0, .null, .null])) :: (((q0, .inl (K.2.2.2.2.1, 7, .inr (.inr (.inr (.inr (fun i => if i < 7 then some (r i) else none)))))) :: (List.range 7).map (fun i => (r i, .inl (K.2.2.1, 30, .inr (.inl (fun _ => 0)))))) ++ [(q1, .inl (K.2.2.1, 30, .inr (.inl (fun _ => 0))))])) H := hP
  have hD : va_D A ((h0, .inr (2, [.null, .ref q0, .null, .null])) :: (((q0, .inl (K.2.2.2.2.1, 7, .inr (.inr (.inr (.inr (fun i => if i < 7 then some (r i) else none)))))) :: (List.range 7).map (fun i => (r i, .inl (K.2.2.1, 30, .inr (.inl (fun _ => 0)))))) ++ [(q1, .inl (K.2.2.1, 30, .inr (.inl (fun _ => 0))))])) := hD
  refine va_putF (D := K.1) (ci := 2) (v := .ref q1) (ty := (.array .long)) (C := RX2) (T := TX2) (N := 4) hx hb hts wf_X2 tyX2 tyX2_ok nmX2 hown hG.1 hP hD hS 0 rfl rfl 2 (by decide) (hts (.fieldLink RX2 16 RX2 "product" "[J") (bz_one 207 (by decide +kernel) rfl)) (fun _ h9 => h9) rfl hin rfl (by decide +kernel) rfl rfl (Nat.le_of_ble_eq_true rfl) dX2_init_21 (fun H locs hP hD hS => ?_)
  have hP : va_P K.1 vwCl ((h0, .inr (2, [.null, .ref q0, .ref q1, .null])) :: (((q0, .inl (K.2.2.2.2.1, 7, .inr (.inr (.inr (.inr (fun i => if i < 7 then some (r i) else none)))))) :: (List.range 7).map (fun i => (r i, .inl (K.2.2.1, 30, .inr (.inl (fun _ => 0)))))) ++ [(q1, .inl (K.2.2.1, 30, .inr (.inl (fun _ => 0))))])) H := hP
  have hD : va_D A ((h0, .inr (2, [.null, .ref q0, .ref q1, .null])) :: (((q0, .inl (K.2.2.2.2.1, 7, .inr (.inr (.inr (.inr (fun i => if i < 7 then some (r i) else none)))))) :: (List.range 7).map (fun i => (r i, .inl (K.2.2.1, 30, .inr (.inl (fun _ => 0)))))) ++ [(q1, .inl (K.2.2.1, 30, .inr (.inl (fun _ => 0))))])) := hD
  refine lv_aload_n hx hb dX2_init_24 rfl (lv_at hl 0 rfl) ?_
  refine lv_bipush hx hb dX2_init_25 (v := nI 30) (by decide) ?_
  refine bz_nJ hx hb hts hG.1 hP hD hS hA (n := 30) (by decide) (Nat.le_of_ble_eq_true rfl) (Nat.le_of_ble_eq_true rfl) dX2_init_27 (fun q2 H hP hD hS => ?_)
  rw [show ((h0, .inr (2, [.null, .ref q0, .ref q1, .null])) :: (((q0, .inl (K.2.2.2.2.1, 7, .inr (.inr (.inr (.inr (fun i => if i < 7 then some (r i) else none)))))) :: (List.range 7).map (fun i => (r i, .inl (K.2.2.1, 30, .inr (.inl (fun _ => 0)))))) ++ [(q1, .inl (K.2.2.1, 30, .inr (.inl (fun _ => 0))))]) : va_W) ++ [(q2, .inl (K.2.2.1, 30, .inr (.inl (fun _ => 0))))] = (h0, .inr (2, [.null, .ref q0, .ref q1, .null])) :: (((q0, .inl (K.2.2.2.2.1, 7, .inr (.inr (.inr (.inr (fun i => if i < 7 then some (r i) else none)))))) :: (List.range 7).map (fun i => (r i, .inl (K.2.2.1, 30, .inr (.inl (fun _ => 0)))))) ++ [(q1, .inl (K.2.2.1, 30, .inr (.inl (fun _ => 0)))), (q2, .inl (K.2.2.1, 30, .inr (.inl (fun _ => 0))))]) by simp only [List.cons_append, List.append_assoc, List.nil_append]] at hP hD
  refine va_putF (D := K.1) (ci := 2) (v := .ref q2) (ty := (.array .long)) (C := RX2) (T := TX2) (N := 4) hx hb hts wf_X2 tyX2 tyX2_ok nmX2 hown hG.1 hP hD hS 0 rfl rfl 3 (by decide) (hts (.fieldLink RX2 20 RX2 "longer" "[J") (bz_one 208 (by decide +kernel) rfl)) (fun _ h9 => h9) rfl hin rfl (by decide +kernel) rfl rfl (Nat.le_of_ble_eq_true rfl) dX2_init_29 (fun H locs hP hD hS => ?_)
  have hP : va_P K.1 vwCl ((h0, .inr (2, [.null, .ref q0, .ref q1, .ref q2])) :: (((q0, .inl (K.2.2.2.2.1, 7, .inr (.inr (.inr (.inr (fun i => if i < 7 then some (r i) else none)))))) :: (List.range 7).map (fun i => (r i, .inl (K.2.2.1, 30, .inr (.inl (fun _ => 0)))))) ++ [(q1, .inl (K.2.2.1, 30, .inr (.inl (fun _ => 0)))), (q2, .inl (K.2.2.1, 30, .inr (.inl (fun _ => 0))))])) H := hP
  have hD : va_D A ((h0, .inr (2, [.null, .ref q0, .ref q1, .ref q2])) :: (((q0, .inl (K.2.2.2.2.1, 7, .inr (.inr (.inr (.inr (fun i => if i < 7 then some (r i) else none)))))) :: (List.range 7).map (fun i => (r i, .inl (K.2.2.1, 30, .inr (.inl (fun _ => 0)))))) ++ [(q1, .inl (K.2.2.1, 30, .inr (.inl (fun _ => 0)))), (q2, .inl (K.2.2.1, 30, .inr (.inl (fun _ => 0))))])) := hD
  refine lv_aload_n hx hb dX2_init_32 rfl (lv_at hl 0 rfl) ?_
  refine lv_aload_n hx hb dX2_init_33 rfl (lv_at hl 1 rfl) ?_
  refine va_putF (D := K.1) (ci := 2) (v := .ref pp) (ty := (.object "BasisMoves$Partitions")) (C := RX2) (T := TX2) (N := 4) hx hb hts wf_X2 tyX2 tyX2_ok nmX2 hown hG.1 hP hD hS 0 rfl rfl 0 (by decide) (hts (.fieldLink RX2 23 RX2 "partitions" "LBasisMoves$Partitions;") (bz_one 205 (by decide +kernel) rfl)) (fun _ h9 => h9) rfl hin rfl (by decide +kernel) rfl rfl (Nat.le_of_ble_eq_true rfl) dX2_init_34 (fun H locs hP hD hS => ?_)
  have hP : va_P K.1 vwCl ((h0, .inr (2, [.ref pp, .ref q0, .ref q1, .ref q2])) :: (((q0, .inl (K.2.2.2.2.1, 7, .inr (.inr (.inr (.inr (fun i => if i < 7 then some (r i) else none)))))) :: (List.range 7).map (fun i => (r i, .inl (K.2.2.1, 30, .inr (.inl (fun _ => 0)))))) ++ [(q1, .inl (K.2.2.1, 30, .inr (.inl (fun _ => 0)))), (q2, .inl (K.2.2.1, 30, .inr (.inl (fun _ => 0))))])) H := hP
  have hD : va_D A ((h0, .inr (2, [.ref pp, .ref q0, .ref q1, .ref q2])) :: (((q0, .inl (K.2.2.2.2.1, 7, .inr (.inr (.inr (.inr (fun i => if i < 7 then some (r i) else none)))))) :: (List.range 7).map (fun i => (r i, .inl (K.2.2.1, 30, .inr (.inl (fun _ => 0)))))) ++ [(q1, .inl (K.2.2.1, 30, .inr (.inl (fun _ => 0)))), (q2, .inl (K.2.2.1, 30, .inr (.inl (fun _ => 0))))])) := hD
  refine W.widen (k := 10) (n := 277) (by omega) (by omega) ?_
  exact W.vret hx hb hr (fun t ht hW => ⟨rfl, ⟨_, ⟨q0, r, q1, q2, rfl⟩, by rw [ht]; exact hP, hD⟩, hS.F ht⟩) hS.2.2 dX2_init_37
