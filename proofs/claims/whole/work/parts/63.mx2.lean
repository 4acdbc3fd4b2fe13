/-! more matrices -/
theorem mw_z : ∀ a, a < 30 → ∀ b, b < 30 → (xt_start b ≤ a ∧ a ≤ b) ∨ lx kkL a b = 0 := by decide +kernel
theorem mw_x : ∀ a, a < 30 → ∀ b, b < 30 → (xt_start a ≤ b ∧ b < xt_end a) ∨ lx xxL a b = 0 := by decide +kernel
theorem mw_c : ∀ a, a < 30 → ∀ b, b < 30 → (a ≤ b ∧ b < xt_end a) ∨ lx kkL a b = 0 := by decide +kernel
theorem mt_1 : ∀ i, i < 30 → ∀ b, b < 30 → mt_mem 1 i b = zsumI (fun a => lx kkL (xt_conj a) i * lx kkL a b) 0 30 := by decide +kernel
theorem mt_2 : ∀ i, i < 30 → ∀ b, b < 30 → mt_mem 2 i b = zsumI (fun a => lx kkL a i * lx kkL a b) 0 30 := by decide +kernel
theorem mt_3 : ∀ i, i < 30 → ∀ b, b < 30 → mt_mem 3 i b = zsumI (fun a => lx xxL a i * lx kkL a b) 0 30 := by decide +kernel
theorem ms_SH : ∀ i, i < 30 → ∀ l, l < 30 → lx mSL i l = zsumI (fun j => lx kkL i j * lx mHL j l) 0 30 := by decide +kernel
theorem ms_SK : ∀ j, j < 30 → ∀ l, l < 30 → dlt j l = zsumI (fun i => lx kkL i j * lx mSL i l) 0 30 := by decide +kernel
theorem ms_Sk : ∀ i, i < 30 → ∀ a, a < 30 → zsumI (fun j => lx mSL i j * lx kkL a j) 0 30 = dlt i a := by decide +kernel
theorem ms_Sp : ∀ i, i < 30 → ∀ b, b < 30 → zsumI (fun j => lx mSL i j * mt_mem 3 b j) 0 30 = lx xxL i b := by decide +kernel
theorem mp_row : ∀ a, a < 30 → zsumI (fun j => ((lx mPL a j).natAbs : Int)) 0 30 ≤ 7560 := by decide +kernel
theorem mp_al : ∀ a, a < 30 → (nI (xt_al a)).toInt64 = Int64.ofInt (xt_al a) ∧ 0 < xt_al a ∧ xt_al a ≤ 720 := by decide +kernel
theorem mx_32 : ∀ a, a < 30 → ∀ b, b < 30 → (Int64.ofInt (lx xxL a b)).toInt32 = Int32.ofInt (lx xxL a b) := by decide +kernel
