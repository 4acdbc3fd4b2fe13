/-! both sides' answers: put, turn, scalar, character, coefficient, value -/
theorem zsumI_abs (f : Nat → Int) : ∀ (m a : Nat), zsumI f a m ≤ zsumI (fun i => ((f i).natAbs : Int)) a m ∧ -zsumI (fun i => ((f i).natAbs : Int)) a m ≤ zsumI f a m
  | 0, _ => by simp [zsumI]
  | m + 1, a => by
    have h := zsumI_abs f m (a + 1)
    rw [zsumI, zsumI]
    omega
theorem zsumI_mono {f g : Nat → Int} : ∀ (m a : Nat), (∀ i, a ≤ i → i < a + m → f i ≤ g i) → zsumI f a m ≤ zsumI g a m
  | 0, _, _ => Int.le_refl _
  | m + 1, a, h => by
    rw [zsumI, zsumI]
    have h1 := h a (Nat.le_refl a) (by omega)
    have h2 := zsumI_mono m (a + 1) (fun i q1 q2 => h i (by omega) (by omega))
    omega
theorem dot_bnd {c u : Nat → Int} {N : Int} (hu : ∀ j, j < 30 → -N ≤ u j ∧ u j ≤ N) : dotI c u ≤ zsumI (fun j => ((c j).natAbs : Int)) 0 30 * N ∧ -(zsumI (fun j => ((c j).natAbs : Int)) 0 30 * N) ≤ dotI c u := by
  have h1 := zsumI_abs (fun j => c j * u j) 30 0
  have h2 : zsumI (fun j => ((c j * u j).natAbs : Int)) 0 30 ≤ zsumI (fun j => ((c j).natAbs : Int) * N) 0 30 := by
    refine zsumI_mono 30 0 (fun j _ hj => ?_)
    have := hu j (by omega)
    rw [Int.natAbs_mul, Int.natCast_mul]
    exact Int.mul_le_mul_of_nonneg_left (by omega) (Int.natCast_nonneg _)
  rw [zsumI_mul] at h2
  show zsumI _ 0 30 ≤ _ ∧ _
  unfold dotI
  omega
abbrev bnd (u : Nat → Int) (N : Int) : Prop := ∀ j, j < 30 → -N ≤ u j ∧ u j ≤ N
theorem vP_bnd {u : Nat → Int} {N : Int} (hN : 0 ≤ N) (hu : bnd u N) {a : Nat} (ha : a < 30) : linI (lx mPL) u a ≤ 7560 * N ∧ -(7560 * N) ≤ linI (lx mPL) u a := by
  have h := dot_bnd (c := lx mPL a) hu
  have h2 := Int.mul_le_mul_of_nonneg_right (mp_row a ha) hN
  show dotI (lx mPL a) u ≤ _ ∧ _ ≤ dotI (lx mPL a) u
  omega
section OP
variable {w : Nat → Int64} {u : Nat → Int}
theorem ri_P (hw : ∀ j, j < 30 → w j = Int64.ofInt (u j)) (hu : bnd u 100000) : fc_P w (fun b => Int64.ofInt (linI (lx mPL) u b)) := fun a ha => by
  obtain ⟨q1, q2, q3⟩ := mp_al a ha
  have hb := vP_bnd (by decide) hu ha
  have e : linI (lx mPL) u a * (xt_al a : Int) = u a * 720 - zsumI (fun i => linI (lx mPL) u i * mt_mem 3 i a) (a + 1) (29 - a) := by
    show dotI (lx mPL a) u * _ = u a * 720 - zsumI (fun i => dotI (lx mPL i) u * mt_mem 3 i a) _ _
    rw [dot_sum, ← dot_mul, ← dot_dlt (u := u) ha, ← dot_mul, ← dot_sub]
    exact dot_congr (fun j hj => mr_P a ha j hj)
  show Int64.ofInt (linI (lx mPL) u a) = _
  rw [zsum_lift (F := fun b => Int64.ofInt (linI (lx mPL) u b)) (k := fun a' => cm 3 a' a) (f := linI (lx mPL) u) (κ := fun i => mt_mem 3 i a) (fun i _ _ => rfl) (fun i h1 h2 => cm_lx (by decide)), hw a ha, show (720 : Int64) = Int64.ofInt 720 from rfl, ← Int64.ofInt_mul, ← Int64.ofInt_sub, Int.mul_comm 720, ← e, q1]
  have h720 : (xt_al a : Int) ≤ 720 := by omega
  have hpos : (0 : Int) < xt_al a := by omega
  have b1 : linI (lx mPL) u a * (xt_al a : Int) ≤ 756000000 * 720 := by
    have := Int.mul_le_mul_of_nonneg_right (c := (xt_al a : Int)) (show linI (lx mPL) u a ≤ 756000000 by omega) (by omega)
    omega
  have b2 : -(756000000 * 720) ≤ linI (lx mPL) u a * (xt_al a : Int) := by
    have := Int.mul_le_mul_of_nonneg_right (c := (xt_al a : Int)) (show -756000000 ≤ linI (lx mPL) u a by omega) (by omega)
    omega
  exact (i64_div hpos (by omega) (by omega) (by omega)).symm
/-- the reference's numbers before members -/
theorem ri_from {base : Nat} (hb : base < 5) (hw : ∀ j, j < 30 → w j = Int64.ofInt (u j)) (hu : bnd u 100000) : fc_from base w (fun b => Int64.ofInt (vF base u b)) := by
  match base, hb with
  | 0, _ => exact ri_M hw
  | 1, _ => exact ⟨_, ri_E hw, fun b hb => rfl⟩
  | 2, _ => exact ⟨_, ri_S hw, ri_C⟩
  | 3, _ => exact ri_P hw hu
  | 4, _ => exact ri_S hw
def vT (base : Nat) (t : Nat → Int) (b : Nat) : Int := zsumI (fun a => t a * mB base a b) 0 30
theorem to_swap {t : Nat → Int} {R : Nat → Nat → Int} {κ c : Nat → Int} (h : ∀ i, i < 30 → c i = zsumI (fun a => R a i * κ a) 0 30) : zsumI (fun a => zsumI (fun i => t i * R a i) 0 30 * κ a) 0 30 = zsumI (fun i => t i * c i) 0 30 := by
  have e : zsumI (fun a => zsumI (fun i => t i * R a i) 0 30 * κ a) 0 30 = zsumI (fun a => zsumI (fun i => t i * (R a i * κ a)) 0 30) 0 30 :=
    zsumI_congr 30 0 (fun a _ _ => by
      rw [← zsumI_mul]
      exact zsumI_congr 30 0 (fun i _ _ => Int.mul_assoc _ _ _))
  rw [e, zsumI_swap]
  exact zsumI_congr 30 0 (fun i _ hi => by rw [zsumI_mulL, h i (by omega)])
theorem to_W {t : Nat → Int} {N : Nat → Int64} {R : Nat → Nat → Int} {c : Nat → Nat → Int} (hN : ∀ a, a < 30 → N a = Int64.ofInt (zsumI (fun i => t i * R a i) 0 30)) (hc : ∀ i, i < 30 → ∀ b, b < 30 → c i b = zsumI (fun a => R a i * lx kkL a b) 0 30) : bc_W N (fun b => Int64.ofInt (zsumI (fun i => t i * c i b) 0 30)) := fun b hb => by
  have hse := xt_se b hb
  show Int64.ofInt _ = _
  rw [zsum_lift (F := N) (k := fun a => cK a b) (f := fun a => zsumI (fun i => t i * R a i) 0 30) (κ := fun a => lx kkL a b) (fun i h1 h2 => hN i (by omega)) (fun i h1 h2 => cK_lx (by omega) hb), zsumI_part (f := fun i => zsumI (fun i_1 => t i_1 * R i i_1) 0 30 * lx kkL i b) (s := xt_start b) (n := b + 1 - xt_start b) (by omega) (fun i hi q => by
    rcases mw_z i hi b hb with z | z
    · omega
    · show _ * lx kkL i b = 0
      rw [z, Int.mul_zero]), to_swap (fun i hi => hc i hi b hb)]
theorem li_to {base : Nat} {x : Nat → Int64} {t : Nat → Int} (hb : base < 5) (hx : ∀ j, j < 30 → x j = Int64.ofInt (t j)) : bc_to base x (fun b => Int64.ofInt (vT base t b)) := by
  have hC : bc_C x (fun b => Int64.ofInt (zsumI (fun i => t i * lx kkL b i) 0 30)) := fun b hb => by
    have hse := xt_se b hb
    show Int64.ofInt _ = _
    rw [zsum_lift (F := x) (k := fun i => cK b i) (f := t) (κ := fun i => lx kkL b i) (fun i h1 h2 => hx i (by omega)) (fun i h1 h2 => cK_lx hb (by omega)), zsumI_part (f := fun i => t i * lx kkL b i) (s := b) (n := xt_end b - b) (by omega) (fun i hi q => by
      rcases mw_c b hb i hi with z | z
      · omega
      · show _ * lx kkL b i = 0
        rw [z, Int.mul_zero])]
  have hT : bc_T x (fun b => Int64.ofInt (zsumI (fun i => t i * lx xxL b i) 0 30)) := fun b hb => by
    have hse := xt_se b hb
    show Int64.ofInt _ = _
    rw [zsum_lift (F := x) (k := fun i => cX b i) (f := t) (κ := fun i => lx xxL b i) (fun i h1 h2 => hx i (by omega)) (fun i h1 h2 => cX_lx hb (by omega)), zsumI_part (f := fun i => t i * lx xxL b i) (s := xt_start b) (n := xt_end b - xt_start b) (by omega) (fun i hi q => by
      rcases mw_x b hb i hi with z | z
      · omega
      · show _ * lx xxL b i = 0
        rw [z, Int.mul_zero])]
  match base, hb with
  | 0, _ =>
    intro b hb
    show Int64.ofInt (zsumI (fun a => t a * mB 0 a b) 0 30) = x b
    rw [hx b hb, zsumI_one 30 0 (Nat.zero_le b) (by omega) (fun i _ hi q => by
      show t i * mt_mem 0 i b = 0
      rw [lp_m0 i (by omega) b hb, if_neg (fun z => q z.symm), Int.mul_zero])]
    show Int64.ofInt (t b * mt_mem 0 b b) = _
    rw [lp_m0 b hb b hb, if_pos rfl, Int.mul_one]
  | 1, _ => exact ⟨_, hC, to_W (R := fun a i => lx kkL (xt_conj a) i) (c := fun i b => mt_mem 1 i b) (fun a ha => rfl) mt_1⟩
  | 2, _ => exact ⟨_, hC, to_W (R := fun a i => lx kkL a i) (c := fun i b => mt_mem 2 i b) (fun a ha => rfl) mt_2⟩
  | 3, _ => exact ⟨_, hT, to_W (R := fun a i => lx xxL a i) (c := fun i b => mt_mem 3 i b) (fun a ha => rfl) mt_3⟩
  | 4, _ =>
    refine to_W (R := fun a i => dlt a i) (c := fun i b => lx kkL i b) (fun a ha => ?_) (fun i hi b hb => ?_)
    · rw [hx a ha, zsumI_one 30 0 (Nat.zero_le a) (by omega) (fun i _ hi q => by rw [dlt, if_neg (fun z => q z.symm), Int.mul_zero]), dlt, if_pos rfl, Int.mul_one]
    · rw [zsumI_one 30 0 (Nat.zero_le i) (by omega) (fun a _ ha q => by rw [dlt, if_neg q, Int.zero_mul]), dlt, if_pos rfl, Int.one_mul]
theorem hz_congr {W R : Nat → Int64} (h : ∀ j, j < 30 → W j = R j) : hz_r W = hz_r R := by
  unfold hz_r
  have : zwA W 100000 ↔ zwA R 100000 := ⟨fun q j hj => by rw [← h j hj]; exact q j hj, fun q j hj => by rw [h j hj]; exact q j hj⟩
  by_cases q : zwA R 100000
  · rw [if_pos q, if_pos (this.mpr q)]
  · rw [if_neg q, if_neg (fun z => q (this.mp z))]
theorem op_put {base a : Nat} {y : Int32} (hb : base < 5) (ha : a < 30) : bc_to base (bz_de a y.toInt64) (fun j => Int64.ofInt (vT base (fun i => if i = a then y.toInt else 0) j)) ∧ ∀ j, j < 30 → Int64.ofInt (vT base (fun i => if i = a then y.toInt else 0) j) = y.toInt64 * cm base a j := by
  have hy : y.toInt64 = Int64.ofInt y.toInt := by
    rw [← Int64.toInt_inj, Int32.toInt_toInt64, Int64.toInt_ofInt_of_le]
    · have := Int32.le_toInt y; omega
    · have := Int32.toInt_lt y; omega
  refine ⟨li_to hb (fun j hj => ?_), fun j hj => ?_⟩
  · show (if j = a then y.toInt64 else 0) = _
    by_cases e : j = a
    · rw [if_pos e, if_pos e, hy]
    · rw [if_neg e, if_neg e]; rfl
  · rw [cmB ha hj, hy, ← Int64.ofInt_mul]
    congr 1
    show zsumI (fun i => (if i = a then y.toInt else 0) * mB base i j) 0 30 = _
    rw [zsumI_one 30 0 (Nat.zero_le a) (by omega) (fun i _ hi q => by rw [if_neg q, Int.zero_mul]), if_pos rfl]
theorem op_turn (j : Nat) (hj : j < 30) : zsum (fun c => Int64.ofInt (vF 1 u c) * cm 2 c j) 0 30 = Int64.ofInt (vT 2 (vF 1 u) j) := by
  rw [zsum_lift (F := fun c => Int64.ofInt (vF 1 u c)) (k := fun c => cm 2 c j) (f := vF 1 u) (κ := fun c => mB 2 c j) (fun i _ _ => rfl) (fun i h1 h2 => cmB (by omega) hj)]
  rfl
/-- scalars by tableaux, and by complete sums and monomials -/
theorem op_sc (u v : Nat → Int) : zsumI (fun i => linI (lx mSL) u i * linI (lx mSL) v i) 0 30 = zsumI (fun j => linI (lx mHL) u j * v j) 0 30 := by
  have e1 : ∀ i, i < 30 → linI (lx mSL) u i = zsumI (fun j => linI (lx mHL) u j * lx kkL i j) 0 30 := fun i hi => by
    show dotI (lx mSL i) u = zsumI (fun j => dotI (lx mHL j) u * lx kkL i j) 0 30
    rw [dot_sum]
    refine dot_congr (fun l hl => ?_)
    rw [ms_SH i hi l hl]
    exact zsumI_congr 30 0 (fun j _ _ => Int.mul_comm _ _)
  have e2 : ∀ j, j < 30 → v j = zsumI (fun i => linI (lx mSL) v i * lx kkL i j) 0 30 := fun j hj => by
    rw [← dot_dlt (u := v) hj]
    show _ = zsumI (fun i => dotI (lx mSL i) v * lx kkL i j) 0 30
    rw [dot_sum]
    refine dot_congr (fun l hl => ?_)
    rw [ms_SK j hj l hl]
    exact zsumI_congr 30 0 (fun j _ _ => Int.mul_comm _ _)
  rw [zsumI_congr (g := fun i => zsumI (fun j => linI (lx mHL) u j * lx kkL i j * linI (lx mSL) v i) 0 30) 30 0 (fun i _ hi => by rw [e1 i (by omega), zsumI_mul]), zsumI_swap]
  refine zsumI_congr 30 0 (fun j _ hj => ?_)
  rw [zsumI_congr (g := fun i => linI (lx mHL) u j * (linI (lx mSL) v i * lx kkL i j)) 30 0 (fun i _ _ => by rw [Int.mul_assoc, Int.mul_comm (lx kkL i j)]), zsumI_mulL, ← e2 j (by omega)]
theorem op_scalar {v : Nat → Int} {g : Nat → Int64} (hg : ∀ j, j < 30 → g j = Int64.ofInt (v j)) : zsum (fun i => Int64.ofInt (vF 4 u i) * Int64.ofInt (vF 4 v i)) 0 30 = zsum (fun j => Int64.ofInt (vF 2 u j) * g j) 0 30 := by
  rw [zsum_lift (F := fun i => Int64.ofInt (vF 4 u i)) (k := fun i => Int64.ofInt (vF 4 v i)) (f := vF 4 u) (κ := vF 4 v) (fun i _ _ => rfl) (fun i _ _ => rfl), zsum_lift (F := fun i => Int64.ofInt (vF 2 u i)) (k := g) (f := vF 2 u) (κ := v) (fun i _ _ => rfl) (fun i _ h => hg i (by omega))]
  congr 1
  exact op_sc u v
theorem op_char {a b : Nat} (ha : a < 30) (hb : b < 30) : fc_from 2 (fun j => cm 4 a j) (fun j => Int64.ofInt (vF 2 (lx kkL a) j)) ∧ (zsum (fun j => Int64.ofInt (vF 2 (lx kkL a) j) * cm 3 b j) 0 30).toInt32 = Int32.ofInt (xt_char (a * 30 + b)) := by
  refine ⟨⟨_, ri_S (u := lx kkL a) (fun j hj => cm4_lx ha hj), ri_C⟩, ?_⟩
  rw [zsum_lift (F := fun j => Int64.ofInt (vF 2 (lx kkL a) j)) (k := fun j => cm 3 b j) (f := vF 2 (lx kkL a)) (κ := fun j => mt_mem 3 b j) (fun i _ _ => rfl) (fun i _ h => cm_lx (by decide)), lx_xx a ha b hb, ← mx_32 a ha b hb]
  congr 2
  show zsumI (fun i => linI (lx mHL) (lx kkL a) i * mt_mem 3 b i) 0 30 = _
  rw [← op_sc, zsumI_one 30 0 (Nat.zero_le a) (by omega) (fun i _ hi q => by
    show dotI (lx mSL i) (lx kkL a) * _ = 0
    rw [show dotI (lx mSL i) (lx kkL a) = dlt i a from ms_Sk i (by omega) a ha, dlt, if_neg q, Int.zero_mul])]
  show dotI (lx mSL a) (lx kkL a) * dotI (lx mSL a) (mt_mem 3 b) = _
  rw [show dotI (lx mSL a) (lx kkL a) = dlt a a from ms_Sk a ha a ha, show dotI (lx mSL a) (mt_mem 3 b) = lx xxL a b from ms_Sp a ha b hb, dlt, if_pos rfl, Int.one_mul]
end OP
theorem i64_mod {X d : Int} (h0 : 0 ≤ X) (h1 : X < 9223372036854775808) (hd : 0 < d) (hd2 : d < 1000) : Int64.ofInt X - Int64.ofInt X / Int64.ofInt d * Int64.ofInt d = Int64.ofInt (X % d) := by
  have e : Int64.ofInt X / Int64.ofInt d = Int64.ofInt (X / d) := by
    have h : (Int64.ofInt X / Int64.ofInt d).toInt = (Int64.ofInt (X / d)).toInt := by
      rw [Int64.toInt_div, i64_toInt (by omega) h1, i64_toInt (by omega) (by omega), Int.tdiv_eq_ediv_of_nonneg h0, Int64.toInt_ofInt]
    exact Int64.toInt_inj.mp h
  rw [e, ← Int64.ofInt_mul, ← Int64.ofInt_sub]
  congr 1
  have := Int.emod_add_mul_ediv X d
  rw [Int.mul_comm]
  omega
theorem gc_720 : ∀ r, r < 720 → gcz 99 720 (Int64.ofInt ((r : Nat) : Int)) = gcz 199 720 (Int64.ofInt ((r : Nat) : Int)) ∧ ¬ gcz 199 720 (Int64.ofInt ((r : Nat) : Int)) = 0 := by decide +kernel
theorem gc_1 : gcz 99 1 (Int64.ofInt 0) = 1 ∧ gcz 199 1 (Int64.ofInt 0) = 1 := by decide +kernel
theorem gcz_s {n : Nat} {x y : Int64} (hy : ¬ y = 0) : gcz (n + 1) x y = gcz n y (x - x / y * y) := by
  rw [gcz, if_neg hy]
theorem op_gc {X : Int} {base : Nat} (h0 : 0 ≤ X) (h1 : X < 9223372036854775808) : gcz 100 (Int64.ofInt X) (cf_low base) = gcz 200 (Int64.ofInt X) (cf_low base) ∧ ¬ gcz 200 (Int64.ofInt X) (cf_low base) = 0 := by
  by_cases hb : base = 3
  · have hl : cf_low base = 720 := by rw [cf_low, if_pos hb]
    have hm : Int64.ofInt X - Int64.ofInt X / 720 * 720 = Int64.ofInt (X % 720) := i64_mod h0 h1 (d := 720) (by decide) (by decide)
    have h2 := Int.emod_nonneg X (show (720 : Int) ≠ 0 by decide)
    have h3 := Int.emod_lt_of_pos X (show (0 : Int) < 720 by decide)
    have h4 := gc_720 (X % 720).toNat (by omega)
    rw [Int.toNat_of_nonneg h2] at h4
    have e1 : gcz 100 (Int64.ofInt X) 720 = gcz 99 720 (Int64.ofInt (X % 720)) := (gcz_s (n := 99) (by decide)).trans (by rw [hm])
    have e2 : gcz 200 (Int64.ofInt X) 720 = gcz 199 720 (Int64.ofInt (X % 720)) := (gcz_s (n := 199) (by decide)).trans (by rw [hm])
    rw [hl, e1, e2]
    exact h4
  · have hl : cf_low base = 1 := by rw [cf_low, if_neg hb]
    have hm : Int64.ofInt X - Int64.ofInt X / 1 * 1 = Int64.ofInt 0 := by
      have := i64_mod h0 h1 (d := 1) (by decide) (by decide)
      rw [Int.emod_one] at this
      exact this
    have e1 : gcz 100 (Int64.ofInt X) 1 = gcz 99 1 (Int64.ofInt 0) := (gcz_s (n := 99) (by decide)).trans (by rw [hm])
    have e2 : gcz 200 (Int64.ofInt X) 1 = gcz 199 1 (Int64.ofInt 0) := (gcz_s (n := 199) (by decide)).trans (by rw [hm])
    rw [hl, e1, e2, gc_1.1, gc_1.2]
    exact ⟨rfl, by decide⟩
theorem op_coef {X : Int} {base w : Nat} (h0 : -9223372036854775808 < X) (h1 : X < 9223372036854775808) : cf_r (Int64.ofInt X) base w = cg_r (Int64.ofInt X) base w ∧ ¬ cg_g (Int64.ofInt X) base = 0 := by
  have hx := i64_toInt (x := X) (by omega) h1
  have hl : bz_abs (cf_low base) = cf_low base := by
    unfold cf_low
    by_cases hb : base = 3
    · rw [if_pos hb]; decide
    · rw [if_neg hb]; decide
  have hz : (0 : Int64).toInt = 0 := rfl
  have ha : bz_abs (Int64.ofInt X) = Int64.ofInt (X.natAbs : Int) := by
    unfold bz_abs
    by_cases q : 0 < X
    · rw [if_pos (Int64.lt_iff_toInt_lt.mpr (by rw [hx, hz]; exact q)), show (X.natAbs : Int) = X by omega]
    · rw [if_neg (fun z => q (by have := Int64.lt_iff_toInt_lt.mp z; rw [hx, hz] at this; exact this)), ← Int64.ofInt_neg, show (X.natAbs : Int) = -X by omega]
  have hb : (if Int64.ofInt X < 0 then -Int64.ofInt X else Int64.ofInt X) = Int64.ofInt (X.natAbs : Int) := by
    by_cases q : X < 0
    · rw [if_pos (Int64.lt_iff_toInt_lt.mpr (by rw [hx, hz]; exact q)), ← Int64.ofInt_neg, show (X.natAbs : Int) = -X by omega]
    · rw [if_neg (fun z => q (by have := Int64.lt_iff_toInt_lt.mp z; rw [hx, hz] at this; exact this)), show (X.natAbs : Int) = X by omega]
  obtain ⟨g1, g2⟩ := op_gc (X := (X.natAbs : Int)) (base := base) (Int.natCast_nonneg _) (by omega)
  have e : cf_g (Int64.ofInt X) base = cg_g (Int64.ofInt X) base := by
    rw [cf_g, cg_g, hl, ha, hb, g1]
  have n : ¬ cg_g (Int64.ofInt X) base = 0 := by
    rw [cg_g, hb]; exact g2
  refine ⟨?_, n⟩
  rw [cf_r, e, if_neg n, cg_r]
theorem xt_i3_lt : ∀ i, i < 7 → ∀ j, j < 7 → ∀ k, k < 7 → xt_i3 i j k < 30 := by decide +kernel
theorem op_val {w w' : Nat → Int64} {x y z : Int64} (h : ∀ j, j < 30 → w j = w' j) : wk_val w x y z = wk_val w' x y z := by
  unfold wk_val
  refine zsum_congr 7 0 (fun i _ hi => ?_)
  unfold wk_v1
  refine zsum_congr _ 0 (fun j _ hj => ?_)
  unfold wk_v2
  refine zsum_congr _ 0 (fun k _ hk => ?_)
  unfold wk_v
  rw [h _ (xt_i3_lt i (by omega) j (by omega) k (by omega))]
