/-! linear forms -/
theorem zsumI_congr {f g : Nat → Int} : ∀ (m a : Nat), (∀ i, a ≤ i → i < a + m → f i = g i) → zsumI f a m = zsumI g a m
  | 0, _, _ => rfl
  | m + 1, a, h => by rw [zsumI, zsumI, h a (Nat.le_refl a) (by omega), zsumI_congr m (a + 1) (fun i h1 h2 => h i (by omega) (by omega))]
theorem zsumI_zero : ∀ (m a : Nat), zsumI (fun _ => 0) a m = 0
  | 0, _ => rfl
  | m + 1, a => by rw [zsumI, zsumI_zero m (a + 1), Int.zero_add]
theorem zsumI_add (f g : Nat → Int) : ∀ (m a : Nat), zsumI (fun i => f i + g i) a m = zsumI f a m + zsumI g a m
  | 0, _ => rfl
  | m + 1, a => by rw [zsumI, zsumI, zsumI, zsumI_add f g m (a + 1)]; omega
theorem zsumI_sub (f g : Nat → Int) : ∀ (m a : Nat), zsumI (fun i => f i - g i) a m = zsumI f a m - zsumI g a m
  | 0, _ => rfl
  | m + 1, a => by rw [zsumI, zsumI, zsumI, zsumI_sub f g m (a + 1)]; omega
theorem zsumI_mul (f : Nat → Int) (k : Int) : ∀ (m a : Nat), zsumI (fun i => f i * k) a m = zsumI f a m * k
  | 0, _ => by rw [zsumI, zsumI, Int.zero_mul]
  | m + 1, a => by rw [zsumI, zsumI, zsumI_mul f k m (a + 1), Int.add_mul]
theorem zsumI_mulL (f : Nat → Int) (k : Int) (m a : Nat) : zsumI (fun i => k * f i) a m = k * zsumI f a m := by
  rw [Int.mul_comm, ← zsumI_mul]
  exact zsumI_congr m a (fun i _ _ => Int.mul_comm _ _)
theorem zsumI_swap (f : Nat → Nat → Int) (n b : Nat) : ∀ (m a : Nat), zsumI (fun i => zsumI (fun j => f i j) b n) a m = zsumI (fun j => zsumI (fun i => f i j) a m) b n
  | 0, a => (zsumI_zero n b).symm
  | m + 1, a => by
    rw [zsumI, zsumI_swap f n b m (a + 1), ← zsumI_add]
    rfl
theorem zsumI_split (f : Nat → Int) (q : Nat) : ∀ (p a : Nat), zsumI f a (p + q) = zsumI f a p + zsumI f (a + p) q
  | 0, a => by rw [Nat.zero_add, zsumI, Int.zero_add, Nat.add_zero]
  | p + 1, a => by
    rw [show p + 1 + q = (p + q) + 1 by omega, zsumI, zsumI, zsumI_split f q p (a + 1), show a + 1 + p = a + (p + 1) by omega, Int.add_assoc]
theorem zsumI_one {f : Nat → Int} {b : Nat} : ∀ (m a : Nat), a ≤ b → b < a + m → (∀ i, a ≤ i → i < a + m → i ≠ b → f i = 0) → zsumI f a m = f b
  | 0, a, h1, h2, _ => absurd h2 (by omega)
  | m + 1, a, h1, h2, h => by
    rw [zsumI]
    by_cases e : a = b
    · subst e
      rw [zsumI_congr (g := fun _ => 0) m (a + 1) (fun i q1 q2 => h i (by omega) (by omega) (by omega)), zsumI_zero, Int.add_zero]
    · rw [h a (Nat.le_refl a) (by omega) e, Int.zero_add]
      exact zsumI_one m (a + 1) (by omega) (by omega) (fun i q1 q2 q3 => h i (by omega) (by omega) q3)
/-- a part of a sum, the rest being 0 -/
theorem zsumI_part {f : Nat → Int} {s n : Nat} (h : s + n ≤ 30) (h0 : ∀ i, i < 30 → i < s ∨ s + n ≤ i → f i = 0) : zsumI f s n = zsumI f 0 30 := by
  have e := zsumI_split f (30 - s) s 0
  rw [show s + (30 - s) = 30 by omega, Nat.zero_add] at e
  have e2 := zsumI_split f (30 - s - n) n s
  rw [show n + (30 - s - n) = 30 - s by omega] at e2
  rw [e, e2, zsumI_congr (g := fun _ => 0) s 0 (fun i _ q => h0 i (by omega) (Or.inl (by omega))), zsumI_zero, zsumI_congr (f := f) (g := fun _ => 0) (30 - s - n) (s + n) (fun i q1 q2 => h0 i (by omega) (Or.inr q1)), zsumI_zero]
  omega
def dotI (c u : Nat → Int) : Int := zsumI (fun j => c j * u j) 0 30
def linI (M : Nat → Nat → Int) (u : Nat → Int) (b : Nat) : Int := dotI (M b) u
theorem dot_congr {c c' u : Nat → Int} (h : ∀ j, j < 30 → c j = c' j) : dotI c u = dotI c' u := zsumI_congr 30 0 (fun i _ q => by rw [h i (by omega)])
theorem dot_congr2 {c u u' : Nat → Int} (h : ∀ j, j < 30 → u j = u' j) : dotI c u = dotI c u' := zsumI_congr 30 0 (fun i _ q => by rw [h i (by omega)])
theorem dot_sub (c d u : Nat → Int) : dotI (fun j => c j - d j) u = dotI c u - dotI d u := by
  unfold dotI
  rw [← zsumI_sub]
  exact zsumI_congr 30 0 (fun i _ _ => Int.sub_mul _ _ _)
theorem dot_mul (c u : Nat → Int) (k : Int) : dotI (fun j => c j * k) u = dotI c u * k := by
  unfold dotI
  rw [← zsumI_mul]
  exact zsumI_congr 30 0 (fun i _ _ => by rw [Int.mul_assoc, Int.mul_assoc, Int.mul_comm k])
theorem dot_dlt {u : Nat → Int} {b : Nat} (hb : b < 30) : dotI (dlt b) u = u b := by
  unfold dotI
  rw [zsumI_one 30 0 (Nat.zero_le _) (by omega) (fun i _ _ h => by rw [dlt, if_neg (fun q => h q.symm), Int.zero_mul]), dlt, if_pos rfl, Int.one_mul]
theorem dot_sum (M : Nat → Nat → Int) (κ u : Nat → Int) (s n : Nat) : zsumI (fun a => dotI (M a) u * κ a) s n = dotI (fun j => zsumI (fun a => M a j * κ a) s n) u := by
  unfold dotI
  have e : zsumI (fun a => zsumI (fun j => M a j * u j) 0 30 * κ a) s n = zsumI (fun a => zsumI (fun j => M a j * κ a * u j) 0 30) s n :=
    zsumI_congr n s (fun a _ _ => by
      rw [← zsumI_mul]
      exact zsumI_congr 30 0 (fun j _ _ => by rw [Int.mul_assoc, Int.mul_assoc, Int.mul_comm (u j)]))
  rw [e, zsumI_swap]
  exact zsumI_congr 30 0 (fun j _ _ => by rw [zsumI_mul])
theorem zsum_lift {F : Nat → Int64} {f : Nat → Int} {k : Nat → Int64} {κ : Nat → Int} {s n : Nat} (hF : ∀ i, s ≤ i → i < s + n → F i = Int64.ofInt (f i)) (hk : ∀ i, s ≤ i → i < s + n → k i = Int64.ofInt (κ i)) : zsum (fun i => F i * k i) s n = Int64.ofInt (zsumI (fun i => f i * κ i) s n) := by
  rw [← zsum_ofInt]
  exact zsum_congr n s (fun i h1 h2 => by rw [hF i h1 h2, hk i h1 h2, Int64.ofInt_mul])
theorem cK_lx {a b : Nat} (ha : a < 30) (hb : b < 30) : cK a b = Int64.ofInt (lx kkL a b) := by rw [cK, lx_kk a ha b hb]
theorem cX_lx {a b : Nat} (ha : a < 30) (hb : b < 30) : cX a b = Int64.ofInt (lx xxL a b) := by rw [cX, lx_xx a ha b hb]
theorem cm4_lx {a b : Nat} (ha : a < 30) (hb : b < 30) : cm 4 a b = Int64.ofInt (lx kkL a b) := by
  rw [cm, if_pos rfl, fl_V, fl_cnt_kost ha hb, xt_kL _ (by omega), lx_kk a ha b hb]
theorem cm_lx {B a b : Nat} (hB : B < 4) : cm B a b = Int64.ofInt (mt_mem B a b) := by
  rw [cm, if_neg (by omega)]
/-- the numbers before the members, by weights -/
def vF (base : Nat) (u : Nat → Int) : Nat → Int := match base with
  | 0 => u
  | 1 => linI (lx mEL) u
  | 2 => linI (lx mHL) u
  | 3 => linI (lx mPL) u
  | _ => linI (lx mSL) u
def mB (B a b : Nat) : Int := if B = 4 then lx kkL a b else mt_mem B a b
theorem cmB {B a b : Nat} (ha : a < 30) (hb : b < 30) : cm B a b = Int64.ofInt (mB B a b) := by
  by_cases h : B = 4
  · subst h
    rw [cm4_lx ha hb, mB, if_pos rfl]
  · rw [cm, mB, if_neg h, if_neg h]
section LI
variable {w : Nat → Int64} {u : Nat → Int}
theorem li_S (hw : ∀ j, j < 30 → w j = Int64.ofInt (u j)) : bc_S w (fun b => Int64.ofInt (linI (lx mSL) u b)) := fun b hb => by
  have hse := xt_se b hb
  have e : linI (lx mSL) u b = u b - zsumI (fun a => linI (lx mSL) u a * lx kkL a b) (xt_start b) (b - xt_start b) := by
    show dotI (lx mSL b) u = u b - zsumI (fun a => dotI (lx mSL a) u * lx kkL a b) _ _
    rw [dot_sum, ← dot_dlt (u := u) hb, ← dot_sub]
    exact dot_congr (fun j hj => mx_S b hb j hj)
  show Int64.ofInt (linI (lx mSL) u b) = _
  rw [e, Int64.ofInt_sub, hw b hb, zsum_lift (F := fun b => Int64.ofInt (linI (lx mSL) u b)) (f := linI (lx mSL) u) (κ := fun a => lx kkL a b) (fun i _ _ => rfl) (fun i h1 h2 => cK_lx (by omega) hb)]
theorem li_H {x : Nat → Int64} {M : Nat → Nat → Int} {R : Nat → Nat → Int} (hx : ∀ b, b < 30 → x b = Int64.ofInt (linI R u b)) (hM : ∀ b, b < 30 → ∀ j, j < 30 → M b j = R b j - zsumI (fun i => M i j * lx kkL b i) (b + 1) (xt_end b - (b + 1))) : bc_H x (fun b => Int64.ofInt (linI M u b)) := fun b hb => by
  have hse := xt_se b hb
  have e : linI M u b = linI R u b - zsumI (fun a => linI M u a * lx kkL b a) (b + 1) (xt_end b - (b + 1)) := by
    show dotI (M b) u = dotI (R b) u - zsumI (fun a => dotI (M a) u * lx kkL b a) _ _
    rw [dot_sum, ← dot_sub]
    exact dot_congr (fun j hj => hM b hb j hj)
  show Int64.ofInt (linI M u b) = _
  rw [e, Int64.ofInt_sub, hx b hb, zsum_lift (F := fun b => Int64.ofInt (linI M u b)) (f := linI M u) (κ := fun a => lx kkL b a) (fun i _ _ => rfl) (fun i h1 h2 => cK_lx hb (by omega))]
theorem li_P : bc_P (fun b => Int64.ofInt (linI (lx mSL) u b)) (fun b => Int64.ofInt (linI (lx mPL) u b)) := fun b hb => by
  have hse := xt_se b hb
  have e : linI (lx mPL) u b = zsumI (fun a => linI (lx mSL) u a * lx xxL a b) (xt_start b) (xt_end b - xt_start b) * ((720 / xt_z b : Nat) : Int) := by
    show dotI (lx mPL b) u = zsumI (fun a => dotI (lx mSL a) u * lx xxL a b) _ _ * _
    rw [dot_sum, ← dot_mul]
    exact dot_congr (fun j hj => mx_P b hb j hj)
  show Int64.ofInt (linI (lx mPL) u b) = _
  rw [e, Int64.ofInt_mul, zsum_lift (F := fun b => Int64.ofInt (linI (lx mSL) u b)) (f := linI (lx mSL) u) (κ := fun a => lx xxL a b) (fun i _ _ => rfl) (fun i h1 h2 => cX_lx (by omega) hb)]
  rfl
/-- the class's numbers before members -/
theorem li_from {base : Nat} (hb : base < 5) (hw : ∀ j, j < 30 → w j = Int64.ofInt (u j)) : bc_from base w (fun b => Int64.ofInt (vF base u b)) := by
  match base, hb with
  | 0, _ => exact fun b hb => (hw b hb).symm
  | 1, _ => exact ⟨_, li_S hw, li_H (R := fun b => lx mSL (xt_conj b)) (fun b hb => rfl) mx_E⟩
  | 2, _ => exact ⟨_, li_S hw, li_H (R := lx mSL) (fun b hb => rfl) mx_H⟩
  | 3, _ => exact ⟨_, li_S hw, li_P⟩
  | 4, _ => exact li_S hw
theorem ri_S (hw : ∀ j, j < 30 → w j = Int64.ofInt (u j)) : fc_G 4 id w (fun b => Int64.ofInt (linI (lx mSL) u b)) := fun b hb => by
  have e : linI (lx mSL) u b = u b - zsumI (fun a => linI (lx mSL) u a * lx kkL a b) 0 b := by
    show dotI (lx mSL b) u = u b - zsumI (fun a => dotI (lx mSL a) u * lx kkL a b) _ _
    rw [dot_sum, ← dot_dlt (u := u) hb, ← dot_sub]
    exact dot_congr (fun j hj => mr_S b hb j hj)
  show Int64.ofInt (linI (lx mSL) u b) = _
  rw [e, Int64.ofInt_sub, hw b hb, zsum_lift (F := fun b => Int64.ofInt (linI (lx mSL) u b)) (k := fun b' => cm 4 (id b') b) (f := linI (lx mSL) u) (κ := fun a => lx kkL a b) (fun i _ _ => rfl) (fun i h1 h2 => cm4_lx (by show i < 30; omega) hb)]
theorem ri_E (hw : ∀ j, j < 30 → w j = Int64.ofInt (u j)) : fc_G 1 xt_conj w (fun b => Int64.ofInt (linI (fun b => lx mEL (xt_conj b)) u b)) := fun b hb => by
  have e : linI (fun b => lx mEL (xt_conj b)) u b = u b - zsumI (fun a => linI (fun b => lx mEL (xt_conj b)) u a * mt_mem 1 (xt_conj a) b) 0 b := by
    show dotI (lx mEL (xt_conj b)) u = u b - zsumI (fun a => dotI (lx mEL (xt_conj a)) u * mt_mem 1 (xt_conj a) b) _ _
    rw [dot_sum (fun a => lx mEL (xt_conj a)), ← dot_dlt (u := u) hb, ← dot_sub]
    exact dot_congr (fun j hj => mr_E b hb j hj)
  show Int64.ofInt (linI (fun b => lx mEL (xt_conj b)) u b) = _
  rw [e, Int64.ofInt_sub, hw b hb, zsum_lift (F := fun b => Int64.ofInt (linI (fun b => lx mEL (xt_conj b)) u b)) (k := fun b' => cm 1 (xt_conj b') b) (f := linI (fun b => lx mEL (xt_conj b)) u) (κ := fun a => mt_mem 1 (xt_conj a) b) (fun i _ _ => rfl) (fun i h1 h2 => cm_lx (by decide))]
theorem ri_C : fc_C (fun b => Int64.ofInt (linI (lx mSL) u b)) (fun b => Int64.ofInt (linI (lx mHL) u b)) := fun a ha => by
  have e : linI (lx mHL) u a = linI (lx mSL) u a - zsumI (fun i => linI (lx mHL) u i * lx kkL a i) (a + 1) (29 - a) := by
    show dotI (lx mHL a) u = dotI (lx mSL a) u - zsumI (fun i => dotI (lx mHL i) u * lx kkL a i) _ _
    rw [dot_sum, ← dot_sub]
    exact dot_congr (fun j hj => mr_C a ha j hj)
  show Int64.ofInt (linI (lx mHL) u a) = _
  rw [e, Int64.ofInt_sub, zsum_lift (F := fun b => Int64.ofInt (linI (lx mHL) u b)) (k := fun a' => cm 4 a a') (f := linI (lx mHL) u) (κ := fun i => lx kkL a i) (fun i _ _ => rfl) (fun i h1 h2 => cm4_lx ha (by omega))]
theorem ri_M (hw : ∀ j, j < 30 → w j = Int64.ofInt (u j)) : fc_G 0 id w (fun b => Int64.ofInt (u b)) := fun b hb => by
  have e : zsumI (fun a => u a * mt_mem 0 a b) 0 b = 0 := by
    rw [zsumI_congr (g := fun _ => 0) b 0 (fun i _ h => by rw [lp_m0 i (by omega) b hb, if_neg (by omega), Int.mul_zero]), zsumI_zero]
  show Int64.ofInt (u b) = _
  rw [hw b hb, zsum_lift (F := fun b => Int64.ofInt (u b)) (k := fun b' => cm 0 (id b') b) (f := u) (κ := fun a => mt_mem 0 a b) (fun i _ _ => rfl) (fun i h1 h2 => cm_lx (by decide)), e]
  exact (Int64.sub_zero _).symm
end LI
/-! exact division -/
theorem i64_toInt {x : Int} (h1 : -9223372036854775808 ≤ x) (h2 : x < 9223372036854775808) : (Int64.ofInt x).toInt = x := Int64.toInt_ofInt_of_le (by omega) (by omega)
theorem i64_div {q d : Int} (hd : 0 < d) (hd2 : d < 1000) (h1 : -9223372036854775808 < q * d) (h2 : q * d < 9223372036854775808) : Int64.ofInt (q * d) / Int64.ofInt d = Int64.ofInt q := by
  have e : (Int64.ofInt (q * d) / Int64.ofInt d).toInt = (Int64.ofInt q).toInt := by
    rw [Int64.toInt_div, i64_toInt (by omega) h2, i64_toInt (by omega) (by omega), Int.mul_tdiv_cancel _ (by omega), Int64.toInt_ofInt]
  exact Int64.toInt_inj.mp e
