/-! the reference's constructor: layProduct, pure part -/
def zsumI (f : Nat → Int) : Nat → Nat → Int
  | _, 0 => 0
  | a, m + 1 => f a + zsumI f (a + 1) m
theorem zsum_ofInt (f : Nat → Int) : ∀ (m a : Nat), zsum (fun i => Int64.ofInt (f i)) a m = Int64.ofInt (zsumI f a m)
  | 0, _ => rfl
  | m + 1, a => by rw [zsum, zsumI, zsum_ofInt f m (a + 1), Int64.ofInt_add]
def mt_sI (f g : Nat → Int) (c : Nat) : Int := zsumI (fun w => f (mt_pr c w).1 * g (mt_pr c w).2) 0 (mt_nw c)
theorem mt_s_ofInt {f g : Nat → Int} {F G : Nat → Int64} {c : Nat} (hF : ∀ i, F i = Int64.ofInt (f i)) (hG : ∀ i, G i = Int64.ofInt (g i)) : mt_s F G c = Int64.ofInt (mt_sI f g c) := by
  unfold mt_s mt_sI
  rw [← zsum_ofInt]
  exact zsum_congr _ _ (fun i _ _ => by rw [hF, hG, Int64.ofInt_mul])
def lp_par (a : Nat) : Nat := mt_bk (rc_k a (xt_len a - 1))
def lp_last (a : Nat) : Nat := xp_part a (xt_len a - 1)
def lp_is (B last b : Nat) : Bool := xt_deg b == last && (B == 2 || (B == 1 && xp_part b 0 == 1) || (B == 3 && xt_len b == 1))
def lp_G (B last b : Nat) : Int := if lp_is B last b then 1 else 0
theorem lp_facts : ∀ a, a < 29 → 1 ≤ xt_len (a + 1) ∧ xt_len (a + 1) ≤ 6 ∧ lp_par (a + 1) < a + 1 ∧ rc_k (a + 1) (xt_len (a + 1) - 1) < 672 := by decide +kernel
theorem lp_all : ∀ B, B < 3 → ∀ a, a < 29 → ∀ c, c < 30 → mt_sI (mt_mem (B + 1) (lp_par (a + 1))) (lp_G (B + 1) (lp_last (a + 1))) c = mt_mem (B + 1) (a + 1) c := by decide +kernel
theorem lp_m0 : ∀ a, a < 30 → ∀ b, b < 30 → mt_mem 0 a b = if b = a then 1 else 0 := by decide +kernel
theorem lp_b0 : ∀ B, B < 4 → ∀ b, b < 30 → mt_mem B 0 b = if b = 0 then 1 else 0 := by decide +kernel
