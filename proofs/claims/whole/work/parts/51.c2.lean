/-! the partitions' constructor: fillColumn, and the loops behind the allocation -/
def fl_last (b : Nat) : Nat := xp_part b (xt_len b - 1)
def fl_less (b : Nat) : Nat := xt_deg b - fl_last b
def fl_sh (b : Nat) : Nat := (xt_num (xt_mark b - xt_mk (fl_last b)) (fl_less b)).getD 0
theorem fl_facts : ∀ b, b < 29 → 1 ≤ xt_len (b + 1) ∧ xt_len (b + 1) ≤ 6 ∧ fl_last (b + 1) ≤ xt_deg (b + 1) ∧ xt_mk (fl_last (b + 1)) ≤ xt_mark (b + 1) ∧ xt_num (xt_mark (b + 1) - xt_mk (fl_last (b + 1))) (fl_less (b + 1)) = some (fl_sh (b + 1)) ∧ fl_sh (b + 1) < b + 1 ∧ fl_less (b + 1) ≤ 6 := by decide +kernel
def fi_f (a sh : Nat) : Nat → Nat → Nat → Nat
  | 0, _, f => f
  | m + 1, c, f => fi_f a sh m (c + 1) (f + if irs a c 6 0 then xt_kost (c * 30 + sh) else 0)
def fi_s (a sh : Nat) : Nat → Nat → Int → Int
  | 0, _, f => f
  | m + 1, c, f => fi_s a sh m (c + 1) (f + rs a c * xt_char (c * 30 + sh))
def fi_K (b a : Nat) : Nat := fi_f a (fl_sh b) (xp_start (fl_less b + 1) - xp_start (fl_less b)) (xp_start (fl_less b)) 0
def fi_X (b a : Nat) : Int := fi_s a (fl_sh b) (xp_start (fl_less b + 1) - xp_start (fl_less b)) (xp_start (fl_less b)) 0
theorem fi_allK : ∀ b, b < 29 → ∀ i, i < xt_end (b + 1) - xt_start (b + 1) → fi_K (b + 1) (xt_start (b + 1) + i) = xt_kost ((xt_start (b + 1) + i) * 30 + (b + 1)) := by decide +kernel
theorem fi_allX : ∀ b, b < 29 → ∀ i, i < xt_end (b + 1) - xt_start (b + 1) → fi_X (b + 1) (xt_start (b + 1) + i) = xt_char ((xt_start (b + 1) + i) * 30 + (b + 1)) := by decide +kernel
theorem fi_allR : ∀ b, b < 29 → ∀ i, i < xt_end (b + 1) - xt_start (b + 1) → ∀ j, j < xp_start (fl_less (b + 1) + 1) - xp_start (fl_less (b + 1)) → rs_ok (xt_start (b + 1) + i) (xp_start (fl_less (b + 1)) + j) = true := by decide +kernel
/-- outside a column's degree the tables hold 0 -/
theorem fi_out : ∀ b, b < 30 → ∀ a, a < 30 → (xt_start b ≤ a ∧ a < xt_end b) ∨ (xt_kost (a * 30 + b) = 0 ∧ xt_char (a * 30 + b) = 0) := by decide +kernel
theorem ofI_nat (a : Nat) : Int32.ofInt (a : Int) = nI a := rfl
theorem ofI_add (x y : Int) : Int32.ofInt x + Int32.ofInt y = Int32.ofInt (x + y) := (Int32.ofInt_add x y).symm
theorem ofI_mul (x y : Int) : Int32.ofInt x * Int32.ofInt y = Int32.ofInt (x * y) := (Int32.ofInt_mul x y).symm
def st2 (σ : bz_S) (f g : Nat → Int32) : bz_S := bz_setI (bz_setI σ 7 f) 8 g
theorem st2_7 {σ : bz_S} {f g : Nat → Int32} : (st2 σ f g).2.1 7 = f := by simp [st2, bz_setI]
theorem st2_8 {σ : bz_S} {f g : Nat → Int32} : (st2 σ f g).2.1 8 = g := by simp [st2, bz_setI]
theorem st2_ne {σ : bz_S} {f g : Nat → Int32} {k : Nat} (h7 : k ≠ 7) (h8 : k ≠ 8) : (st2 σ f g).2.1 k = σ.2.1 k := by simp [st2, bz_setI, h7, h8]
theorem st2_u7 {σ : bz_S} {f g : Nat → Int32} {i : Nat} {x : Int32} : bz_upI (st2 σ f g) 7 i x = st2 σ (upd f i x) g :=
  bz_Seq (fun _ _ => rfl) (fun k j => by
    by_cases h7 : k = 7
    · subst h7; simp [st2, bz_setI, bz_upI]
    · by_cases h8 : k = 8
      · subst h8; simp [st2, bz_setI, bz_upI]
      · simp [st2, bz_setI, bz_upI, h7, h8]) rfl
theorem st2_u8 {σ : bz_S} {f g : Nat → Int32} {i : Nat} {x : Int32} : bz_upI (st2 σ f g) 8 i x = st2 σ f (upd g i x) :=
  bz_Seq (fun _ _ => rfl) (fun k j => by
    by_cases h8 : k = 8
    · subst h8; simp [st2, bz_setI, bz_upI]
    · simp [st2, bz_setI, bz_upI, h8]) rfl
theorem st2_id {σ : bz_S} {f g : Nat → Int32} (h7 : f = σ.2.1 7) (h8 : g = σ.2.1 8) : st2 σ f g = σ :=
  bz_Seq (fun _ _ => rfl) (fun k j => by
    by_cases e8 : k = 8
    · subst e8; simp [st2, bz_setI, h8]
    · by_cases e7 : k = 7
      · subst e7; simp [st2, bz_setI, h7]
      · simp [st2, bz_setI, e7, e8]) rfl
def tb (f F : Nat → Int32) (b a : Nat) : Nat → Int32 := fun i => if i < 900 ∧ (i % 30 < b ∨ i % 30 = b ∧ i / 30 < a) then F i else f i
theorem tb_step {f F : Nat → Int32} {b a : Nat} (hb : b < 30) (ha : a < 30) : upd (tb f F b a) (a * 30 + b) (F (a * 30 + b)) = tb f F b (a + 1) := by
  funext i
  unfold upd tb
  by_cases h : i = a * 30 + b
  · subst h
    rw [if_pos rfl, if_pos (by omega)]
  · rw [if_neg h]
    by_cases q : i < 900 ∧ (i % 30 < b ∨ i % 30 = b ∧ i / 30 < a)
    · rw [if_pos q, if_pos (by omega)]
    · rw [if_neg q, if_neg (by omega)]
theorem tb_skip {f F : Nat → Int32} {b p q : Nat} (h : ∀ a, a < 30 → p ≤ a → a < q → F (a * 30 + b) = f (a * 30 + b)) (hpq : p ≤ q) : tb f F b p = tb f F b q := by
  funext i
  unfold tb
  by_cases h1 : i < 900 ∧ (i % 30 < b ∨ i % 30 = b ∧ i / 30 < p)
  · rw [if_pos h1, if_pos (by omega)]
  · rw [if_neg h1]
    by_cases h2 : i < 900 ∧ (i % 30 < b ∨ i % 30 = b ∧ i / 30 < q)
    · rw [if_pos h2]
      have := h (i / 30) (by omega) (by omega) (by omega)
      rw [show i / 30 * 30 + b = i by omega] at this
      exact this.symm
    · rw [if_neg h2]
theorem tb_col {f F : Nat → Int32} {b : Nat} : tb f F b 30 = tb f F (b + 1) 0 := by
  funext i
  unfold tb
  by_cases h1 : i < 900 ∧ (i % 30 < b ∨ i % 30 = b ∧ i / 30 < 30)
  · rw [if_pos h1, if_pos (by omega)]
  · rw [if_neg h1, if_neg (by omega)]
theorem tb_0 {f F : Nat → Int32} : tb f F 0 0 = f := by
  funext i
  unfold tb
  rw [if_neg (by omega)]
theorem tb_30 {f F : Nat → Int32} {i : Nat} (h : i < 900) : tb f F 30 0 i = F i := by
  unfold tb
  rw [if_pos (by omega)]
theorem tb_in {f F : Nat → Int32} {b a c s : Nat} (hc : c < 30) (hs : s < b) (hb : b < 30) : tb f F b a (c * 30 + s) = F (c * 30 + s) := by
  unfold tb
  rw [if_pos (by omega)]
abbrev tF7 (i : Nat) : Int32 := nI (xt_kost i)
abbrev tF8 (i : Nat) : Int32 := Int32.ofInt (xt_char i)
