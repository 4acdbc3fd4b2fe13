/-! both sides' plug -/
def tlL : List (List Int) := [[1, 0, 0, 0, 0, 0, 0, 0, 0, 0, 0, 0, 0, 0, 0, 0, 0, 0, 0, 0, 0, 0, 0, 0, 0, 0, 0, 0, 0, 0], [1, 1, 1, 1, 1, 1, 1, 1, 1, 1, 1, 1, 1, 1, 1, 1, 1, 1, 1, 1, 1, 1, 1, 1, 1, 1, 1, 1, 1, 1], [1, 2, 3, 4, 4, 6, 8, 5, 8, 9, 12, 16, 6, 10, 12, 16, 18, 24, 32, 7, 12, 15, 20, 16, 24, 32, 27, 36, 48, 64], [1, 3, 6, 9, 10, 18, 27, 15, 30, 36, 54, 81, 21, 45, 60, 90, 108, 162, 243, 28, 63, 90, 135, 100, 180, 270, 216, 324, 486, 729], [1, 4, 10, 16, 20, 40, 64, 35, 80, 100, 160, 256, 56, 140, 200, 320, 400, 640, 1024, 84, 224, 350, 560, 400, 800, 1280, 1000, 1600, 2560, 4096], [1, 5, 15, 25, 35, 75, 125, 70, 175, 225, 375, 625, 126, 350, 525, 875, 1125, 1875, 3125, 210, 630, 1050, 1750, 1225, 2625, 4375, 3375, 5625, 9375, 15625], [1, 6, 21, 36, 56, 126, 216, 126, 336, 441, 756, 1296, 252, 756, 1176, 2016, 2646, 4536, 7776, 462, 1512, 2646, 4536, 3136, 7056, 12096, 9261, 15876, 27216, 46656]]
def tmx : List Int := [1, 1, 64, 729, 4096, 15625, 46656]
def t9 : List Int := [1, 9, 81, 729, 6561, 59049, 531441]
theorem tl_0 : ∀ c, c < 30 → lx tlL 0 c = if c = 0 then 1 else 0 := by decide +kernel
theorem tl_s : ∀ i, i < 6 → ∀ c, c < 30 → lx tlL (i + 1) c = zsumI (fun w => lx tlL i (mt_pr c w).1) 0 (mt_nw c) := by decide +kernel
theorem tl_m : ∀ i, i < 7 → ∀ c, c < 30 → 0 ≤ lx tlL i c ∧ lx tlL i c ≤ tmx.getD i 0 ∧ 0 ≤ t9.getD i 0 ∧ t9.getD i 0 * tmx.getD i 0 ≤ 24794911296 := by decide +kernel
theorem t9_s : ∀ i, i < 6 → t9.getD (i + 1) 0 = t9.getD i 0 * 9 := by decide +kernel
theorem mu_part : ∀ c, c < 30 → ∀ i, i < 6 → i < xt_len c → 1 ≤ xp_part c i ∧ xp_part c i < 7 := by decide +kernel
def mu_f (c l : Nat) : Option Nat → Option Nat → Bool
  | some e, some J => lx mPL c l == lx mPL e J
  | some _, none => lx mPL c l == 0
  | _, _ => true
theorem mu_F1 : ∀ k, k < 7 → ∀ c, c < 30 → ∀ l, l < 30 → k = 0 ∨ mu_f c l (xt_mul c k) (xt_mul l k) = true := by decide +kernel
theorem mu_F2 : ∀ k, k < 7 → ∀ e, e < 30 → k = 0 ∨ (List.range 30).any (fun c => xt_mul c k == some e) = true ∨ ∀ l, l < 30 → xt_mul l k = none ∨ lx mPL e ((xt_mul l k).getD 0) = 0 := by decide +kernel
theorem mu_one {k a b J : Nat} (hk1 : 1 ≤ k) (hk : k < 7) (ha : a < 30) (hb : b < 30) (h1 : xt_mul a k = some J) (h2 : xt_mul b k = some J) : a = b := by
  rcases Nat.lt_trichotomy a b with h | h | h
  · rcases xt_mul_inj hk hk1 hb h with q | q
    · rw [h2] at q; cases q
    · exact absurd (h1.trans h2.symm) q
  · exact h
  · rcases xt_mul_inj hk hk1 ha h with q | q
    · rw [h1] at q; cases q
    · exact absurd (h2.trans h1.symm) q
theorem mu_mat {k e l : Nat} (hk1 : 1 ≤ k) (hk : k < 7) (he : e < 30) (hl : l < 30) : zsumI (fun c => lx mPL c l * (if xt_mul c k = some e then 1 else 0)) 0 30 = zsumI (fun j => lx mPL e j * (if xt_mul l k = some j then 1 else 0)) 0 30 := by
  have hR : zsumI (fun j => lx mPL e j * (if xt_mul l k = some j then 1 else 0)) 0 30 = match xt_mul l k with | some J => lx mPL e J | none => 0 := by
    cases hq : xt_mul l k with
    | none =>
      rw [zsumI_congr (g := fun _ => 0) 30 0 (fun j _ _ => by rw [if_neg (by simp), Int.mul_zero]), zsumI_zero]
    | some J =>
      have hJ := xt_mul_b l k J hq
      rw [zsumI_one (f := fun j => lx mPL e j * (if some J = some j then 1 else 0)) (b := J) 30 0 (Nat.zero_le J) (by omega) (fun j _ _ q => by
        show lx mPL e j * (if some J = some j then 1 else 0) = 0
        rw [if_neg (fun z => q (Option.some.inj z).symm), Int.mul_zero]), if_pos rfl, Int.mul_one]
  rw [hR]
  by_cases hx : ∃ c, c < 30 ∧ xt_mul c k = some e
  · obtain ⟨c, hc, hce⟩ := hx
    rw [zsumI_one (f := fun c => lx mPL c l * (if xt_mul c k = some e then 1 else 0)) (b := c) 30 0 (Nat.zero_le c) (by omega) (fun j _ hj q => by
      show lx mPL j l * (if xt_mul j k = some e then 1 else 0) = 0
      rw [if_neg (fun z => q (mu_one hk1 hk (by omega) hc z hce)), Int.mul_zero]), if_pos hce, Int.mul_one]
    rcases mu_F1 k hk c hc l hl with z | z
    · omega
    · cases hq : xt_mul l k with
      | none =>
        rw [hce, hq] at z
        exact eq_of_beq z
      | some J =>
        rw [hce, hq] at z
        exact eq_of_beq z
  · rw [zsumI_congr (g := fun _ => 0) 30 0 (fun c _ hc => by rw [if_neg (fun z => hx ⟨c, by omega, z⟩), Int.mul_zero]), zsumI_zero]
    rcases mu_F2 k hk e he with z | z | z
    · omega
    · obtain ⟨c, hc, hce⟩ := List.any_eq_true.mp z
      exact absurd ⟨c, List.mem_range.mp hc, by simpa using hce⟩ hx
    · cases hq : xt_mul l k with
      | none => rfl
      | some J =>
        rcases z l hl with y | y
        · rw [hq] at y; cases y
        · rw [hq] at y
          exact y.symm
/-- powers in the place of variables, told by power sums -/
theorem str_P {v : Nat → Int} {k e : Nat} (hk1 : 1 ≤ k) (hk : k < 7) (he : e < 30) : strI (vP v) k e = vP (strI v k) e := by
  have e1 : strI (vP v) k e = zsumI (fun c => dotI (lx mPL c) v * (if xt_mul c k = some e then 1 else 0)) 0 30 := zsumI_congr 30 0 (fun c _ _ => by
    by_cases q : xt_mul c k = some e
    · rw [if_pos q, if_pos q, Int.mul_one]; rfl
    · rw [if_neg q, if_neg q, Int.mul_zero])
  have e2 : vP (strI v k) e = zsumI (fun a => v a * zsumI (fun j => lx mPL e j * (if xt_mul a k = some j then 1 else 0)) 0 30) 0 30 := by
    show dotI (lx mPL e) (fun j => strI v k j) = _
    have : ∀ j, strI v k j = zsumI (fun a => v a * (if xt_mul a k = some j then 1 else 0)) 0 30 := fun j => zsumI_congr 30 0 (fun a _ _ => by
      by_cases q : xt_mul a k = some j
      · rw [if_pos q, if_pos q, Int.mul_one]
      · rw [if_neg q, if_neg q, Int.mul_zero])
    rw [dot_congr2 (fun j _ => this j), dot_sum2 (lx mPL e) v (fun a j => if xt_mul a k = some j then 1 else 0)]
    rfl
  rw [e1, e2, dot_sum]
  show zsumI _ 0 30 = _
  exact zsumI_congr 30 0 (fun l _ hl => by rw [← mu_mat hk1 hk he (by omega), Int.mul_comm])
theorem str_b {v : Nat → Int} {k j : Nat} (hk1 : 1 ≤ k) (hk : k < 7) (hv : bnd v 9) : ((strI v k j).natAbs : Int) ≤ 9 := by
  by_cases hx : ∃ c, c < 30 ∧ xt_mul c k = some j
  · obtain ⟨c, hc, hce⟩ := hx
    have e : strI v k j = v c := by
      unfold strI
      rw [zsumI_one (f := fun a => if xt_mul a k = some j then v a else 0) (b := c) 30 0 (Nat.zero_le c) (by omega) (fun a _ ha q => by
        show (if xt_mul a k = some j then v a else 0) = 0
        rw [if_neg (fun z => q (mu_one hk1 hk (by omega) hc z hce))]), if_pos hce]
    have := hv c hc
    omega
  · have e : strI v k j = 0 := by
      unfold strI
      rw [zsumI_congr (g := fun _ => 0) 30 0 (fun a _ ha => by rw [if_neg (fun z => hx ⟨a, by omega, z⟩)]), zsumI_zero]
    rw [e]; decide
theorem mp_b {v : Nat → Int} {c : Nat} (hc : c < 30) (hv : bnd v 9) : ∀ (i : Nat), i ≤ xt_len c → i < 7 → ∀ e, e < 30 → ((mpI v c i e).natAbs : Int) ≤ t9.getD i 0 * lx tlL i e
  | 0, _, _, e, he => by
    rw [tl_0 e he]
    show (((if e = 0 then 1 else 0 : Int)).natAbs : Int) ≤ 1 * _
    by_cases q : e = 0
    · rw [if_pos q]; decide
    · rw [if_neg q]; decide
  | i + 1, hi, hi7, e, he => by
    have hp := mu_part c hc i (by omega) (by omega)
    show ((mt_sI (mpI v c i) (strI v (xp_part c i)) e).natAbs : Int) ≤ _
    have h1 := zsumI_abs (fun w => mpI v c i (mt_pr e w).1 * strI v (xp_part c i) (mt_pr e w).2) (mt_nw e) 0
    have h2 : zsumI (fun w => ((mpI v c i (mt_pr e w).1 * strI v (xp_part c i) (mt_pr e w).2).natAbs : Int)) 0 (mt_nw e) ≤ zsumI (fun w => (t9.getD i 0 * 9) * lx tlL i (mt_pr e w).1) 0 (mt_nw e) := by
      refine zsumI_mono _ 0 (fun w _ hw => ?_)
      have q := mk_pr e he w (by omega)
      have a1 := mp_b hc hv i (by omega) (by omega) _ q.2.1
      have a2 := str_b (j := (mt_pr e w).2) hp.1 hp.2 hv
      have a3 := tl_m i (by omega) _ q.2.1
      rw [Int.natAbs_mul, Int.natCast_mul]
      have := Int.mul_le_mul a1 a2 (Int.natCast_nonneg _) (Int.mul_nonneg a3.2.2.1 a3.1)
      rw [Int.mul_assoc, Int.mul_comm 9, ← Int.mul_assoc]
      exact this
    rw [zsumI_mulL, ← tl_s i (by omega) e he, ← t9_s i (by omega)] at h2
    unfold mt_sI
    omega
theorem mp_bb {v : Nat → Int} {c : Nat} (hc : c < 30) (hv : bnd v 9) {i : Nat} (hi : i ≤ xt_len c) (hi7 : i < 7) : bnd (mpI v c i) (t9.getD i 0 * tmx.getD i 0) := fun e he => by
  have h1 := mp_b hc hv i hi hi7 e he
  have h2 := tl_m i hi7 e he
  have := Int.mul_le_mul_of_nonneg_left h2.2.1 h2.2.2.1
  omega
theorem mp_24 {v : Nat → Int} {c : Nat} (hc : c < 30) (hv : bnd v 9) {i : Nat} (hi : i ≤ xt_len c) (hi7 : i < 7) : bnd (mpI v c i) 24794911296 := fun e he => by
  have h1 := mp_bb hc hv hi hi7 e he
  have h2 := tl_m i hi7 e he
  omega
def plI (u v : Nat → Int) (d : Nat) : Int := zsumI (fun c => vP u c * mpI v c (xt_len c) d) 0 30
theorem pl_tot : zsumI (fun c => zsumI (fun j => ((lx mPL c j).natAbs : Int)) 0 30 * (t9.getD (xt_len c) 0 * tmx.getD (xt_len c) 0)) 0 30 ≤ 200000000000 := by decide +kernel
theorem pl_b {u v : Nat → Int} (hu : bnd u 1000) (hv : bnd v 9) : bnd (plI u v) 200000000000000 := fun d hd => by
  have h1 := zsumI_abs (fun c => vP u c * mpI v c (xt_len c) d) 30 0
  have h2 : zsumI (fun c => ((vP u c * mpI v c (xt_len c) d).natAbs : Int)) 0 30 ≤ zsumI (fun c => (zsumI (fun j => ((lx mPL c j).natAbs : Int)) 0 30 * (t9.getD (xt_len c) 0 * tmx.getD (xt_len c) 0)) * 1000) 0 30 := by
    refine zsumI_mono 30 0 (fun c _ hc => ?_)
    have l6 := xt_len6 c (by omega)
    have a1 := dot_bnd (c := lx mPL c) hu
    have a2 := mp_bb (by omega) hv (Nat.le_refl (xt_len c)) (by omega) d hd
    rw [Int.natAbs_mul, Int.natCast_mul]
    have p0 : 0 ≤ zsumI (fun j => ((lx mPL c j).natAbs : Int)) 0 30 := by
      have q := zsumI_mono (f := fun _ => 0) (g := fun j => ((lx mPL c j).natAbs : Int)) 30 0 (fun i _ _ => Int.natCast_nonneg _)
      rw [zsumI_zero] at q
      exact q
    have := Int.mul_le_mul (a := ((vP u c).natAbs : Int)) (b := ((mpI v c (xt_len c) d).natAbs : Int)) (c := zsumI (fun j => ((lx mPL c j).natAbs : Int)) 0 30 * 1000) (d := t9.getD (xt_len c) 0 * tmx.getD (xt_len c) 0) (by show ((dotI (lx mPL c) u).natAbs : Int) ≤ _; omega) (by omega) (Int.natCast_nonneg _) (by omega)
    rw [Int.mul_assoc, Int.mul_comm (t9.getD (xt_len c) 0 * tmx.getD (xt_len c) 0), ← Int.mul_assoc]
    exact this
  rw [zsumI_mul] at h2
  have := pl_tot
  show _ ≤ zsumI _ 0 30 ∧ zsumI _ 0 30 ≤ _
  omega
theorem pp_0 : ∀ j, j < 30 → dotI (lx mPL j) (fun i => if i = 0 then 1 else 0) = if j = 0 then 720 else 0 := by decide +kernel
section O3
variable {U V : Nat → Int64} {u v : Nat → Int}
theorem str_lift {X : Nat → Int64} {x : Nat → Int} (hX : ∀ j, j < 30 → X j = Int64.ofInt (x j)) (k j : Nat) : wk_str X k j = Int64.ofInt (strI x k j) := by
  unfold wk_str strI
  rw [← zsum_ofInt]
  refine zsum_congr 30 0 (fun a _ ha => ?_)
  unfold wk_sI
  by_cases q : xt_mul a k = some j
  · rw [if_pos q, if_pos q, hX a (by omega)]
  · rw [if_neg q, if_neg q]; rfl
theorem mp_lift (hV : ∀ j, j < 30 → V j = Int64.ofInt (v j)) (c : Nat) : ∀ (i j : Nat), j < 30 → mp V c i j = Int64.ofInt (mpI v c i j)
  | 0, j, _ => by
    show (if j = 0 then (1 : Int64) else 0) = Int64.ofInt (if j = 0 then 1 else 0)
    by_cases q : j = 0
    · rw [if_pos q, if_pos q]; rfl
    · rw [if_neg q, if_neg q]; rfl
  | i + 1, j, hj => by
    show mt_s (mp V c i) (wk_str V (xp_part c i)) j = Int64.ofInt (mt_sI (mpI v c i) (strI v (xp_part c i)) j)
    exact mt_lift (fun j hj => mp_lift hV c i j hj) (fun j _ => str_lift hV _ j) hj
theorem pp_lift {c : Nat} (hc : c < 30) (hv : bnd v 9) : ∀ (i : Nat), i ≤ xt_len c → i < 7 → ∀ j, j < 30 → wk_pp (wk_str (fun b => Int64.ofInt (vP v b))) c i j = Int64.ofInt (vP (mpI v c i) j)
  | 0, _, _, j, hj => by
    show (if j = 0 then (720 : Int64) else 0) = Int64.ofInt (dotI (lx mPL j) (fun i => if i = 0 then 1 else 0))
    rw [pp_0 j hj]
    by_cases q : j = 0
    · rw [if_pos q, if_pos q]; rfl
    · rw [if_neg q, if_neg q]; rfl
  | i + 1, hi, hi7, j, hj => by
    have hp := mu_part c hc i (by omega) (by omega)
    have hb := vP_bnd (N := 24794911296) (by decide) (mp_24 hc hv hi hi7) hj
    show wk_mul (wk_str (fun b => Int64.ofInt (vP v b)) (xp_part c i)) (wk_pp (wk_str (fun b => Int64.ofInt (vP v b))) c i) j / Int64.ofInt 720 = _
    rw [wk_lift (x := vP (strI v (xp_part c i))) (y := vP (mpI v c i)) (fun a ha => by rw [str_lift (x := vP v) (fun _ _ => rfl), str_P hp.1 hp.2 ha]) (fun a ha => pp_lift hc hv i (by omega) (by omega) a ha), wk_P hj]
    have e : vP (mt_sI (strI v (xp_part c i)) (mpI v c i)) j = vP (mpI v c (i + 1)) j := dot_congr2 (fun b hb => mt_com hb)
    rw [e]
    exact i64_div (by decide) (by decide) (by show _ < linI (lx mPL) (mpI v c (i + 1)) j * 720; omega) (by show linI (lx mPL) (mpI v c (i + 1)) j * 720 < _; omega)
theorem op_plug (hV : ∀ j, j < 30 → V j = Int64.ofInt (v j)) (hu : bnd u 1000) (hv : bnd v 9) :
    ∃ W, bc_to 3 (fun j => wk_plug (fun b => Int64.ofInt (vF 3 u b)) (fun b => Int64.ofInt (vF 3 v b)) j / 720) W ∧ ∀ j, j < 30 → W j / 720 = pl_r (fun b => Int64.ofInt (vF 3 u b)) V j / 720 := by
  have hq : ∀ d, ∃ q : Int, d < 30 → plI u v d = q * 720 := fun d => by
    by_cases h : d < 30
    · obtain ⟨q, e⟩ := plug_div u v h
      exact ⟨q, fun _ => e⟩
    · exact ⟨0, fun z => absurd z h⟩
  let R : Nat → Int := fun d => Classical.choose (hq d)
  have hR : ∀ d, d < 30 → plI u v d = R d * 720 := fun d hd => Classical.choose_spec (hq d) hd
  have hb : bnd R 300000000000 := fun d hd => by
    have h1 := pl_b hu hv d hd
    have h2 := hR d hd
    omega
  obtain ⟨W, h1, h2⟩ := op_hold (x := fun j => wk_plug (fun b => Int64.ofInt (vF 3 u b)) (fun b => Int64.ofInt (vF 3 v b)) j / 720) (R := R) (fun j hj => by
    have e : wk_plug (fun b => Int64.ofInt (vP u b)) (fun b => Int64.ofInt (vP v b)) j = Int64.ofInt (vP R j * 720) := by
      unfold wk_plug
      rw [zsum_lift (F := fun c => Int64.ofInt (vP u c)) (k := fun c => wk_pp (wk_str (fun b => Int64.ofInt (vP v b))) c (xt_len c) j) (f := vP u) (κ := fun c => vP (mpI v c (xt_len c)) j) (fun c _ _ => rfl) (fun c _ hc => pp_lift (by omega) hv _ (Nat.le_refl _) (by have := xt_len6 c (by omega); omega) j hj)]
      congr 1
      show zsumI (fun c => vP u c * dotI (lx mPL j) (mpI v c (xt_len c))) 0 30 = dotI (lx mPL j) R * 720
      rw [← dot_sum2 (lx mPL j) (vP u) (fun c => mpI v c (xt_len c)), Int.mul_comm, ← dot_mul2]
      exact dot_congr2 (fun d hd => by rw [Int.mul_comm]; exact hR d hd)
    have := vP_bnd (by decide) hb hj
    show wk_plug (fun b => Int64.ofInt (vP u b)) (fun b => Int64.ofInt (vP v b)) j / Int64.ofInt 720 = _
    rw [e]
    exact i64_div (by decide) (by decide) (by show _ < linI (lx mPL) R j * 720; omega) (by show linI (lx mPL) R j * 720 < _; omega)) (fun j hj => by have := hb j hj; omega)
  refine ⟨W, h1, fun j hj => ?_⟩
  rw [h2 j hj]
  have e : pl_r (fun b => Int64.ofInt (vF 3 u b)) V j = Int64.ofInt (R j * 720) := by
    unfold pl_r
    rw [zsum_lift (F := fun c => Int64.ofInt (vF 3 u c)) (k := fun c => mp V c (xt_len c) j) (f := vP u) (κ := fun c => mpI v c (xt_len c) j) (fun c _ _ => rfl) (fun c _ hc => mp_lift hV c _ j hj), ← hR j hj]
    rfl
  have := hb j hj
  show _ = pl_r (fun b => Int64.ofInt (vF 3 u b)) V j / Int64.ofInt 720
  rw [e]
  exact (i64_div (by decide) (by decide) (by omega) (by omega)).symm
end O3
