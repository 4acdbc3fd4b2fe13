/-! products by power sums -/
abbrev vP (u : Nat → Int) : Nat → Int := linI (lx mPL) u
abbrev vQ (u : Nat → Int) : Nat → Int := linI (lx mQL) u
abbrev vH (u : Nat → Int) : Nat → Int := linI (lx mHL) u
abbrev p3 (a : Nat) : Nat → Int := mt_mem 3 a
def jI (a b : Nat) (f : Nat → Int) : Int := if xt_deg a + xt_deg b ≤ 6 then f (xt_jn a b) else 0
theorem mt_congr {f f' g g' : Nat → Int} {c : Nat} (hc : c < 30) (hf : ∀ i, i < 30 → f i = f' i) (hg : ∀ i, i < 30 → g i = g' i) : mt_sI f g c = mt_sI f' g' c := by
  unfold mt_sI
  refine zsumI_congr _ 0 (fun w _ hw => ?_)
  have h := mk_pr c hc w (by omega)
  rw [hf _ h.2.1, hg _ h.2.2]
theorem mt_sumL (A : Nat → Int) (f : Nat → Nat → Int) (g : Nat → Int) (c : Nat) : mt_sI (fun i => zsumI (fun a => A a * f a i) 0 30) g c = zsumI (fun a => A a * mt_sI (f a) g c) 0 30 := by
  unfold mt_sI
  rw [zsumI_congr (g := fun w => zsumI (fun a => A a * (f a (mt_pr c w).1 * g (mt_pr c w).2)) 0 30) _ 0 (fun w _ _ => by
    rw [← zsumI_mul]
    exact zsumI_congr 30 0 (fun a _ _ => Int.mul_assoc _ _ _)), zsumI_swap]
  exact zsumI_congr 30 0 (fun a _ _ => zsumI_mulL _ _ _ _)
theorem mt_sumR (B : Nat → Int) (f : Nat → Int) (g : Nat → Nat → Int) (c : Nat) : mt_sI f (fun i => zsumI (fun a => B a * g a i) 0 30) c = zsumI (fun a => B a * mt_sI f (g a) c) 0 30 := by
  unfold mt_sI
  rw [zsumI_congr (g := fun w => zsumI (fun a => B a * (f (mt_pr c w).1 * g a (mt_pr c w).2)) 0 30) _ 0 (fun w _ _ => by
    rw [← zsumI_mulL]
    exact zsumI_congr 30 0 (fun a _ _ => by rw [← Int.mul_assoc, ← Int.mul_assoc, Int.mul_comm (B a)])), zsumI_swap]
  exact zsumI_congr 30 0 (fun a _ _ => zsumI_mulL _ _ _ _)
theorem mt_kL (k : Int) (f g : Nat → Int) (c : Nat) : mt_sI (fun i => k * f i) g c = k * mt_sI f g c := by
  unfold mt_sI
  rw [← zsumI_mulL]
  exact zsumI_congr _ 0 (fun w _ _ => Int.mul_assoc _ _ _)
theorem mt_kR (k : Int) (f g : Nat → Int) (c : Nat) : mt_sI f (fun i => k * g i) c = k * mt_sI f g c := by
  unfold mt_sI
  rw [← zsumI_mulL]
  exact zsumI_congr _ 0 (fun w _ _ => by rw [← Int.mul_assoc, ← Int.mul_assoc, Int.mul_comm k])
theorem vP_exp {u : Nat → Int} {i : Nat} (hi : i < 30) : 720 * u i = zsumI (fun a => vP u a * p3 a i) 0 30 := by
  show _ = zsumI (fun a => dotI (lx mPL a) u * mt_mem 3 a i) 0 30
  rw [dot_sum, ← dot_dlt (u := u) hi, Int.mul_comm, ← dot_mul]
  exact dot_congr (fun l hl => mk_TP i hi l hl)
theorem mt_p3 {a b c : Nat} (ha : a < 30) (hb : b < 30) (hc : c < 30) : mt_sI (p3 a) (p3 b) c = jI a b (fun j => p3 j c) := by
  unfold jI
  by_cases h : xt_deg c = xt_deg a + xt_deg b
  · have := xt_deg6 c hc
    rw [if_pos (by omega)]
    exact mk_pp a ha b hb c hc h
  · have e : mt_sI (p3 a) (p3 b) c = 0 := by
      unfold mt_sI
      rw [zsumI_congr (g := fun _ => 0) _ 0 (fun w _ hw => ?_), zsumI_zero]
      have q := mk_pr c hc w (by omega)
      rcases mk_deg a ha _ q.2.1 with z1 | z1
      · rcases mk_deg b hb _ q.2.2 with z2 | z2
        · omega
        · show _ * mt_mem 3 b _ = 0
          rw [z2, Int.mul_zero]
      · show mt_mem 3 a _ * _ = 0
        rw [z1, Int.zero_mul]
    rw [e]
    by_cases h6 : xt_deg a + xt_deg b ≤ 6
    · rw [if_pos h6]
      rcases mk_jn a ha b hb with z | z
      · omega
      · rcases mk_deg (xt_jn a b) z.2.1 c hc with y | y
        · omega
        · exact y.symm
    · rw [if_neg h6]
/-- one factor told by power sums -/
theorem mt_expL {u g : Nat → Int} {c : Nat} (hc : c < 30) : 720 * mt_sI u g c = zsumI (fun a => vP u a * mt_sI (p3 a) g c) 0 30 := by
  rw [← mt_kL, mt_congr (f' := fun i => zsumI (fun a => vP u a * p3 a i) 0 30) (g' := g) hc (fun i hi => vP_exp hi) (fun _ _ => rfl), mt_sumL]
theorem mt_expR {u g : Nat → Int} {c : Nat} (hc : c < 30) : 720 * mt_sI g u c = zsumI (fun a => vP u a * mt_sI g (p3 a) c) 0 30 := by
  rw [← mt_kR, mt_congr (f' := g) (g' := fun i => zsumI (fun a => vP u a * p3 a i) 0 30) hc (fun _ _ => rfl) (fun i hi => vP_exp hi), mt_sumR]
theorem mt_exp {u v : Nat → Int} {c : Nat} (hc : c < 30) : 720 * (720 * mt_sI u v c) = zsumI (fun a => vP u a * zsumI (fun b => vP v b * jI a b (fun j => p3 j c)) 0 30) 0 30 := by
  rw [mt_expL hc, ← zsumI_mulL]
  refine zsumI_congr 30 0 (fun a _ ha => ?_)
  rw [← Int.mul_assoc, Int.mul_comm 720, Int.mul_assoc, mt_expR hc]
  congr 1
  exact zsumI_congr 30 0 (fun b _ hb => by rw [mt_p3 (by omega) (by omega) hc])
theorem dot_jI (k : Nat → Int) (a b : Nat) : zsumI (fun c => k c * jI a b (fun j => p3 j c)) 0 30 = jI a b (fun j => zsumI (fun c => k c * p3 j c) 0 30) := by
  unfold jI
  by_cases h : xt_deg a + xt_deg b ≤ 6
  · simp only [h, if_true]
  · simp only [h, if_false, Int.mul_zero]
    exact zsumI_zero 30 0
theorem dot_mul2 (k : Nat → Int) (u : Nat → Int) (x : Int) : dotI k (fun j => x * u j) = x * dotI k u := by
  unfold dotI
  rw [← zsumI_mulL]
  exact zsumI_congr 30 0 (fun j _ _ => by rw [← Int.mul_assoc, ← Int.mul_assoc, Int.mul_comm x])
theorem dot_sum2 (k : Nat → Int) (A : Nat → Int) (f : Nat → Nat → Int) : dotI k (fun c => zsumI (fun a => A a * f a c) 0 30) = zsumI (fun a => A a * dotI k (f a)) 0 30 := by
  unfold dotI
  rw [zsumI_congr (g := fun c => zsumI (fun a => A a * (k c * f a c)) 0 30) 30 0 (fun c _ _ => by
    rw [← zsumI_mulL]
    exact zsumI_congr 30 0 (fun a _ _ => by rw [← Int.mul_assoc, ← Int.mul_assoc, Int.mul_comm (k c)])), zsumI_swap]
  exact zsumI_congr 30 0 (fun a _ _ => zsumI_mulL _ _ _ _)
theorem dot_mt {k u v : Nat → Int} : 720 * (720 * dotI k (mt_sI u v)) = zsumI (fun a => vP u a * zsumI (fun b => vP v b * jI a b (fun j => dotI k (p3 j))) 0 30) 0 30 := by
  rw [← dot_mul2, ← dot_mul2, dot_congr2 (fun c hc => mt_exp (u := u) (v := v) hc), dot_sum2]
  refine zsumI_congr 30 0 (fun a _ _ => ?_)
  rw [dot_sum2]
  congr 1
  exact zsumI_congr 30 0 (fun b _ _ => by rw [show dotI k (fun c => jI a b fun j => p3 j c) = _ from dot_jI k a b]; rfl)
def wkI (x y : Nat → Int) (e : Nat) : Int := zsumI (fun a => zsumI (fun b => if xt_join (a * 30 + b) = (e : Int) then x a * y b else 0) 0 30) 0 30
theorem wk_lift {X Y : Nat → Int64} {x y : Nat → Int} {e : Nat} (hX : ∀ i, i < 30 → X i = Int64.ofInt (x i)) (hY : ∀ i, i < 30 → Y i = Int64.ofInt (y i)) : wk_mul X Y e = Int64.ofInt (wkI x y e) := by
  unfold wk_mul wkI
  rw [← zsum_ofInt]
  refine zsum_congr 30 0 (fun a _ ha => ?_)
  rw [← zsum_ofInt]
  refine zsum_congr 30 0 (fun b _ hb => ?_)
  unfold wk_t
  by_cases h : xt_join (a * 30 + b) = (e : Int)
  · rw [if_pos h, if_pos h, hX a (by omega), hY b (by omega), Int64.ofInt_mul]
  · rw [if_neg h, if_neg h]; rfl
/-- the numbers before the power sums of a product -/
theorem wk_P {u v : Nat → Int} {e : Nat} (he : e < 30) : wkI (vP u) (vP v) e = vP (mt_sI u v) e * 720 := by
  have h := dot_mt (k := lx mPL e) (u := u) (v := v)
  have e2 : zsumI (fun a => vP u a * zsumI (fun b => vP v b * jI a b (fun j => dotI (lx mPL e) (p3 j))) 0 30) 0 30 = wkI (vP u) (vP v) e * 720 := by
    unfold wkI
    rw [← zsumI_mul]
    refine zsumI_congr 30 0 (fun a _ ha => ?_)
    rw [← zsumI_mul, ← zsumI_mulL]
    refine zsumI_congr 30 0 (fun b _ hb => ?_)
    have hj := mk_jn a (by omega) b (by omega)
    unfold jI
    by_cases h6 : xt_deg a + xt_deg b ≤ 6
    · rcases hj with z | z
      · omega
      · rw [if_pos h6]
        show vP u a * (vP v b * dotI (lx mPL e) (p3 (xt_jn a b))) = _
        rw [show dotI (lx mPL e) (p3 (xt_jn a b)) = dlt e (xt_jn a b) * 720 from mk_PT e he _ z.2.1, z.1, dlt]
        by_cases q : e = xt_jn a b
        · rw [if_pos q, if_pos (by omega), Int.one_mul, Int.mul_assoc]
        · rw [if_neg q, if_neg (by omega)]
          simp
    · rcases hj with z | z
      · rw [if_neg h6, z.1, if_neg (by omega)]
        simp
      · have := xt_deg6 _ z.2.1
        omega
  rw [e2] at h
  show _ = dotI (lx mPL e) (mt_sI u v) * 720
  omega
theorem vT_P {R : Nat → Int} {b : Nat} (hb : b < 30) : vT 3 (vP R) b = R b * 720 := by
  rw [Int.mul_comm, vP_exp hb]
  rfl
/-- what the class holds of numbers before power sums -/
theorem op_hold {x : Nat → Int64} {R : Nat → Int} (hx : ∀ j, j < 30 → x j = Int64.ofInt (vP R j)) (hR : ∀ j, j < 30 → -9000000000000000000 < R j * 720 ∧ R j * 720 < 9000000000000000000) : ∃ W, bc_to 3 x W ∧ ∀ j, j < 30 → W j / 720 = Int64.ofInt (R j) := by
  refine ⟨_, li_to (by decide) hx, fun j hj => ?_⟩
  have := hR j hj
  show Int64.ofInt (vT 3 (vP R) j) / Int64.ofInt 720 = _
  rw [vT_P hj]
  exact i64_div (by decide) (by decide) (by omega) (by omega)
theorem mt_bnd {u v : Nat → Int} {c : Nat} (hc : c < 30) (hu : bnd u 100000) (hv : bnd v 100000) : mt_sI u v c ≤ 640000000000 ∧ -640000000000 ≤ mt_sI u v c := by
  have h1 := zsumI_abs (fun w => u (mt_pr c w).1 * v (mt_pr c w).2) (mt_nw c) 0
  have h2 : zsumI (fun w => ((u (mt_pr c w).1 * v (mt_pr c w).2).natAbs : Int)) 0 (mt_nw c) ≤ zsumI (fun _ => 1 * 10000000000) 0 (mt_nw c) := by
    refine zsumI_mono _ 0 (fun w _ hw => ?_)
    have q := mk_pr c hc w (by omega)
    have a1 := hu _ q.2.1
    have a2 := hv _ q.2.2
    rw [Int.natAbs_mul, Int.natCast_mul]
    have := Int.mul_le_mul (a := ((u (mt_pr c w).1).natAbs : Int)) (b := ((v (mt_pr c w).2).natAbs : Int)) (c := 100000) (d := 100000) (by omega) (by omega) (Int.natCast_nonneg _) (by decide)
    omega
  have h3 : ∀ m a, zsumI (fun _ => (1 : Int)) a m = (m : Int) := by
    intro m
    induction m with
    | zero => intro a; rfl
    | succ m ih => intro a; rw [zsumI, ih]; omega
  rw [zsumI_mul, h3] at h2
  have := mk_nw c hc
  unfold mt_sI
  omega
section O2
variable {U V : Nat → Int64} {u v : Nat → Int}
theorem mt_lift (hU : ∀ j, j < 30 → U j = Int64.ofInt (u j)) (hV : ∀ j, j < 30 → V j = Int64.ofInt (v j)) {c : Nat} (hc : c < 30) : mt_s U V c = Int64.ofInt (mt_sI u v c) := by
  unfold mt_s mt_sI
  rw [← zsum_ofInt]
  refine zsum_congr _ 0 (fun w _ hw => ?_)
  have q := mk_pr c hc w (by omega)
  rw [hU _ q.2.1, hV _ q.2.2, Int64.ofInt_mul]
theorem op_times (hU : ∀ j, j < 30 → U j = Int64.ofInt (u j)) (hV : ∀ j, j < 30 → V j = Int64.ofInt (v j)) (hu : bnd u 100000) (hv : bnd v 100000) :
    ∃ W, bc_to 3 (fun j => wk_mul (fun b => Int64.ofInt (vF 3 u b)) (fun b => Int64.ofInt (vF 3 v b)) j / 720) W ∧ ∀ j, j < 30 → W j / 720 = mt_s U V j := by
  have hm : bnd (mt_sI u v) 640000000000 := fun j hj => by have := mt_bnd hj hu hv; omega
  obtain ⟨W, h1, h2⟩ := op_hold (x := fun j => wk_mul (fun b => Int64.ofInt (vF 3 u b)) (fun b => Int64.ofInt (vF 3 v b)) j / 720) (R := mt_sI u v) (fun j hj => by
    show wk_mul (fun b => Int64.ofInt (vP u b)) (fun b => Int64.ofInt (vP v b)) j / Int64.ofInt 720 = _
    rw [wk_lift (x := vP u) (y := vP v) (fun i _ => rfl) (fun i _ => rfl), wk_P hj]
    have := vP_bnd (by decide) hm hj
    exact i64_div (by decide) (by decide) (by show _ < linI (lx mPL) (mt_sI u v) j * 720; omega) (by show linI (lx mPL) (mt_sI u v) j * 720 < _; omega)) (fun j hj => by have := hm j hj; omega)
  exact ⟨W, h1, fun j hj => by rw [h2 j hj, mt_lift hU hV hj]⟩
theorem vQ_P {a : Nat} (ha : a < 30) : vP u a = vQ u a * ((720 / xt_z a : Nat) : Int) := by
  show dotI (lx mPL a) u = dotI (lx mQL a) u * _
  rw [← dot_mul]
  exact dot_congr (fun l hl => mq_P a ha l hl)
theorem vQ_z {a : Nat} (ha : a < 30) : vP u a * (xt_z a : Int) = vQ u a * 720 := by
  rw [vQ_P ha, Int.mul_assoc, (mq_z a ha).1]
theorem vQ_bnd {N : Int} (hN : 0 ≤ N) (hu : bnd u N) {a : Nat} (ha : a < 30) : vQ u a ≤ 63 * N ∧ -(63 * N) ≤ vQ u a := by
  have h := dot_bnd (c := lx mQL a) hu
  have h2 := Int.mul_le_mul_of_nonneg_right (mq_row a ha) hN
  show dotI (lx mQL a) u ≤ _ ∧ _ ≤ dotI (lx mQL a) u
  omega
theorem op_sp (hu : bnd u 100000) {a : Nat} (ha : a < 30) : Int64.ofInt (vP u a) * (nI (xt_z a)).toInt64 / 720 = Int64.ofInt (vQ u a) := by
  have hb := vQ_bnd (by decide) hu ha
  rw [(mq_z a ha).2.1, ← Int64.ofInt_mul, vQ_z ha]
  exact i64_div (by decide) (by decide) (by omega) (by omega)
theorem op_meet (hu : bnd u 100000) (hv : bnd v 100000) :
    ∃ W, bc_to 3 (fun c => Int64.ofInt (vF 3 u c) * wk_sp (fun b => Int64.ofInt (vF 3 v b)) c) W ∧ ∀ j, j < 30 → W j = me_r (fun b => Int64.ofInt (vF 3 u b)) (fun b => Int64.ofInt (vF 3 v b)) j := by
  refine ⟨_, li_to (t := fun c => vP u c * vQ v c) (by decide) (fun c hc => ?_), fun j hj => ?_⟩
  · show Int64.ofInt (vP u c) * (Int64.ofInt (vP v c) * (nI (xt_z c)).toInt64 / 720) = _
    rw [op_sp hv hc, Int64.ofInt_mul]
  · show Int64.ofInt (zsumI (fun c => vP u c * vQ v c * mt_mem 3 c j) 0 30) = _
    unfold me_r
    rw [← zsum_ofInt]
    refine zsum_congr 30 0 (fun c _ hc => ?_)
    have hc : c < 30 := by omega
    show _ = Int64.ofInt (vP u c) * (nI (xt_z c)).toInt64 / 720 * (Int64.ofInt (vP v c) * (nI (xt_z c)).toInt64 / 720) * _ * _
    rw [op_sp hu hc, op_sp hv hc, (mq_z c hc).2.2, cm_lx (by decide), ← Int64.ofInt_mul, ← Int64.ofInt_mul, ← Int64.ofInt_mul, vQ_P hc]
    congr 2
    rw [Int.mul_assoc, Int.mul_comm ((720 / xt_z c : Nat) : Int), ← Int.mul_assoc]
/-- the reference's strip, in whole numbers -/
def spI (u v : Nat → Int) (c : Nat) : Int := zsumI (fun d => vH v d * mt_sI u (lx kkL c) d) 0 30
def srI (u v : Nat → Int) (b : Nat) : Int := zsumI (fun c => spI u v c * lx kkL c b) 0 30
theorem sr_z {e : Nat} (he : e < 30) : vP (srI u v) e * (xt_z e : Int) = zsumI (fun a => vP u a * jI a e (vQ v)) 0 30 := by
  have e1 : vP (srI u v) e = zsumI (fun c => spI u v c * dotI (lx mPL e) (lx kkL c)) 0 30 := dot_sum2 (lx mPL e) (spI u v) (lx kkL)
  have e2 : vP (srI u v) e * (xt_z e : Int) = zsumI (fun c => spI u v c * lx xxL c e) 0 30 * 720 := by
    rw [e1, ← zsumI_mul, ← zsumI_mul]
    refine zsumI_congr 30 0 (fun c _ hc => ?_)
    rw [Int.mul_assoc, show dotI (lx mPL e) (lx kkL c) * (xt_z e : Int) = lx xxL c e * 720 from mk_PK e he c (by omega), Int.mul_assoc]
  have e3 : zsumI (fun c => spI u v c * lx xxL c e) 0 30 = dotI (vH v) (mt_sI u (p3 e)) := by
    have q : dotI (vH v) (mt_sI u (p3 e)) = dotI (vH v) (fun d => zsumI (fun c => lx xxL c e * mt_sI u (lx kkL c) d) 0 30) := dot_congr2 (fun d hd => by
      rw [← mt_sumR]
      exact mt_congr hd (fun _ _ => rfl) (fun i hi => mt_3 e he i hi))
    rw [q, dot_sum2]
    exact zsumI_congr 30 0 (fun c _ _ => Int.mul_comm _ _)
  have e4 : 720 * dotI (vH v) (mt_sI u (p3 e)) = zsumI (fun a => vP u a * jI a e (vQ v)) 0 30 := by
    rw [← dot_mul2, dot_congr2 (fun c hc => mt_expL (u := u) (g := p3 e) hc), dot_sum2]
    refine zsumI_congr 30 0 (fun a _ ha => ?_)
    congr 1
    rw [dot_congr2 (fun c hc => mt_p3 (by omega) he hc), show dotI (vH v) (fun c => jI a e fun j => p3 j c) = _ from dot_jI (vH v) a e]
    unfold jI
    by_cases h : xt_deg a + xt_deg e ≤ 6
    · rw [if_pos h, if_pos h]
      rcases mk_jn a (by omega) e he with z | z
      · omega
      · show zsumI (fun c => dotI (lx mHL c) v * mt_mem 3 (xt_jn a e) c) 0 30 = dotI (lx mQL (xt_jn a e)) v
        rw [dot_sum]
        exact dot_congr (fun l hl => mq_H _ z.2.1 l hl)
    · rw [if_neg h, if_neg h]
  rw [e2, e3, Int.mul_comm, e4]
theorem sr_bnd (hu : bnd u 100000) (hv : bnd v 100000) {e : Nat} (he : e < 30) : vP (srI u v) e * (xt_z e : Int) ≤ 31500000000000000 ∧ -31500000000000000 ≤ vP (srI u v) e * (xt_z e : Int) := by
  rw [sr_z he]
  have h1 := zsumI_abs (fun a => vP u a * jI a e (vQ v)) 30 0
  have h2 : zsumI (fun a => ((vP u a * jI a e (vQ v)).natAbs : Int)) 0 30 ≤ zsumI (fun a => zsumI (fun j => ((lx mPL a j).natAbs : Int)) 0 30 * 630000000000) 0 30 := by
    refine zsumI_mono 30 0 (fun a _ ha => ?_)
    have a1 := dot_bnd (c := lx mPL a) hu
    have a2 : -6300000 ≤ jI a e (vQ v) ∧ jI a e (vQ v) ≤ 6300000 := by
      unfold jI
      by_cases h : xt_deg a + xt_deg e ≤ 6
      · rw [if_pos h]
        rcases mk_jn a (by omega) e he with z | z
        · omega
        · have := vQ_bnd (by decide) hv z.2.1
          omega
      · rw [if_neg h]; omega
    rw [Int.natAbs_mul, Int.natCast_mul]
    have := Int.mul_le_mul (a := ((vP u a).natAbs : Int)) (b := ((jI a e (vQ v)).natAbs : Int)) (c := zsumI (fun j => ((lx mPL a j).natAbs : Int)) 0 30 * 100000) (d := 6300000) (by show ((dotI (lx mPL a) u).natAbs : Int) ≤ _; omega) (by omega) (Int.natCast_nonneg _) (by
      have : 0 ≤ zsumI (fun j => ((lx mPL a j).natAbs : Int)) 0 30 := by
        have q := zsumI_mono (f := fun _ => 0) (g := fun j => ((lx mPL a j).natAbs : Int)) 30 0 (fun i _ _ => Int.natCast_nonneg _)
        rw [zsumI_zero] at q
        exact q
      omega)
    omega
  rw [zsumI_mul] at h2
  have := mp_sum
  omega
theorem sr_R (hu : bnd u 100000) (hv : bnd v 100000) {b : Nat} (hb : b < 30) : srI u v b * 720 ≤ 31500000000000000 ∧ -31500000000000000 ≤ srI u v b * 720 := by
  have e : srI u v b * 720 * 720 = zsumI (fun e => vP (srI u v) e * (xt_z e : Int) * (((720 / xt_z e : Nat) : Int) * mt_mem 3 e b)) 0 30 := by
    rw [Int.mul_comm (srI u v b), vP_exp hb, ← zsumI_mul]
    refine zsumI_congr 30 0 (fun e _ he => ?_)
    have := (mq_z e (by omega)).1
    rw [Int.mul_assoc, Int.mul_assoc, ← Int.mul_assoc (xt_z e : Int), Int.mul_comm (xt_z e : Int), this, Int.mul_comm (720 : Int)]
  have h1 : zsumI (fun e => vP (srI u v) e * (xt_z e : Int) * (((720 / xt_z e : Nat) : Int) * mt_mem 3 e b)) 0 30 ≤ zsumI (fun e => 31500000000000000 * (((720 / xt_z e : Nat) : Int) * mt_mem 3 e b)) 0 30 :=
    zsumI_mono 30 0 (fun e _ he => Int.mul_le_mul_of_nonneg_right (sr_bnd hu hv (by omega)).1 (Int.mul_nonneg (Int.natCast_nonneg _) (mk_pos e (by omega) b hb)))
  have h2 : zsumI (fun e => -31500000000000000 * (((720 / xt_z e : Nat) : Int) * mt_mem 3 e b)) 0 30 ≤ zsumI (fun e => vP (srI u v) e * (xt_z e : Int) * (((720 / xt_z e : Nat) : Int) * mt_mem 3 e b)) 0 30 :=
    zsumI_mono 30 0 (fun e _ he => Int.mul_le_mul_of_nonneg_right (sr_bnd hu hv (by omega)).2 (Int.mul_nonneg (Int.natCast_nonneg _) (mk_pos e (by omega) b hb)))
  rw [zsumI_mulL, mk_h b hb] at h1 h2
  omega
theorem sr_lift (hU : ∀ j, j < 30 → U j = Int64.ofInt (u j)) {b : Nat} (hb : b < 30) : sp_r U (fun b => Int64.ofInt (vF 2 v b)) b = Int64.ofInt (srI u v b) := by
  unfold sp_r srI
  refine zsum_lift (F := sp_m U (fun b => Int64.ofInt (vF 2 v b))) (k := fun c => cm 4 c b) (f := spI u v) (κ := fun c => lx kkL c b) (fun c _ hc => ?_) (fun c _ hc => cm4_lx (by omega) hb)
  unfold sp_m spI
  exact zsum_lift (F := fun d => Int64.ofInt (vF 2 v d)) (k := fun d => mt_s U (fun j => cm 4 c j) d) (f := vH v) (κ := fun d => mt_sI u (lx kkL c) d) (fun d _ _ => rfl) (fun d _ hd => mt_lift hU (fun j hj => cm4_lx (by omega) hj) (by omega))
theorem op_strip (hU : ∀ j, j < 30 → U j = Int64.ofInt (u j)) (hu : bnd u 100000) (hv : bnd v 100000) :
    ∃ W, bc_to 3 (fun c => wk_spr (fun b => Int64.ofInt (vF 3 u b)) (fun b => Int64.ofInt (vF 3 v b)) c / (nI (xt_z c)).toInt64) W ∧ ∀ j, j < 30 → W j / 720 = sp_r U (fun b => Int64.ofInt (vF 2 v b)) j := by
  obtain ⟨W, h1, h2⟩ := op_hold (x := fun c => wk_spr (fun b => Int64.ofInt (vF 3 u b)) (fun b => Int64.ofInt (vF 3 v b)) c / (nI (xt_z c)).toInt64) (R := srI u v) (fun c hc => by
    have hb := sr_bnd hu hv hc
    have hzp := xt_zpos c hc
    have e : wk_spr (fun b => Int64.ofInt (vF 3 u b)) (fun b => Int64.ofInt (vF 3 v b)) c = Int64.ofInt (vP (srI u v) c * (xt_z c : Int)) := by
      have hs := mk_js c hc
      have hjn : ∀ d, d < xp_start (6 - xt_deg c + 1) → xt_jn c d < 30 := fun d hd => by
        have := (mk_je c hc d (by omega)).mp hd
        rcases mk_jn c hc d (by omega) with z | z
        · omega
        · exact z.2.1
      unfold wk_spr
      rw [zsum_lift (F := fun d => Int64.ofInt (vF 3 u d)) (k := fun d => wk_sp (fun b => Int64.ofInt (vF 3 v b)) (xt_jn c d)) (f := vP u) (κ := fun d => jI d c (vQ v)) (fun d _ _ => rfl) (fun d _ hd => by
        rw [jI, if_pos (by have := (mk_je c hc d (by omega)).mp (by omega); omega), mk_jc d (by omega) c hc]
        exact op_sp hv (hjn d (by omega))), sr_z hc, zsumI_part (f := fun d => vP u d * jI d c (vQ v)) (s := 0) (n := xp_start (6 - xt_deg c + 1)) (by omega) (fun d hd q => by
        have := mk_je c hc d hd
        show _ * jI d c (vQ v) = 0
        rw [jI, if_neg (by omega), Int.mul_zero])]
    show wk_spr _ _ c / _ = _
    rw [e, (mq_z c hc).2.1]
    exact i64_div (by omega) (by omega) (by omega) (by omega)) (fun j hj => by have := sr_R hu hv hj; omega)
  exact ⟨W, h1, fun j hj => by rw [h2 j hj, sr_lift hU hj]⟩
end O2
