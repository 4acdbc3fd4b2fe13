/-! the ring of sums up to degree six, by monomials -/
abbrev Lam : Type := {f : Nat → Int // ∀ i, 30 ≤ i → f i = 0}
theorem lm_ext {x y : Lam} (h : ∀ i, i < 30 → x.1 i = y.1 i) : x = y := by
  apply Subtype.ext
  funext i
  by_cases q : i < 30
  · exact h i q
  · rw [x.2 i (by omega), y.2 i (by omega)]
theorem mt_out (f g : Nat → Int) (i : Nat) (h : 30 ≤ i) : mt_sI f g i = 0 := by
  have e : mt_nw i = 0 := by
    unfold mt_nw
    rw [List.getD_eq_getElem?_getD, List.getElem?_eq_none (by rw [show mt_prL.length = 30 by decide +kernel]; exact h)]
    rfl
  unfold mt_sI
  rw [e]
  rfl
theorem mk_u : ∀ c, c < 30 → 0 < mt_nw c ∧ mt_pr c 0 = (0, c) ∧ ∀ w, w < mt_nw c → w = 0 ∨ ¬ (mt_pr c w).1 = 0 := by decide +kernel
theorem mt_Im (k : Int) (u : Nat → Int) {c : Nat} (hc : c < 30) : mt_sI (fun i => if i = 0 then k else 0) u c = k * u c := by
  obtain ⟨h1, h2, h3⟩ := mk_u c hc
  have e := zsumI_one (f := fun w => (if (mt_pr c w).1 = 0 then k else 0) * u (mt_pr c w).2) (b := 0) (mt_nw c) 0 (Nat.le_refl 0) (by omega) (fun w _ hw q => by
    rcases h3 w (by omega) with z | z
    · exact absurd z q
    · show (if (mt_pr c w).1 = 0 then k else 0) * _ = 0
      rw [if_neg z, Int.zero_mul])
  show zsumI (fun w => (if (mt_pr c w).1 = 0 then k else 0) * u (mt_pr c w).2) 0 (mt_nw c) = _
  rw [e]
  show (if (mt_pr c 0).1 = 0 then k else 0) * u (mt_pr c 0).2 = _
  rw [h2]
  show (if (0 : Nat) = 0 then k else 0) * u c = k * u c
  rw [if_pos rfl]
theorem mt_zL (g : Nat → Int) (c : Nat) : mt_sI (fun _ => 0) g c = 0 := by
  unfold mt_sI
  rw [zsumI_congr (g := fun _ => 0) _ 0 (fun w _ _ => Int.zero_mul _), zsumI_zero]
theorem mt_cpp {a b c : Nat} (ha : a < 30) (hb : b < 30) (hc : c < 30) : mt_sI (p3 a) (p3 b) c = mt_sI (p3 b) (p3 a) c := by
  rw [mt_p3 ha hb hc, mt_p3 hb ha hc, jI, jI, Nat.add_comm (xt_deg a) (xt_deg b), mk_jc a ha b hb]
theorem mt_cpu {u : Nat → Int} {b c : Nat} (hb : b < 30) (hc : c < 30) : mt_sI u (p3 b) c = mt_sI (p3 b) u c := by
  have h1 := mt_expL (u := u) (g := p3 b) hc
  have h2 := mt_expR (u := u) (g := p3 b) hc
  have e : zsumI (fun a => vP u a * mt_sI (p3 a) (p3 b) c) 0 30 = zsumI (fun a => vP u a * mt_sI (p3 b) (p3 a) c) 0 30 := zsumI_congr 30 0 (fun a _ ha => by rw [mt_cpp (a := a) (by omega) hb hc])
  rw [e, ← h2] at h1
  omega
theorem mt_com {u v : Nat → Int} {c : Nat} (hc : c < 30) : mt_sI u v c = mt_sI v u c := by
  have h1 := mt_expR (u := v) (g := u) hc
  have h2 := mt_expL (u := v) (g := u) hc
  have e : zsumI (fun a => vP v a * mt_sI u (p3 a) c) 0 30 = zsumI (fun a => vP v a * mt_sI (p3 a) u c) 0 30 := zsumI_congr 30 0 (fun a _ ha => by rw [mt_cpu (b := a) (by omega) hc])
  rw [e, ← h2] at h1
  omega
theorem mk_ja : ∀ a, a < 30 → ∀ b, b < 30 → ∀ c, c < 30 → xt_deg a + xt_deg b + xt_deg c ≤ 6 → xt_jn (xt_jn a b) c = xt_jn a (xt_jn b c) := by decide +kernel
theorem mt_ap1 {a b e c : Nat} (ha : a < 30) (hb : b < 30) (he : e < 30) (hc : c < 30) : mt_sI (mt_sI (p3 a) (p3 b)) (p3 e) c = if xt_deg a + xt_deg b + xt_deg e ≤ 6 then p3 (xt_jn (xt_jn a b) e) c else 0 := by
  rw [mt_congr (f' := fun i => jI a b (fun j => p3 j i)) (g' := p3 e) hc (fun i hi => mt_p3 ha hb hi) (fun _ _ => rfl)]
  by_cases h : xt_deg a + xt_deg b ≤ 6
  · rcases mk_jn a ha b hb with z | z
    · omega
    · have e1 : (fun i => jI a b (fun j => p3 j i)) = p3 (xt_jn a b) := by
        funext i
        show (if xt_deg a + xt_deg b ≤ 6 then _ else _) = _
        rw [if_pos h]
      rw [e1, mt_p3 z.2.1 he hc, jI, z.2.2]
  · have e1 : (fun i => jI a b (fun j => p3 j i)) = fun _ => 0 := by
      funext i
      show (if xt_deg a + xt_deg b ≤ 6 then _ else _) = _
      rw [if_neg h]
    rw [e1, mt_zL, if_neg (by omega)]
theorem mt_app {a b e c : Nat} (ha : a < 30) (hb : b < 30) (he : e < 30) (hc : c < 30) : mt_sI (mt_sI (p3 a) (p3 b)) (p3 e) c = mt_sI (p3 a) (mt_sI (p3 b) (p3 e)) c := by
  rw [mt_com (u := p3 a) (v := mt_sI (p3 b) (p3 e)) hc, mt_ap1 ha hb he hc, mt_ap1 hb he ha hc]
  by_cases h : xt_deg a + xt_deg b + xt_deg e ≤ 6
  · rw [if_pos h, if_pos (by omega), mk_ja a ha b hb e he h]
    rcases mk_jn b hb e he with z | z
    · omega
    · rw [mk_jc a ha _ z.2.1]
  · rw [if_neg h, if_neg (by omega)]
theorem mt_as1 {u : Nat → Int} {b e c : Nat} (hb : b < 30) (he : e < 30) (hc : c < 30) : mt_sI (mt_sI u (p3 b)) (p3 e) c = mt_sI u (mt_sI (p3 b) (p3 e)) c := by
  have h1 := mt_expL (u := u) (g := mt_sI (p3 b) (p3 e)) hc
  have h2 : 720 * mt_sI (mt_sI u (p3 b)) (p3 e) c = zsumI (fun a => vP u a * mt_sI (mt_sI (p3 a) (p3 b)) (p3 e) c) 0 30 := by
    rw [← mt_kL, mt_congr (f' := fun i => zsumI (fun a => vP u a * mt_sI (p3 a) (p3 b) i) 0 30) (g' := p3 e) hc (fun i hi => mt_expL hi) (fun _ _ => rfl), mt_sumL (vP u) (fun a i => mt_sI (p3 a) (p3 b) i)]
  have e1 : zsumI (fun a => vP u a * mt_sI (mt_sI (p3 a) (p3 b)) (p3 e) c) 0 30 = zsumI (fun a => vP u a * mt_sI (p3 a) (mt_sI (p3 b) (p3 e)) c) 0 30 := zsumI_congr 30 0 (fun a _ ha => by rw [mt_app (a := a) (by omega) hb he hc])
  rw [e1, ← h1] at h2
  omega
theorem mt_as2 {u v : Nat → Int} {e c : Nat} (he : e < 30) (hc : c < 30) : mt_sI (mt_sI u v) (p3 e) c = mt_sI u (mt_sI v (p3 e)) c := by
  have h1 : 720 * mt_sI u (mt_sI v (p3 e)) c = zsumI (fun a => vP v a * mt_sI u (mt_sI (p3 a) (p3 e)) c) 0 30 := by
    rw [← mt_kR, mt_congr (f' := u) (g' := fun i => zsumI (fun a => vP v a * mt_sI (p3 a) (p3 e) i) 0 30) hc (fun _ _ => rfl) (fun i hi => mt_expL hi), mt_sumR (vP v) u (fun a i => mt_sI (p3 a) (p3 e) i)]
  have h2 : 720 * mt_sI (mt_sI u v) (p3 e) c = zsumI (fun a => vP v a * mt_sI (mt_sI u (p3 a)) (p3 e) c) 0 30 := by
    rw [← mt_kL, mt_congr (f' := fun i => zsumI (fun a => vP v a * mt_sI u (p3 a) i) 0 30) (g' := p3 e) hc (fun i hi => mt_expR hi) (fun _ _ => rfl), mt_sumL (vP v) (fun a i => mt_sI u (p3 a) i)]
  have e1 : zsumI (fun a => vP v a * mt_sI (mt_sI u (p3 a)) (p3 e) c) 0 30 = zsumI (fun a => vP v a * mt_sI u (mt_sI (p3 a) (p3 e)) c) 0 30 := zsumI_congr 30 0 (fun a _ ha => by rw [mt_as1 (b := a) (by omega) he hc])
  rw [e1, ← h1] at h2
  omega
theorem mt_ass {u v w : Nat → Int} {c : Nat} (hc : c < 30) : mt_sI (mt_sI u v) w c = mt_sI u (mt_sI v w) c := by
  have h1 : 720 * mt_sI u (mt_sI v w) c = zsumI (fun a => vP w a * mt_sI u (mt_sI v (p3 a)) c) 0 30 := by
    rw [← mt_kR, mt_congr (f' := u) (g' := fun i => zsumI (fun a => vP w a * mt_sI v (p3 a) i) 0 30) hc (fun _ _ => rfl) (fun i hi => mt_expR hi), mt_sumR (vP w) u (fun a i => mt_sI v (p3 a) i)]
  have h2 := mt_expR (u := w) (g := mt_sI u v) hc
  have e1 : zsumI (fun a => vP w a * mt_sI (mt_sI u v) (p3 a) c) 0 30 = zsumI (fun a => vP w a * mt_sI u (mt_sI v (p3 a)) c) 0 30 := zsumI_congr 30 0 (fun a _ ha => by rw [mt_as2 (e := a) (by omega) hc])
  rw [e1, ← h1] at h2
  omega
theorem mt_dL (f g h : Nat → Int) (c : Nat) : mt_sI (fun i => f i + g i) h c = mt_sI f h c + mt_sI g h c := by
  unfold mt_sI
  rw [← zsumI_add]
  exact zsumI_congr _ 0 (fun w _ _ => Int.add_mul _ _ _)
theorem mt_dR (f g h : Nat → Int) (c : Nat) : mt_sI h (fun i => f i + g i) c = mt_sI h f c + mt_sI h g c := by
  unfold mt_sI
  rw [← zsumI_add]
  exact zsumI_congr _ 0 (fun w _ _ => Int.mul_add _ _ _)
def lmI (k : Int) : Lam := ⟨fun i => if i = 0 then k else 0, fun i h => if_neg (by omega)⟩
def lmA (x y : Lam) : Lam := ⟨fun i => x.1 i + y.1 i, fun i h => by
  have h1 := x.2 i h
  have h2 := y.2 i h
  dsimp only
  omega⟩
def lmM (x y : Lam) : Lam := ⟨mt_sI x.1 y.1, mt_out x.1 y.1⟩
def lmN (x : Lam) : Lam := ⟨fun i => - x.1 i, fun i h => by
  have h1 := x.2 i h
  dsimp only
  omega⟩
def lmS (x y : Lam) : Lam := ⟨fun i => x.1 i - y.1 i, fun i h => by
  have h1 := x.2 i h
  have h2 := y.2 i h
  dsimp only
  omega⟩
def lmP (x : Lam) : Nat → Lam
  | 0 => lmI 1
  | n + 1 => lmM (lmP x n) x
theorem lmM_I (k : Int) (x : Lam) {i : Nat} (hi : i < 30) : (lmM (lmI k) x).1 i = k * x.1 i := mt_Im k x.1 hi
theorem lmM_c (x y : Lam) : lmM x y = lmM y x := lm_ext (fun _ hi => mt_com hi)
theorem lmI_at (k : Int) (i : Nat) : (lmI k).1 i = if i = 0 then k else 0 := rfl
theorem lmI_s (a b : Int) : lmI (a + b) = lmA (lmI a) (lmI b) := lm_ext (fun i _ => by
  show (if i = 0 then a + b else 0) = (if i = 0 then a else 0) + (if i = 0 then b else 0)
  by_cases q : i = 0
  · simp only [q, if_true]
  · simp only [q, if_false]; rfl)
theorem lmI_n (a : Int) : lmI (-a) = lmN (lmI a) := lm_ext (fun i _ => by
  show (if i = 0 then -a else 0) = -(if i = 0 then a else 0)
  by_cases q : i = 0
  · simp only [q, if_true]
  · simp only [q, if_false]; rfl)
def lmR : Lean.Grind.CommRing Lam where
  add := lmA
  mul := lmM
  natCast := ⟨fun n => lmI (n : Int)⟩
  ofNat := fun n => ⟨lmI (n : Int)⟩
  nsmul := ⟨fun n x => lmM (lmI (n : Int)) x⟩
  npow := ⟨lmP⟩
  neg := lmN
  sub := lmS
  intCast := ⟨lmI⟩
  zsmul := ⟨fun n x => lmM (lmI n) x⟩
  add_zero := fun a => lm_ext (fun i _ => by
    show a.1 i + (if i = 0 then ((0 : Nat) : Int) else 0) = a.1 i
    by_cases q : i = 0
    · rw [if_pos q]; exact Int.add_zero _
    · rw [if_neg q]; exact Int.add_zero _)
  add_comm := fun a b => lm_ext (fun i _ => Int.add_comm _ _)
  add_assoc := fun a b c => lm_ext (fun i _ => Int.add_assoc _ _ _)
  mul_assoc := fun a b c => lm_ext (fun i hi => mt_ass hi)
  mul_one := fun a => (lmM_c a (lmI 1)).trans (lm_ext (fun i hi => (lmM_I 1 a hi).trans (Int.one_mul _)))
  one_mul := fun a => lm_ext (fun i hi => (lmM_I 1 a hi).trans (Int.one_mul _))
  left_distrib := fun a b c => lm_ext (fun i hi => mt_dR b.1 c.1 a.1 i)
  right_distrib := fun a b c => lm_ext (fun i hi => mt_dL a.1 b.1 c.1 i)
  zero_mul := fun a => lm_ext (fun i hi => (lmM_I 0 a hi).trans ((Int.zero_mul _).trans (by
    show (0 : Int) = if i = 0 then 0 else 0
    rw [ite_self])))
  mul_zero := fun a => (lmM_c a (lmI 0)).trans (lm_ext (fun i hi => (lmM_I 0 a hi).trans ((Int.zero_mul _).trans (by
    show (0 : Int) = if i = 0 then 0 else 0
    rw [ite_self]))))
  pow_zero := fun _ => rfl
  pow_succ := fun _ _ => rfl
  ofNat_succ := fun n => lmI_s (n : Int) 1
  ofNat_eq_natCast := fun _ => rfl
  nsmul_eq_natCast_mul := fun _ _ => rfl
  neg_add_cancel := fun a => lm_ext (fun i hi => (Int.add_left_neg _).trans (by
    show (0 : Int) = if i = 0 then 0 else 0
    rw [ite_self]))
  sub_eq_add_neg := fun a b => lm_ext (fun i hi => Int.sub_eq_add_neg)
  neg_zsmul := fun n a => lm_ext (fun i hi => by
    show (lmM (lmI (-n)) a).1 i = -(lmM (lmI n) a).1 i
    rw [lmM_I _ _ hi, lmM_I _ _ hi, Int.neg_mul])
  zsmul_natCast_eq_nsmul := fun _ _ => rfl
  intCast_ofNat := fun _ => rfl
  intCast_neg := fun n => lmI_n n
  mul_comm := fun a b => lmM_c a b
