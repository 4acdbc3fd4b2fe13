/-! each sum has complete sums of its own: what is plugged into comes out whole -/
def strI (v : Nat → Int) (k j : Nat) : Int := zsumI (fun a => if xt_mul a k = some j then v a else 0) 0 30
theorem xt_mul_b (a k J : Nat) (h : xt_mul a k = some J) : J < 30 := by
  have hh : ∀ q ∈ xt_mulL, q.getD 0 < 30 := by decide +kernel
  unfold xt_mul at h
  rw [List.getD_eq_getElem?_getD] at h
  cases hq : xt_mulL[a * 7 + k]? with
  | none => rw [hq] at h; cases h
  | some q =>
    rw [hq] at h
    have h2 := hh q (List.mem_of_getElem? hq)
    have h3 : q = some J := h
    rw [h3] at h2
    exact h2
theorem str_out (v : Nat → Int) (k i : Nat) (h : 30 ≤ i) : strI v k i = 0 := by
  unfold strI
  rw [zsumI_congr (g := fun _ => 0) 30 0 (fun a _ _ => ?_), zsumI_zero]
  by_cases q : xt_mul a k = some i
  · have := xt_mul_b a k i q
    omega
  · rw [if_neg q]
def lmY (v : Nat → Int) (k : Nat) : Lam := ⟨strI v k, str_out v k⟩
theorem str_add (v w : Nat → Int) (k j : Nat) : strI (fun i => v i + w i) k j = strI v k j + strI w k j := by
  unfold strI
  rw [← zsumI_add]
  refine zsumI_congr 30 0 (fun a _ _ => ?_)
  by_cases q : xt_mul a k = some j
  · rw [if_pos q, if_pos q, if_pos q]
  · rw [if_neg q, if_neg q, if_neg q]; rfl
theorem str_neg (v : Nat → Int) (k j : Nat) : strI (fun i => - v i) k j = - strI v k j := by
  have h := str_add v (fun i => - v i) k j
  have e : strI (fun i => v i + - v i) k j = 0 := by
    unfold strI
    rw [zsumI_congr (g := fun _ => 0) 30 0 (fun a _ _ => ?_), zsumI_zero]
    by_cases q : xt_mul a k = some j
    · rw [if_pos q]; exact Int.add_right_neg _
    · rw [if_neg q]
  omega
theorem str_congr {v w : Nat → Int} (h : ∀ i, i < 30 → v i = w i) (k j : Nat) : strI v k j = strI w k j := by
  unfold strI
  exact zsumI_congr 30 0 (fun a _ ha => by rw [h a (by omega)])
theorem str_dlt {i : Nat} (hi : i < 30) (k j : Nat) : strI (dlt i) k j = if xt_mul i k = some j then 1 else 0 := by
  unfold strI
  rw [zsumI_one (f := fun a => if xt_mul a k = some j then dlt i a else 0) (b := i) 30 0 (Nat.zero_le i) (by omega) (fun a _ _ q => by
    show (if xt_mul a k = some j then dlt i a else 0) = 0
    rw [dlt, if_neg (c := i = a) (fun z => q z.symm), ite_self])]
  rw [dlt, if_pos rfl]
section NE
theorem nw_1 {α : Type} [Lean.Grind.CommRing α] (h y : Nat → α) (e1 : h 1 = y 1) : na1 h = y 1 := e1
theorem nw_2 {α : Type} [Lean.Grind.CommRing α] (h y : Nat → α) (n1 : na1 h = y 1) (e2 : 2 * h 2 = y 2 + y 1 * h 1) : na2 h = y 2 := by
  rw [na2, n1]
  grind
theorem nw_3 {α : Type} [Lean.Grind.CommRing α] (h y : Nat → α) (n1 : na1 h = y 1) (n2 : na2 h = y 2) (e : 3 * h 3 = y 3 + (y 1 * h 2 + y 2 * h 1)) : na3 h = y 3 := by
  rw [na3, n1, n2]
  grind
theorem nw_4 {α : Type} [Lean.Grind.CommRing α] (h y : Nat → α) (n1 : na1 h = y 1) (n2 : na2 h = y 2) (n3 : na3 h = y 3) (e : 4 * h 4 = y 4 + (y 1 * h 3 + (y 2 * h 2 + y 3 * h 1))) : na4 h = y 4 := by
  rw [na4, n1, n2, n3]
  grind
theorem nw_5 {α : Type} [Lean.Grind.CommRing α] (h y : Nat → α) (n1 : na1 h = y 1) (n2 : na2 h = y 2) (n3 : na3 h = y 3) (n4 : na4 h = y 4) (e : 5 * h 5 = y 5 + (y 1 * h 4 + (y 2 * h 3 + (y 3 * h 2 + y 4 * h 1)))) : na5 h = y 5 := by
  rw [na5, n1, n2, n3, n4]
  grind
theorem nw_6 {α : Type} [Lean.Grind.CommRing α] (h y : Nat → α) (n1 : na1 h = y 1) (n2 : na2 h = y 2) (n3 : na3 h = y 3) (n4 : na4 h = y 4) (n5 : na5 h = y 5) (e : 6 * h 6 = y 6 + (y 1 * h 5 + (y 2 * h 4 + (y 3 * h 3 + (y 4 * h 2 + y 5 * h 1))))) : na6 h = y 6 := by
  rw [na6, n1, n2, n3, n4, n5]
  grind
def iv1 {α : Type} [Lean.Grind.CommRing α] (h : Nat → α) : α := - h 1
def iv2 {α : Type} [Lean.Grind.CommRing α] (h : Nat → α) : α := - (h 2 + h 1 * iv1 h)
def iv3 {α : Type} [Lean.Grind.CommRing α] (h : Nat → α) : α := - (h 3 + h 1 * iv2 h + h 2 * iv1 h)
def iv4 {α : Type} [Lean.Grind.CommRing α] (h : Nat → α) : α := - (h 4 + h 1 * iv3 h + h 2 * iv2 h + h 3 * iv1 h)
def iv5 {α : Type} [Lean.Grind.CommRing α] (h : Nat → α) : α := - (h 5 + h 1 * iv4 h + h 2 * iv3 h + h 3 * iv2 h + h 4 * iv1 h)
def iv6 {α : Type} [Lean.Grind.CommRing α] (h : Nat → α) : α := - (h 6 + h 1 * iv5 h + h 2 * iv4 h + h 3 * iv3 h + h 4 * iv2 h + h 5 * iv1 h)
def iv {α : Type} [Lean.Grind.CommRing α] (h : Nat → α) (n : Nat) : α := match n with
  | 0 => 1
  | 1 => iv1 h
  | 2 => iv2 h
  | 3 => iv3 h
  | 4 => iv4 h
  | 5 => iv5 h
  | 6 => iv6 h
  | _ => 0
theorem ci_1 {α : Type} [Lean.Grind.CommRing α] (h : Nat → α) : cv h (iv h) 1 = 0 := by
  show h 1 + iv1 h = 0
  rw [iv1]
  grind
theorem ci_2 {α : Type} [Lean.Grind.CommRing α] (h : Nat → α) : cv h (iv h) 2 = 0 := by
  show h 2 + iv2 h + h 1 * iv1 h = 0
  rw [iv2]
  grind
theorem ci_3 {α : Type} [Lean.Grind.CommRing α] (h : Nat → α) : cv h (iv h) 3 = 0 := by
  show h 3 + iv3 h + h 1 * iv2 h + h 2 * iv1 h = 0
  rw [iv3]
  grind
theorem ci_4 {α : Type} [Lean.Grind.CommRing α] (h : Nat → α) : cv h (iv h) 4 = 0 := by
  show h 4 + iv4 h + h 1 * iv3 h + h 2 * iv2 h + h 3 * iv1 h = 0
  rw [iv4]
  grind
theorem ci_5 {α : Type} [Lean.Grind.CommRing α] (h : Nat → α) : cv h (iv h) 5 = 0 := by
  show h 5 + iv5 h + h 1 * iv4 h + h 2 * iv3 h + h 3 * iv2 h + h 4 * iv1 h = 0
  rw [iv5]
  grind
theorem ci_6 {α : Type} [Lean.Grind.CommRing α] (h : Nat → α) : cv h (iv h) 6 = 0 := by
  show h 6 + iv6 h + h 1 * iv5 h + h 2 * iv4 h + h 3 * iv3 h + h 4 * iv2 h + h 5 * iv1 h = 0
  rw [iv6]
  grind
theorem na_0 {α : Type} [Lean.Grind.CommRing α] (f : Nat → α) (f1 : f 1 = 0) (f2 : f 2 = 0) (f3 : f 3 = 0) (f4 : f 4 = 0) (f5 : f 5 = 0) (f6 : f 6 = 0) : na1 f = 0 ∧ na2 f = 0 ∧ na3 f = 0 ∧ na4 f = 0 ∧ na5 f = 0 ∧ na6 f = 0 := by
  have n1 : na1 f = 0 := f1
  have n2 : na2 f = 0 := by rw [na2, f1, f2]; grind
  have n3 : na3 f = 0 := by rw [na3, f1, f2, f3]; grind
  have n4 : na4 f = 0 := by rw [na4, f1, f2, f3, f4]; grind
  have n5 : na5 f = 0 := by rw [na5, f1, f2, f3, f4, f5]; grind
  have n6 : na6 f = 0 := by rw [na6, f1, f2, f3, f4, f5, f6]; grind
  exact ⟨n1, n2, n3, n4, n5, n6⟩
theorem ad_n {α : Type} [Lean.Grind.CommRing α] {x y z : α} (h1 : x = y + z) (h2 : x = 0) : z = - y := by grind
theorem iv_na {α : Type} [Lean.Grind.CommRing α] (h : Nat → α) : na1 (iv h) = - na1 h ∧ na2 (iv h) = - na2 h ∧ na3 (iv h) = - na3 h ∧ na4 (iv h) = - na4 h ∧ na5 (iv h) = - na5 h ∧ na6 (iv h) = - na6 h := by
  obtain ⟨n1, n2, n3, n4, n5, n6⟩ := na_0 (cv h (iv h)) (ci_1 h) (ci_2 h) (ci_3 h) (ci_4 h) (ci_5 h) (ci_6 h)
  exact ⟨ad_n (cv_na1 h (iv h)) n1, ad_n (cv_na2 h (iv h)) n2, ad_n (cv_na3 h (iv h)) n3, ad_n (cv_na4 h (iv h)) n4, ad_n (cv_na5 h (iv h)) n5, ad_n (cv_na6 h (iv h)) n6⟩
end NE
def exH (v : Nat → Int) : Prop := ∃ h : Nat → Lam, @na1 Lam lmR h = lmY v 1 ∧ @na2 Lam lmR h = lmY v 2 ∧ @na3 Lam lmR h = lmY v 3 ∧ @na4 Lam lmR h = lmY v 4 ∧ @na5 Lam lmR h = lmY v 5 ∧ @na6 Lam lmR h = lmY v 6
theorem ex_add {v w : Nat → Int} (h1 : exH v) (h2 : exH w) : exH (fun i => v i + w i) := by
  obtain ⟨h, a1, a2, a3, a4, a5, a6⟩ := h1
  obtain ⟨g, b1, b2, b3, b4, b5, b6⟩ := h2
  have e : ∀ k, lmA (lmY v k) (lmY w k) = lmY (fun i => v i + w i) k := fun k => lm_ext (fun i _ => (str_add v w k i).symm)
  refine ⟨@cv Lam lmR h g, ?_, ?_, ?_, ?_, ?_, ?_⟩
  · rw [@cv_na1 Lam lmR h g, a1, b1]; exact e 1
  · rw [@cv_na2 Lam lmR h g, a2, b2]; exact e 2
  · rw [@cv_na3 Lam lmR h g, a3, b3]; exact e 3
  · rw [@cv_na4 Lam lmR h g, a4, b4]; exact e 4
  · rw [@cv_na5 Lam lmR h g, a5, b5]; exact e 5
  · rw [@cv_na6 Lam lmR h g, a6, b6]; exact e 6
theorem ex_neg {v : Nat → Int} (h1 : exH v) : exH (fun i => - v i) := by
  obtain ⟨h, a1, a2, a3, a4, a5, a6⟩ := h1
  have e : ∀ k, lmN (lmY v k) = lmY (fun i => - v i) k := fun k => lm_ext (fun i _ => (str_neg v k i).symm)
  obtain ⟨b1, b2, b3, b4, b5, b6⟩ := @iv_na Lam lmR h
  refine ⟨@iv Lam lmR h, ?_, ?_, ?_, ?_, ?_, ?_⟩
  · rw [b1, a1]; exact e 1
  · rw [b2, a2]; exact e 2
  · rw [b3, a3]; exact e 3
  · rw [b4, a4]; exact e 4
  · rw [b5, a5]; exact e 5
  · rw [b6, a6]; exact e 6
theorem ex_congr {v w : Nat → Int} (h : ∀ i, i < 30 → v i = w i) (h1 : exH v) : exH w := by
  have e : ∀ k, lmY v k = lmY w k := fun k => lm_ext (fun i _ => str_congr h k i)
  obtain ⟨g, a1, a2, a3, a4, a5, a6⟩ := h1
  exact ⟨g, a1.trans (e 1), a2.trans (e 2), a3.trans (e 3), a4.trans (e 4), a5.trans (e 5), a6.trans (e 6)⟩
def hTL : List (List Int) := [[], [1], [1], [1], [1], [1], [1], [], [0, 1], [0, 0, 1, 1], [0, 0, 0, 0, 1, 1, 1], [0, 0, 0, 0, 0, 0, 0, 1, 1, 1, 1, 1], [0, 0, 0, 0, 0, 0, 0, 0, 0, 0, 0, 0, 1, 1, 1, 1, 1, 1, 1], [0, 0, 0, 0, 0, 0, 0, 0, 0, 0, 0, 0, 0, 0, 0, 0, 0, 0, 0, 1, 1, 1, 1, 1, 1, 1, 1, 1, 1, 1], [], [0, 0, 1], [0, 0, 0, 0, 0, 0, 0, 1, 0, 1], [0, 0, 0, 0, 0, 0, 0, 0, 0, 0, 0, 0, 0, 0, 0, 0, 0, 0, 0, 1, 0, 1, 0, 0, 0, 0, 1], [], [], [], [], [0, 0, 0, 1], [0, 0, 0, 0, 0, 0, 0, 0, 0, 1, 1, 3], [0, 0, 0, 0, 0, 0, 0, 0, 0, 0, 0, 0, 0, 0, 0, 0, 0, 0, 0, 0, 0, 0, 0, 1, 1, 1, 1, 3, 6, 15], [], [], [], [], [0, 0, 0, 0, 1], [0, 0, 0, 0, 0, 0, 0, 0, 0, 0, 0, 0, 0, 0, 0, 0, 0, 0, 0, 1, 0, 0, 0, 1], [], [], [], [], [], [0, 0, 0, 0, 0, 1], [0, 0, 0, 0, 0, 0, 0, 0, 0, 0, 0, 0, 0, 0, 0, 0, 0, 0, 0, 0, 0, 1, 1, 1, 1, 0, 3, 2], [], [], [], [], [], [0, 0, 0, 0, 0, 0, 1], [0, 0, 0, 0, 0, 0, 0, 0, 0, 0, 0, 0, 0, 0, 0, 0, 0, 0, 0, 0, 0, 0, 0, 0, 0, 0, 1, 1, 3, 10], [], [], [], [], [], [0, 0, 0, 0, 0, 0, 0, 1], [], [], [], [], [], [], [0, 0, 0, 0, 0, 0, 0, 0, 1], [], [], [], [], [], [], [0, 0, 0, 0, 0, 0, 0, 0, 0, 1], [], [], [], [], [], [], [0, 0, 0, 0, 0, 0, 0, 0, 0, 0, 1], [], [], [], [], [], [], [0, 0, 0, 0, 0, 0, 0, 0, 0, 0, 0, 1], [], [], [], [], [], [], [0, 0, 0, 0, 0, 0, 0, 0, 0, 0, 0, 0, 1], [], [], [], [], [], [], [0, 0, 0, 0, 0, 0, 0, 0, 0, 0, 0, 0, 0, 1], [], [], [], [], [], [], [0, 0, 0, 0, 0, 0, 0, 0, 0, 0, 0, 0, 0, 0, 1], [], [], [], [], [], [], [0, 0, 0, 0, 0, 0, 0, 0, 0, 0, 0, 0, 0, 0, 0, 1], [], [], [], [], [], [], [0, 0, 0, 0, 0, 0, 0, 0, 0, 0, 0, 0, 0, 0, 0, 0, 1], [], [], [], [], [], [], [0, 0, 0, 0, 0, 0, 0, 0, 0, 0, 0, 0, 0, 0, 0, 0, 0, 1], [], [], [], [], [], [], [0, 0, 0, 0, 0, 0, 0, 0, 0, 0, 0, 0, 0, 0, 0, 0, 0, 0, 1], [], [], [], [], [], [], [0, 0, 0, 0, 0, 0, 0, 0, 0, 0, 0, 0, 0, 0, 0, 0, 0, 0, 0, 1], [], [], [], [], [], [], [0, 0, 0, 0, 0, 0, 0, 0, 0, 0, 0, 0, 0, 0, 0, 0, 0, 0, 0, 0, 1], [], [], [], [], [], [], [0, 0, 0, 0, 0, 0, 0, 0, 0, 0, 0, 0, 0, 0, 0, 0, 0, 0, 0, 0, 0, 1], [], [], [], [], [], [], [0, 0, 0, 0, 0, 0, 0, 0, 0, 0, 0, 0, 0, 0, 0, 0, 0, 0, 0, 0, 0, 0, 1], [], [], [], [], [], [], [0, 0, 0, 0, 0, 0, 0, 0, 0, 0, 0, 0, 0, 0, 0, 0, 0, 0, 0, 0, 0, 0, 0, 1], [], [], [], [], [], [], [0, 0, 0, 0, 0, 0, 0, 0, 0, 0, 0, 0, 0, 0, 0, 0, 0, 0, 0, 0, 0, 0, 0, 0, 1], [], [], [], [], [], [], [0, 0, 0, 0, 0, 0, 0, 0, 0, 0, 0, 0, 0, 0, 0, 0, 0, 0, 0, 0, 0, 0, 0, 0, 0, 1], [], [], [], [], [], [], [0, 0, 0, 0, 0, 0, 0, 0, 0, 0, 0, 0, 0, 0, 0, 0, 0, 0, 0, 0, 0, 0, 0, 0, 0, 0, 1], [], [], [], [], [], [], [0, 0, 0, 0, 0, 0, 0, 0, 0, 0, 0, 0, 0, 0, 0, 0, 0, 0, 0, 0, 0, 0, 0, 0, 0, 0, 0, 1], [], [], [], [], [], [], [0, 0, 0, 0, 0, 0, 0, 0, 0, 0, 0, 0, 0, 0, 0, 0, 0, 0, 0, 0, 0, 0, 0, 0, 0, 0, 0, 0, 1], [], [], [], [], [], [], [0, 0, 0, 0, 0, 0, 0, 0, 0, 0, 0, 0, 0, 0, 0, 0, 0, 0, 0, 0, 0, 0, 0, 0, 0, 0, 0, 0, 0, 1], [], [], [], [], []]
def sm (i j d : Nat) : Int := if xt_mul i j = some d then 1 else 0
theorem hT_hom : ∀ i, i < 30 → ∀ k, k < 7 → ∀ d, d < 30 → xt_deg d = k * xt_deg i ∨ lx hTL (i * 7 + k) d = 0 := by decide +kernel
theorem sm_hom : ∀ i, i < 30 → ∀ k, k < 7 → ∀ d, d < 30 → xt_deg d = k * xt_deg i ∨ sm i k d = 0 := by decide +kernel
theorem hT_newt : ∀ i, i < 30 → ∀ k, k < 6 → ∀ d, d < 30 → xt_deg d = (k + 1) * xt_deg i → ((k + 1 : Nat) : Int) * lx hTL (i * 7 + (k + 1)) d = sm i (k + 1) d + zsumI (fun j => mt_sI (sm i j) (lx hTL (i * 7 + (k + 1 - j))) d) 1 k := by decide +kernel
theorem hT_out : ∀ k, ∀ d, 30 ≤ d → lx hTL k d = 0 := by
  intro k d hd
  have h : ∀ q ∈ hTL, q.length ≤ 30 := by decide +kernel
  unfold lx
  rw [List.getD_eq_getElem?_getD (l := hTL)]
  cases hq : hTL[k]? with
  | none => rfl
  | some q =>
    have := h q (List.mem_of_getElem? hq)
    show q.getD d 0 = 0
    rw [List.getD_eq_getElem?_getD, List.getElem?_eq_none (by omega)]
    rfl
theorem newt {i k d : Nat} (hi : i < 30) (hk : k < 6) (hd : d < 30) : ((k + 1 : Nat) : Int) * lx hTL (i * 7 + (k + 1)) d = sm i (k + 1) d + zsumI (fun j => mt_sI (sm i j) (lx hTL (i * 7 + (k + 1 - j))) d) 1 k := by
  by_cases h : xt_deg d = (k + 1) * xt_deg i
  · exact hT_newt i hi k hk d hd h
  · have e1 := (hT_hom i hi (k + 1) (by omega) d hd).resolve_left h
    have e2 := (sm_hom i hi (k + 1) (by omega) d hd).resolve_left h
    rw [e1, e2, zsumI_congr (g := fun _ => 0) k 1 (fun j j1 j2 => ?_), zsumI_zero]
    · rfl
    · unfold mt_sI
      rw [zsumI_congr (g := fun _ => 0) _ 0 (fun w _ hw => ?_), zsumI_zero]
      have q := mk_pr d hd w (by omega)
      rcases sm_hom i hi j (by omega) _ q.2.1 with z1 | z1
      · rcases hT_hom i hi (k + 1 - j) (by omega) _ q.2.2 with z2 | z2
        · exfalso
          apply h
          rw [← q.1, z1, z2, ← Nat.add_mul, show j + (k + 1 - j) = k + 1 by omega]
        · rw [z2, Int.mul_zero]
      · rw [z1, Int.zero_mul]
theorem ex_dlt {i : Nat} (hi : i < 30) : exH (dlt i) := by
  have hy : ∀ k, (lmY (dlt i) k).1 = sm i k := fun k => funext (fun j => str_dlt hi k j)
  let h : Nat → Lam := fun k => ⟨lx hTL (i * 7 + k), fun d hd => hT_out _ d hd⟩
  have E : ∀ k, k < 6 → ∀ d, d < 30 → (lmM (lmI ((k + 1 : Nat) : Int)) (h (k + 1))).1 d = (lmY (dlt i) (k + 1)).1 d + zsumI (fun j => (lmM (lmY (dlt i) j) (h (k + 1 - j))).1 d) 1 k := fun k hk d hd => by
    rw [lmM_I _ _ hd, hy]
    show _ = _ + zsumI (fun j => mt_sI (lmY (dlt i) j).1 (lx hTL (i * 7 + (k + 1 - j))) d) 1 k
    rw [zsumI_congr (g := fun j => mt_sI (sm i j) (lx hTL (i * 7 + (k + 1 - j))) d) k 1 (fun j _ _ => by rw [hy])]
    exact newt hi hk hd
  have Z : ∀ x : Int, x + 0 = x := Int.add_zero
  have n1 : @na1 Lam lmR h = lmY (dlt i) 1 := @nw_1 Lam lmR h (lmY (dlt i)) (lm_ext (fun d hd => by
    have := E 0 (by decide) d hd
    rw [lmM_I _ _ hd] at this
    simpa [zsumI] using this))
  have n2 : @na2 Lam lmR h = lmY (dlt i) 2 := @nw_2 Lam lmR h (lmY (dlt i)) n1 (lm_ext (fun d hd => by
    have := E 1 (by decide) d hd
    simp only [zsumI, Z] at this
    exact this))
  have n3 : @na3 Lam lmR h = lmY (dlt i) 3 := @nw_3 Lam lmR h (lmY (dlt i)) n1 n2 (lm_ext (fun d hd => by
    have := E 2 (by decide) d hd
    simp only [zsumI, Z] at this
    exact this))
  have n4 : @na4 Lam lmR h = lmY (dlt i) 4 := @nw_4 Lam lmR h (lmY (dlt i)) n1 n2 n3 (lm_ext (fun d hd => by
    have := E 3 (by decide) d hd
    simp only [zsumI, Z] at this
    exact this))
  have n5 : @na5 Lam lmR h = lmY (dlt i) 5 := @nw_5 Lam lmR h (lmY (dlt i)) n1 n2 n3 n4 (lm_ext (fun d hd => by
    have := E 4 (by decide) d hd
    simp only [zsumI, Z] at this
    exact this))
  have n6 : @na6 Lam lmR h = lmY (dlt i) 6 := @nw_6 Lam lmR h (lmY (dlt i)) n1 n2 n3 n4 n5 (lm_ext (fun d hd => by
    have := E 5 (by decide) d hd
    simp only [zsumI, Z] at this
    exact this))
  exact ⟨h, n1, n2, n3, n4, n5, n6⟩
theorem ex_0 : exH (fun _ => 0) := ex_congr (fun i _ => Int.add_right_neg _) (ex_add (ex_dlt (i := 0) (by decide)) (ex_neg (ex_dlt (i := 0) (by decide))))
theorem ex_nat {i : Nat} (hi : i < 30) : ∀ n : Nat, exH (fun j => (n : Int) * dlt i j)
  | 0 => ex_congr (fun j _ => (Int.zero_mul _).symm) ex_0
  | n + 1 => ex_congr (fun j _ => by rw [Int.natCast_add, Int.add_mul]; show _ + _ = _ + 1 * _; rw [Int.one_mul]) (ex_add (ex_nat hi n) (ex_dlt hi))
theorem ex_int {i : Nat} (hi : i < 30) (x : Int) : exH (fun j => x * dlt i j) := by
  rcases Int.le_total 0 x with h | h
  · have := ex_nat hi x.toNat
    rw [Int.toNat_of_nonneg h] at this
    exact this
  · have := ex_neg (ex_nat hi (-x).toNat)
    rw [Int.toNat_of_nonneg (by omega)] at this
    exact ex_congr (fun j _ => by rw [← Int.neg_mul, Int.neg_neg]) this
theorem ex_part (v : Nat → Int) : ∀ n, n ≤ 30 → exH (fun j => if j < n then v j else 0)
  | 0, _ => ex_congr (fun j _ => by rw [if_neg (by omega)]) ex_0
  | n + 1, hn => ex_congr (fun j _ => by
      by_cases q : j = n
      · subst q
        rw [if_neg (by omega), if_pos (by omega), dlt, if_pos rfl, Int.mul_one, Int.zero_add]
      · rw [dlt, if_neg (c := n = j) (fun z => q z.symm), Int.mul_zero, Int.add_zero]
        by_cases z : j < n
        · rw [if_pos z, if_pos (by omega)]
        · rw [if_neg z, if_neg (by omega)]) (ex_add (ex_part v n (by omega)) (ex_int (i := n) (by omega) (v n)))
theorem ex_all (v : Nat → Int) : exH v := ex_congr (fun j hj => by rw [if_pos hj]) (ex_part v 30 (Nat.le_refl 30))
def mpI (v : Nat → Int) (c : Nat) : Nat → Nat → Int
  | 0 => fun j => if j = 0 then 1 else 0
  | i + 1 => fun j => mt_sI (mpI v c i) (strI v (xp_part c i)) j
def lsm (f : Nat → Int) : List (Int × Nat) → Int
  | [] => 0
  | (k, i) :: t => k * f i + lsm f t
theorem lc_val {m : Nat → Lam} {d : Nat} : ∀ (L : List (Int × Nat)), d < 30 → (@lcP Lam lmR m L).1 d = lsm (fun i => (m i).1 d) L
  | [], _ => by
    show (if d = 0 then ((0 : Nat) : Int) else 0) = 0
    by_cases q : d = 0
    · rw [if_pos q]; rfl
    · rw [if_neg q]
  | (k, i) :: t, hd => by
    show (lmM (lmI k) (m i)).1 d + (@lcP Lam lmR m t).1 d = k * (m i).1 d + lsm (fun i => (m i).1 d) t
    rw [lmM_I _ _ hd, lc_val t hd]
def rwL : List (List (Int × Nat)) := [[(1, 0)], [(1, 1)], [(2, 2), (-1, 3)], [(1, 3)], [(3, 4), (-3, 5), (1, 6)], [(2, 5), (-1, 6)], [(1, 6)], [(4, 7), (-4, 8), (-2, 9), (4, 10), (-1, 11)], [(3, 8), (-3, 10), (1, 11)], [(4, 9), (-4, 10), (1, 11)], [(2, 10), (-1, 11)], [(1, 11)], [(5, 12), (-5, 13), (-5, 14), (5, 15), (5, 16), (-5, 17), (1, 18)], [(4, 13), (-4, 15), (-2, 16), (4, 17), (-1, 18)], [(6, 14), (-3, 15), (-6, 16), (5, 17), (-1, 18)], [(3, 15), (-3, 17), (1, 18)], [(4, 16), (-4, 17), (1, 18)], [(2, 17), (-1, 18)], [(1, 18)], [(6, 19), (-6, 20), (-6, 21), (6, 22), (-3, 23), (12, 24), (-6, 25), (2, 26), (-9, 27), (6, 28), (-1, 29)], [(5, 20), (-5, 22), (-5, 24), (5, 25), (5, 27), (-5, 28), (1, 29)], [(8, 21), (-4, 22), (-8, 24), (4, 25), (-4, 26), (10, 27), (-6, 28), (1, 29)], [(4, 22), (-4, 25), (-2, 27), (4, 28), (-1, 29)], [(9, 23), (-18, 24), (6, 25), (9, 27), (-6, 28), (1, 29)], [(6, 24), (-3, 25), (-6, 27), (5, 28), (-1, 29)], [(3, 25), (-3, 28), (1, 29)], [(8, 26), (-12, 27), (6, 28), (-1, 29)], [(4, 27), (-4, 28), (1, 29)], [(2, 28), (-1, 29)], [(1, 29)]]
theorem pm_0 {v : Nat → Int} {h : Nat → Lam} {d : Nat} (hd : d < 30) (n1 : @na1 Lam lmR h = lmY v 1) (n2 : @na2 Lam lmR h = lmY v 2) (n3 : @na3 Lam lmR h = lmY v 3) (n4 : @na4 Lam lmR h = lmY v 4) (n5 : @na5 Lam lmR h = lmY v 5) (n6 : @na6 Lam lmR h = lmY v 6) : mpI v 0 (xt_len 0) d = lsm (fun i => (@hm Lam lmR h i).1 d) (rwL.getD 0 []) := by
  have q := congrArg (fun x : Lam => x.1 d) (@pc_0 Lam lmR h)
  exact q.trans (lc_val _ hd)
theorem pm_1 {v : Nat → Int} {h : Nat → Lam} {d : Nat} (hd : d < 30) (n1 : @na1 Lam lmR h = lmY v 1) (n2 : @na2 Lam lmR h = lmY v 2) (n3 : @na3 Lam lmR h = lmY v 3) (n4 : @na4 Lam lmR h = lmY v 4) (n5 : @na5 Lam lmR h = lmY v 5) (n6 : @na6 Lam lmR h = lmY v 6) : mpI v 1 (xt_len 1) d = lsm (fun i => (@hm Lam lmR h i).1 d) (rwL.getD 1 []) := by
  have q := congrArg (fun x : Lam => x.1 d) (@pc_1 Lam lmR h)
  rw [n1] at q
  exact q.trans (lc_val _ hd)
theorem pm_2 {v : Nat → Int} {h : Nat → Lam} {d : Nat} (hd : d < 30) (n1 : @na1 Lam lmR h = lmY v 1) (n2 : @na2 Lam lmR h = lmY v 2) (n3 : @na3 Lam lmR h = lmY v 3) (n4 : @na4 Lam lmR h = lmY v 4) (n5 : @na5 Lam lmR h = lmY v 5) (n6 : @na6 Lam lmR h = lmY v 6) : mpI v 2 (xt_len 2) d = lsm (fun i => (@hm Lam lmR h i).1 d) (rwL.getD 2 []) := by
  have q := congrArg (fun x : Lam => x.1 d) (@pc_2 Lam lmR h)
  rw [n2] at q
  exact q.trans (lc_val _ hd)
theorem pm_3 {v : Nat → Int} {h : Nat → Lam} {d : Nat} (hd : d < 30) (n1 : @na1 Lam lmR h = lmY v 1) (n2 : @na2 Lam lmR h = lmY v 2) (n3 : @na3 Lam lmR h = lmY v 3) (n4 : @na4 Lam lmR h = lmY v 4) (n5 : @na5 Lam lmR h = lmY v 5) (n6 : @na6 Lam lmR h = lmY v 6) : mpI v 3 (xt_len 3) d = lsm (fun i => (@hm Lam lmR h i).1 d) (rwL.getD 3 []) := by
  have q := congrArg (fun x : Lam => x.1 d) (@pc_3 Lam lmR h)
  rw [n1] at q
  exact q.trans (lc_val _ hd)
theorem pm_4 {v : Nat → Int} {h : Nat → Lam} {d : Nat} (hd : d < 30) (n1 : @na1 Lam lmR h = lmY v 1) (n2 : @na2 Lam lmR h = lmY v 2) (n3 : @na3 Lam lmR h = lmY v 3) (n4 : @na4 Lam lmR h = lmY v 4) (n5 : @na5 Lam lmR h = lmY v 5) (n6 : @na6 Lam lmR h = lmY v 6) : mpI v 4 (xt_len 4) d = lsm (fun i => (@hm Lam lmR h i).1 d) (rwL.getD 4 []) := by
  have q := congrArg (fun x : Lam => x.1 d) (@pc_4 Lam lmR h)
  rw [n3] at q
  exact q.trans (lc_val _ hd)
theorem pm_5 {v : Nat → Int} {h : Nat → Lam} {d : Nat} (hd : d < 30) (n1 : @na1 Lam lmR h = lmY v 1) (n2 : @na2 Lam lmR h = lmY v 2) (n3 : @na3 Lam lmR h = lmY v 3) (n4 : @na4 Lam lmR h = lmY v 4) (n5 : @na5 Lam lmR h = lmY v 5) (n6 : @na6 Lam lmR h = lmY v 6) : mpI v 5 (xt_len 5) d = lsm (fun i => (@hm Lam lmR h i).1 d) (rwL.getD 5 []) := by
  have q := congrArg (fun x : Lam => x.1 d) (@pc_5 Lam lmR h)
  rw [n1, n2] at q
  exact q.trans (lc_val _ hd)
theorem pm_6 {v : Nat → Int} {h : Nat → Lam} {d : Nat} (hd : d < 30) (n1 : @na1 Lam lmR h = lmY v 1) (n2 : @na2 Lam lmR h = lmY v 2) (n3 : @na3 Lam lmR h = lmY v 3) (n4 : @na4 Lam lmR h = lmY v 4) (n5 : @na5 Lam lmR h = lmY v 5) (n6 : @na6 Lam lmR h = lmY v 6) : mpI v 6 (xt_len 6) d = lsm (fun i => (@hm Lam lmR h i).1 d) (rwL.getD 6 []) := by
  have q := congrArg (fun x : Lam => x.1 d) (@pc_6 Lam lmR h)
  rw [n1] at q
  exact q.trans (lc_val _ hd)
theorem pm_7 {v : Nat → Int} {h : Nat → Lam} {d : Nat} (hd : d < 30) (n1 : @na1 Lam lmR h = lmY v 1) (n2 : @na2 Lam lmR h = lmY v 2) (n3 : @na3 Lam lmR h = lmY v 3) (n4 : @na4 Lam lmR h = lmY v 4) (n5 : @na5 Lam lmR h = lmY v 5) (n6 : @na6 Lam lmR h = lmY v 6) : mpI v 7 (xt_len 7) d = lsm (fun i => (@hm Lam lmR h i).1 d) (rwL.getD 7 []) := by
  have q := congrArg (fun x : Lam => x.1 d) (@pc_7 Lam lmR h)
  rw [n4] at q
  exact q.trans (lc_val _ hd)
theorem pm_8 {v : Nat → Int} {h : Nat → Lam} {d : Nat} (hd : d < 30) (n1 : @na1 Lam lmR h = lmY v 1) (n2 : @na2 Lam lmR h = lmY v 2) (n3 : @na3 Lam lmR h = lmY v 3) (n4 : @na4 Lam lmR h = lmY v 4) (n5 : @na5 Lam lmR h = lmY v 5) (n6 : @na6 Lam lmR h = lmY v 6) : mpI v 8 (xt_len 8) d = lsm (fun i => (@hm Lam lmR h i).1 d) (rwL.getD 8 []) := by
  have q := congrArg (fun x : Lam => x.1 d) (@pc_8 Lam lmR h)
  rw [n1, n3] at q
  exact q.trans (lc_val _ hd)
theorem pm_9 {v : Nat → Int} {h : Nat → Lam} {d : Nat} (hd : d < 30) (n1 : @na1 Lam lmR h = lmY v 1) (n2 : @na2 Lam lmR h = lmY v 2) (n3 : @na3 Lam lmR h = lmY v 3) (n4 : @na4 Lam lmR h = lmY v 4) (n5 : @na5 Lam lmR h = lmY v 5) (n6 : @na6 Lam lmR h = lmY v 6) : mpI v 9 (xt_len 9) d = lsm (fun i => (@hm Lam lmR h i).1 d) (rwL.getD 9 []) := by
  have q := congrArg (fun x : Lam => x.1 d) (@pc_9 Lam lmR h)
  rw [n2] at q
  exact q.trans (lc_val _ hd)
theorem pm_10 {v : Nat → Int} {h : Nat → Lam} {d : Nat} (hd : d < 30) (n1 : @na1 Lam lmR h = lmY v 1) (n2 : @na2 Lam lmR h = lmY v 2) (n3 : @na3 Lam lmR h = lmY v 3) (n4 : @na4 Lam lmR h = lmY v 4) (n5 : @na5 Lam lmR h = lmY v 5) (n6 : @na6 Lam lmR h = lmY v 6) : mpI v 10 (xt_len 10) d = lsm (fun i => (@hm Lam lmR h i).1 d) (rwL.getD 10 []) := by
  have q := congrArg (fun x : Lam => x.1 d) (@pc_10 Lam lmR h)
  rw [n1, n2] at q
  exact q.trans (lc_val _ hd)
theorem pm_11 {v : Nat → Int} {h : Nat → Lam} {d : Nat} (hd : d < 30) (n1 : @na1 Lam lmR h = lmY v 1) (n2 : @na2 Lam lmR h = lmY v 2) (n3 : @na3 Lam lmR h = lmY v 3) (n4 : @na4 Lam lmR h = lmY v 4) (n5 : @na5 Lam lmR h = lmY v 5) (n6 : @na6 Lam lmR h = lmY v 6) : mpI v 11 (xt_len 11) d = lsm (fun i => (@hm Lam lmR h i).1 d) (rwL.getD 11 []) := by
  have q := congrArg (fun x : Lam => x.1 d) (@pc_11 Lam lmR h)
  rw [n1] at q
  exact q.trans (lc_val _ hd)
theorem pm_12 {v : Nat → Int} {h : Nat → Lam} {d : Nat} (hd : d < 30) (n1 : @na1 Lam lmR h = lmY v 1) (n2 : @na2 Lam lmR h = lmY v 2) (n3 : @na3 Lam lmR h = lmY v 3) (n4 : @na4 Lam lmR h = lmY v 4) (n5 : @na5 Lam lmR h = lmY v 5) (n6 : @na6 Lam lmR h = lmY v 6) : mpI v 12 (xt_len 12) d = lsm (fun i => (@hm Lam lmR h i).1 d) (rwL.getD 12 []) := by
  have q := congrArg (fun x : Lam => x.1 d) (@pc_12 Lam lmR h)
  rw [n5] at q
  exact q.trans (lc_val _ hd)
theorem pm_13 {v : Nat → Int} {h : Nat → Lam} {d : Nat} (hd : d < 30) (n1 : @na1 Lam lmR h = lmY v 1) (n2 : @na2 Lam lmR h = lmY v 2) (n3 : @na3 Lam lmR h = lmY v 3) (n4 : @na4 Lam lmR h = lmY v 4) (n5 : @na5 Lam lmR h = lmY v 5) (n6 : @na6 Lam lmR h = lmY v 6) : mpI v 13 (xt_len 13) d = lsm (fun i => (@hm Lam lmR h i).1 d) (rwL.getD 13 []) := by
  have q := congrArg (fun x : Lam => x.1 d) (@pc_13 Lam lmR h)
  rw [n1, n4] at q
  exact q.trans (lc_val _ hd)
theorem pm_14 {v : Nat → Int} {h : Nat → Lam} {d : Nat} (hd : d < 30) (n1 : @na1 Lam lmR h = lmY v 1) (n2 : @na2 Lam lmR h = lmY v 2) (n3 : @na3 Lam lmR h = lmY v 3) (n4 : @na4 Lam lmR h = lmY v 4) (n5 : @na5 Lam lmR h = lmY v 5) (n6 : @na6 Lam lmR h = lmY v 6) : mpI v 14 (xt_len 14) d = lsm (fun i => (@hm Lam lmR h i).1 d) (rwL.getD 14 []) := by
  have q := congrArg (fun x : Lam => x.1 d) (@pc_14 Lam lmR h)
  rw [n2, n3] at q
  exact q.trans (lc_val _ hd)
theorem pm_15 {v : Nat → Int} {h : Nat → Lam} {d : Nat} (hd : d < 30) (n1 : @na1 Lam lmR h = lmY v 1) (n2 : @na2 Lam lmR h = lmY v 2) (n3 : @na3 Lam lmR h = lmY v 3) (n4 : @na4 Lam lmR h = lmY v 4) (n5 : @na5 Lam lmR h = lmY v 5) (n6 : @na6 Lam lmR h = lmY v 6) : mpI v 15 (xt_len 15) d = lsm (fun i => (@hm Lam lmR h i).1 d) (rwL.getD 15 []) := by
  have q := congrArg (fun x : Lam => x.1 d) (@pc_15 Lam lmR h)
  rw [n1, n3] at q
  exact q.trans (lc_val _ hd)
theorem pm_16 {v : Nat → Int} {h : Nat → Lam} {d : Nat} (hd : d < 30) (n1 : @na1 Lam lmR h = lmY v 1) (n2 : @na2 Lam lmR h = lmY v 2) (n3 : @na3 Lam lmR h = lmY v 3) (n4 : @na4 Lam lmR h = lmY v 4) (n5 : @na5 Lam lmR h = lmY v 5) (n6 : @na6 Lam lmR h = lmY v 6) : mpI v 16 (xt_len 16) d = lsm (fun i => (@hm Lam lmR h i).1 d) (rwL.getD 16 []) := by
  have q := congrArg (fun x : Lam => x.1 d) (@pc_16 Lam lmR h)
  rw [n1, n2] at q
  exact q.trans (lc_val _ hd)
theorem pm_17 {v : Nat → Int} {h : Nat → Lam} {d : Nat} (hd : d < 30) (n1 : @na1 Lam lmR h = lmY v 1) (n2 : @na2 Lam lmR h = lmY v 2) (n3 : @na3 Lam lmR h = lmY v 3) (n4 : @na4 Lam lmR h = lmY v 4) (n5 : @na5 Lam lmR h = lmY v 5) (n6 : @na6 Lam lmR h = lmY v 6) : mpI v 17 (xt_len 17) d = lsm (fun i => (@hm Lam lmR h i).1 d) (rwL.getD 17 []) := by
  have q := congrArg (fun x : Lam => x.1 d) (@pc_17 Lam lmR h)
  rw [n1, n2] at q
  exact q.trans (lc_val _ hd)
theorem pm_18 {v : Nat → Int} {h : Nat → Lam} {d : Nat} (hd : d < 30) (n1 : @na1 Lam lmR h = lmY v 1) (n2 : @na2 Lam lmR h = lmY v 2) (n3 : @na3 Lam lmR h = lmY v 3) (n4 : @na4 Lam lmR h = lmY v 4) (n5 : @na5 Lam lmR h = lmY v 5) (n6 : @na6 Lam lmR h = lmY v 6) : mpI v 18 (xt_len 18) d = lsm (fun i => (@hm Lam lmR h i).1 d) (rwL.getD 18 []) := by
  have q := congrArg (fun x : Lam => x.1 d) (@pc_18 Lam lmR h)
  rw [n1] at q
  exact q.trans (lc_val _ hd)
theorem pm_19 {v : Nat → Int} {h : Nat → Lam} {d : Nat} (hd : d < 30) (n1 : @na1 Lam lmR h = lmY v 1) (n2 : @na2 Lam lmR h = lmY v 2) (n3 : @na3 Lam lmR h = lmY v 3) (n4 : @na4 Lam lmR h = lmY v 4) (n5 : @na5 Lam lmR h = lmY v 5) (n6 : @na6 Lam lmR h = lmY v 6) : mpI v 19 (xt_len 19) d = lsm (fun i => (@hm Lam lmR h i).1 d) (rwL.getD 19 []) := by
  have q := congrArg (fun x : Lam => x.1 d) (@pc_19 Lam lmR h)
  rw [n6] at q
  exact q.trans (lc_val _ hd)
theorem pm_20 {v : Nat → Int} {h : Nat → Lam} {d : Nat} (hd : d < 30) (n1 : @na1 Lam lmR h = lmY v 1) (n2 : @na2 Lam lmR h = lmY v 2) (n3 : @na3 Lam lmR h = lmY v 3) (n4 : @na4 Lam lmR h = lmY v 4) (n5 : @na5 Lam lmR h = lmY v 5) (n6 : @na6 Lam lmR h = lmY v 6) : mpI v 20 (xt_len 20) d = lsm (fun i => (@hm Lam lmR h i).1 d) (rwL.getD 20 []) := by
  have q := congrArg (fun x : Lam => x.1 d) (@pc_20 Lam lmR h)
  rw [n1, n5] at q
  exact q.trans (lc_val _ hd)
theorem pm_21 {v : Nat → Int} {h : Nat → Lam} {d : Nat} (hd : d < 30) (n1 : @na1 Lam lmR h = lmY v 1) (n2 : @na2 Lam lmR h = lmY v 2) (n3 : @na3 Lam lmR h = lmY v 3) (n4 : @na4 Lam lmR h = lmY v 4) (n5 : @na5 Lam lmR h = lmY v 5) (n6 : @na6 Lam lmR h = lmY v 6) : mpI v 21 (xt_len 21) d = lsm (fun i => (@hm Lam lmR h i).1 d) (rwL.getD 21 []) := by
  have q := congrArg (fun x : Lam => x.1 d) (@pc_21 Lam lmR h)
  rw [n2, n4] at q
  exact q.trans (lc_val _ hd)
theorem pm_22 {v : Nat → Int} {h : Nat → Lam} {d : Nat} (hd : d < 30) (n1 : @na1 Lam lmR h = lmY v 1) (n2 : @na2 Lam lmR h = lmY v 2) (n3 : @na3 Lam lmR h = lmY v 3) (n4 : @na4 Lam lmR h = lmY v 4) (n5 : @na5 Lam lmR h = lmY v 5) (n6 : @na6 Lam lmR h = lmY v 6) : mpI v 22 (xt_len 22) d = lsm (fun i => (@hm Lam lmR h i).1 d) (rwL.getD 22 []) := by
  have q := congrArg (fun x : Lam => x.1 d) (@pc_22 Lam lmR h)
  rw [n1, n4] at q
  exact q.trans (lc_val _ hd)
theorem pm_23 {v : Nat → Int} {h : Nat → Lam} {d : Nat} (hd : d < 30) (n1 : @na1 Lam lmR h = lmY v 1) (n2 : @na2 Lam lmR h = lmY v 2) (n3 : @na3 Lam lmR h = lmY v 3) (n4 : @na4 Lam lmR h = lmY v 4) (n5 : @na5 Lam lmR h = lmY v 5) (n6 : @na6 Lam lmR h = lmY v 6) : mpI v 23 (xt_len 23) d = lsm (fun i => (@hm Lam lmR h i).1 d) (rwL.getD 23 []) := by
  have q := congrArg (fun x : Lam => x.1 d) (@pc_23 Lam lmR h)
  rw [n3] at q
  exact q.trans (lc_val _ hd)
theorem pm_24 {v : Nat → Int} {h : Nat → Lam} {d : Nat} (hd : d < 30) (n1 : @na1 Lam lmR h = lmY v 1) (n2 : @na2 Lam lmR h = lmY v 2) (n3 : @na3 Lam lmR h = lmY v 3) (n4 : @na4 Lam lmR h = lmY v 4) (n5 : @na5 Lam lmR h = lmY v 5) (n6 : @na6 Lam lmR h = lmY v 6) : mpI v 24 (xt_len 24) d = lsm (fun i => (@hm Lam lmR h i).1 d) (rwL.getD 24 []) := by
  have q := congrArg (fun x : Lam => x.1 d) (@pc_24 Lam lmR h)
  rw [n1, n2, n3] at q
  exact q.trans (lc_val _ hd)
theorem pm_25 {v : Nat → Int} {h : Nat → Lam} {d : Nat} (hd : d < 30) (n1 : @na1 Lam lmR h = lmY v 1) (n2 : @na2 Lam lmR h = lmY v 2) (n3 : @na3 Lam lmR h = lmY v 3) (n4 : @na4 Lam lmR h = lmY v 4) (n5 : @na5 Lam lmR h = lmY v 5) (n6 : @na6 Lam lmR h = lmY v 6) : mpI v 25 (xt_len 25) d = lsm (fun i => (@hm Lam lmR h i).1 d) (rwL.getD 25 []) := by
  have q := congrArg (fun x : Lam => x.1 d) (@pc_25 Lam lmR h)
  rw [n1, n3] at q
  exact q.trans (lc_val _ hd)
theorem pm_26 {v : Nat → Int} {h : Nat → Lam} {d : Nat} (hd : d < 30) (n1 : @na1 Lam lmR h = lmY v 1) (n2 : @na2 Lam lmR h = lmY v 2) (n3 : @na3 Lam lmR h = lmY v 3) (n4 : @na4 Lam lmR h = lmY v 4) (n5 : @na5 Lam lmR h = lmY v 5) (n6 : @na6 Lam lmR h = lmY v 6) : mpI v 26 (xt_len 26) d = lsm (fun i => (@hm Lam lmR h i).1 d) (rwL.getD 26 []) := by
  have q := congrArg (fun x : Lam => x.1 d) (@pc_26 Lam lmR h)
  rw [n2] at q
  exact q.trans (lc_val _ hd)
theorem pm_27 {v : Nat → Int} {h : Nat → Lam} {d : Nat} (hd : d < 30) (n1 : @na1 Lam lmR h = lmY v 1) (n2 : @na2 Lam lmR h = lmY v 2) (n3 : @na3 Lam lmR h = lmY v 3) (n4 : @na4 Lam lmR h = lmY v 4) (n5 : @na5 Lam lmR h = lmY v 5) (n6 : @na6 Lam lmR h = lmY v 6) : mpI v 27 (xt_len 27) d = lsm (fun i => (@hm Lam lmR h i).1 d) (rwL.getD 27 []) := by
  have q := congrArg (fun x : Lam => x.1 d) (@pc_27 Lam lmR h)
  rw [n1, n2] at q
  exact q.trans (lc_val _ hd)
theorem pm_28 {v : Nat → Int} {h : Nat → Lam} {d : Nat} (hd : d < 30) (n1 : @na1 Lam lmR h = lmY v 1) (n2 : @na2 Lam lmR h = lmY v 2) (n3 : @na3 Lam lmR h = lmY v 3) (n4 : @na4 Lam lmR h = lmY v 4) (n5 : @na5 Lam lmR h = lmY v 5) (n6 : @na6 Lam lmR h = lmY v 6) : mpI v 28 (xt_len 28) d = lsm (fun i => (@hm Lam lmR h i).1 d) (rwL.getD 28 []) := by
  have q := congrArg (fun x : Lam => x.1 d) (@pc_28 Lam lmR h)
  rw [n1, n2] at q
  exact q.trans (lc_val _ hd)
theorem pm_29 {v : Nat → Int} {h : Nat → Lam} {d : Nat} (hd : d < 30) (n1 : @na1 Lam lmR h = lmY v 1) (n2 : @na2 Lam lmR h = lmY v 2) (n3 : @na3 Lam lmR h = lmY v 3) (n4 : @na4 Lam lmR h = lmY v 4) (n5 : @na5 Lam lmR h = lmY v 5) (n6 : @na6 Lam lmR h = lmY v 6) : mpI v 29 (xt_len 29) d = lsm (fun i => (@hm Lam lmR h i).1 d) (rwL.getD 29 []) := by
  have q := congrArg (fun x : Lam => x.1 d) (@pc_29 Lam lmR h)
  rw [n1] at q
  exact q.trans (lc_val _ hd)
theorem pm_all {v : Nat → Int} {h : Nat → Lam} {d : Nat} (hd : d < 30) (n1 : @na1 Lam lmR h = lmY v 1) (n2 : @na2 Lam lmR h = lmY v 2) (n3 : @na3 Lam lmR h = lmY v 3) (n4 : @na4 Lam lmR h = lmY v 4) (n5 : @na5 Lam lmR h = lmY v 5) (n6 : @na6 Lam lmR h = lmY v 6) : ∀ c, c < 30 → mpI v c (xt_len c) d = lsm (fun i => (@hm Lam lmR h i).1 d) (rwL.getD c [])
  | 0, _ => pm_0 hd n1 n2 n3 n4 n5 n6
  | 1, _ => pm_1 hd n1 n2 n3 n4 n5 n6
  | 2, _ => pm_2 hd n1 n2 n3 n4 n5 n6
  | 3, _ => pm_3 hd n1 n2 n3 n4 n5 n6
  | 4, _ => pm_4 hd n1 n2 n3 n4 n5 n6
  | 5, _ => pm_5 hd n1 n2 n3 n4 n5 n6
  | 6, _ => pm_6 hd n1 n2 n3 n4 n5 n6
  | 7, _ => pm_7 hd n1 n2 n3 n4 n5 n6
  | 8, _ => pm_8 hd n1 n2 n3 n4 n5 n6
  | 9, _ => pm_9 hd n1 n2 n3 n4 n5 n6
  | 10, _ => pm_10 hd n1 n2 n3 n4 n5 n6
  | 11, _ => pm_11 hd n1 n2 n3 n4 n5 n6
  | 12, _ => pm_12 hd n1 n2 n3 n4 n5 n6
  | 13, _ => pm_13 hd n1 n2 n3 n4 n5 n6
  | 14, _ => pm_14 hd n1 n2 n3 n4 n5 n6
  | 15, _ => pm_15 hd n1 n2 n3 n4 n5 n6
  | 16, _ => pm_16 hd n1 n2 n3 n4 n5 n6
  | 17, _ => pm_17 hd n1 n2 n3 n4 n5 n6
  | 18, _ => pm_18 hd n1 n2 n3 n4 n5 n6
  | 19, _ => pm_19 hd n1 n2 n3 n4 n5 n6
  | 20, _ => pm_20 hd n1 n2 n3 n4 n5 n6
  | 21, _ => pm_21 hd n1 n2 n3 n4 n5 n6
  | 22, _ => pm_22 hd n1 n2 n3 n4 n5 n6
  | 23, _ => pm_23 hd n1 n2 n3 n4 n5 n6
  | 24, _ => pm_24 hd n1 n2 n3 n4 n5 n6
  | 25, _ => pm_25 hd n1 n2 n3 n4 n5 n6
  | 26, _ => pm_26 hd n1 n2 n3 n4 n5 n6
  | 27, _ => pm_27 hd n1 n2 n3 n4 n5 n6
  | 28, _ => pm_28 hd n1 n2 n3 n4 n5 n6
  | 29, _ => pm_29 hd n1 n2 n3 n4 n5 n6
  | n + 30, hn => absurd hn (by omega)
def cfL (L : List (Int × Nat)) (i : Nat) : Int := lsm (fun j => if j = i then 1 else 0) L
theorem lsm_cf (f : Nat → Int) : ∀ (L : List (Int × Nat)), (∀ q ∈ L, q.2 < 30) → lsm f L = zsumI (fun i => cfL L i * f i) 0 30
  | [], _ => by
    show 0 = zsumI (fun i => 0 * f i) 0 30
    rw [zsumI_congr (g := fun _ => 0) 30 0 (fun i _ _ => Int.zero_mul _), zsumI_zero]
  | (k, i) :: t, h => by
    have hi : i < 30 := h (k, i) List.mem_cons_self
    have e := lsm_cf f t (fun q hq => h q (List.mem_cons_of_mem _ hq))
    show k * f i + lsm f t = zsumI (fun j => (k * (if i = j then 1 else 0) + cfL t j) * f j) 0 30
    rw [zsumI_congr (g := fun j => k * (if i = j then 1 else 0) * f j + cfL t j * f j) 30 0 (fun j _ _ => Int.add_mul _ _ _), zsumI_add, ← e, zsumI_one (f := fun j => k * (if i = j then 1 else 0) * f j) (b := i) 30 0 (Nat.zero_le i) (by omega) (fun j _ _ q => by
      show k * (if i = j then 1 else 0) * f j = 0
      rw [if_neg (fun z => q z.symm), Int.mul_zero, Int.zero_mul]), if_pos rfl, Int.mul_one]
theorem rw_lt : ∀ c, c < 30 → ∀ q ∈ rwL.getD c [], q.2 < 30 := by decide +kernel
theorem rw_H : ∀ i, i < 30 → ∀ l, l < 30 → zsumI (fun c => lx mPL c l * cfL (rwL.getD c []) i) 0 30 = lx mHL i l * 720 := by decide +kernel
/-- what is plugged into is whole -/
theorem plug_div (u v : Nat → Int) {d : Nat} (hd : d < 30) : ∃ q : Int, zsumI (fun c => vP u c * mpI v c (xt_len c) d) 0 30 = q * 720 := by
  obtain ⟨h, n1, n2, n3, n4, n5, n6⟩ := ex_all v
  refine ⟨zsumI (fun i => vH u i * (@hm Lam lmR h i).1 d) 0 30, ?_⟩
  have e1 : zsumI (fun c => vP u c * mpI v c (xt_len c) d) 0 30 = zsumI (fun c => zsumI (fun i => vP u c * cfL (rwL.getD c []) i * (@hm Lam lmR h i).1 d) 0 30) 0 30 := zsumI_congr 30 0 (fun c _ hc => by
    rw [pm_all hd n1 n2 n3 n4 n5 n6 c (by omega), lsm_cf _ _ (rw_lt c (by omega)), ← zsumI_mulL]
    exact zsumI_congr 30 0 (fun i _ _ => (Int.mul_assoc _ _ _).symm))
  rw [e1, zsumI_swap, ← zsumI_mul]
  refine zsumI_congr 30 0 (fun i _ hi => ?_)
  rw [zsumI_mul]
  have e2 : zsumI (fun c => vP u c * cfL (rwL.getD c []) i) 0 30 = vH u i * 720 := by
    show zsumI (fun c => dotI (lx mPL c) u * cfL (rwL.getD c []) i) 0 30 = dotI (lx mHL i) u * 720
    rw [dot_sum, ← dot_mul]
    exact dot_congr (fun l hl => rw_H i (by omega) l hl)
  rw [e2, Int.mul_assoc, Int.mul_assoc, Int.mul_comm 720]
