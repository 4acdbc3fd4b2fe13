/-! power sums by complete sums, in any commutative ring -/
def na1 {α : Type} [Lean.Grind.CommRing α] (h : Nat → α) : α := h 1
def na2 {α : Type} [Lean.Grind.CommRing α] (h : Nat → α) : α := 2 * h 2 - na1 h * h 1
def na3 {α : Type} [Lean.Grind.CommRing α] (h : Nat → α) : α := 3 * h 3 - na1 h * h 2 - na2 h * h 1
def na4 {α : Type} [Lean.Grind.CommRing α] (h : Nat → α) : α := 4 * h 4 - na1 h * h 3 - na2 h * h 2 - na3 h * h 1
def na5 {α : Type} [Lean.Grind.CommRing α] (h : Nat → α) : α := 5 * h 5 - na1 h * h 4 - na2 h * h 3 - na3 h * h 2 - na4 h * h 1
def na6 {α : Type} [Lean.Grind.CommRing α] (h : Nat → α) : α := 6 * h 6 - na1 h * h 5 - na2 h * h 4 - na3 h * h 3 - na4 h * h 2 - na5 h * h 1
def cv {α : Type} [Lean.Grind.CommRing α] (h g : Nat → α) (n : Nat) : α := match n with
  | 0 => 1
  | 1 => h 1 + g 1
  | 2 => h 2 + g 2 + h 1 * g 1
  | 3 => h 3 + g 3 + h 1 * g 2 + h 2 * g 1
  | 4 => h 4 + g 4 + h 1 * g 3 + h 2 * g 2 + h 3 * g 1
  | 5 => h 5 + g 5 + h 1 * g 4 + h 2 * g 3 + h 3 * g 2 + h 4 * g 1
  | 6 => h 6 + g 6 + h 1 * g 5 + h 2 * g 4 + h 3 * g 3 + h 4 * g 2 + h 5 * g 1
  | _ => 0
theorem cv_na1 {α : Type} [Lean.Grind.CommRing α] (h g : Nat → α) : na1 (cv h g) = na1 h + na1 g := by
  simp only [na1, cv]
theorem cv_na2 {α : Type} [Lean.Grind.CommRing α] (h g : Nat → α) : na2 (cv h g) = na2 h + na2 g := by
  simp only [na1, na2, cv]
  grind
theorem cv_na3 {α : Type} [Lean.Grind.CommRing α] (h g : Nat → α) : na3 (cv h g) = na3 h + na3 g := by
  simp only [na1, na2, na3, cv]
  grind
theorem cv_na4 {α : Type} [Lean.Grind.CommRing α] (h g : Nat → α) : na4 (cv h g) = na4 h + na4 g := by
  simp only [na1, na2, na3, na4, cv]
  grind
theorem cv_na5 {α : Type} [Lean.Grind.CommRing α] (h g : Nat → α) : na5 (cv h g) = na5 h + na5 g := by
  simp only [na1, na2, na3, na4, na5, cv]
  grind
theorem cv_na6 {α : Type} [Lean.Grind.CommRing α] (h g : Nat → α) : na6 (cv h g) = na6 h + na6 g := by
  simp only [na1, na2, na3, na4, na5, na6, cv]
  grind
def hm {α : Type} [Lean.Grind.CommRing α] (h : Nat → α) (i : Nat) : α := match i with
  | 0 => 1
  | 1 => h 1
  | 2 => h 2
  | 3 => h 1 * h 1
  | 4 => h 3
  | 5 => h 2 * h 1
  | 6 => h 1 * h 1 * h 1
  | 7 => h 4
  | 8 => h 3 * h 1
  | 9 => h 2 * h 2
  | 10 => h 2 * h 1 * h 1
  | 11 => h 1 * h 1 * h 1 * h 1
  | 12 => h 5
  | 13 => h 4 * h 1
  | 14 => h 3 * h 2
  | 15 => h 3 * h 1 * h 1
  | 16 => h 2 * h 2 * h 1
  | 17 => h 2 * h 1 * h 1 * h 1
  | 18 => h 1 * h 1 * h 1 * h 1 * h 1
  | 19 => h 6
  | 20 => h 5 * h 1
  | 21 => h 4 * h 2
  | 22 => h 4 * h 1 * h 1
  | 23 => h 3 * h 3
  | 24 => h 3 * h 2 * h 1
  | 25 => h 3 * h 1 * h 1 * h 1
  | 26 => h 2 * h 2 * h 2
  | 27 => h 2 * h 2 * h 1 * h 1
  | 28 => h 2 * h 1 * h 1 * h 1 * h 1
  | 29 => h 1 * h 1 * h 1 * h 1 * h 1 * h 1
  | _ => 0
def lcP {α : Type} [Lean.Grind.CommRing α] (m : Nat → α) : List (Int × Nat) → α
  | [] => 0
  | (k, i) :: t => Lean.Grind.Ring.intCast.intCast k * m i + lcP m t
theorem pc_0 {α : Type} [Lean.Grind.CommRing α] (h : Nat → α) : (1 : α) = lcP (hm h) [(1, 0)] := by
  simp only [lcP, hm]
  grind
theorem pc_1 {α : Type} [Lean.Grind.CommRing α] (h : Nat → α) : ((1 : α) * na1 h) = lcP (hm h) [(1, 1)] := by
  simp only [na1, lcP, hm]
  grind
theorem pc_2 {α : Type} [Lean.Grind.CommRing α] (h : Nat → α) : ((1 : α) * na2 h) = lcP (hm h) [(2, 2), (-1, 3)] := by
  simp only [na1, na2, lcP, hm]
  grind
theorem pc_3 {α : Type} [Lean.Grind.CommRing α] (h : Nat → α) : (((1 : α) * na1 h) * na1 h) = lcP (hm h) [(1, 3)] := by
  simp only [na1, lcP, hm]
  grind
theorem pc_4 {α : Type} [Lean.Grind.CommRing α] (h : Nat → α) : ((1 : α) * na3 h) = lcP (hm h) [(3, 4), (-3, 5), (1, 6)] := by
  simp only [na1, na2, na3, lcP, hm]
  grind
theorem pc_5 {α : Type} [Lean.Grind.CommRing α] (h : Nat → α) : (((1 : α) * na2 h) * na1 h) = lcP (hm h) [(2, 5), (-1, 6)] := by
  simp only [na1, na2, lcP, hm]
  grind
theorem pc_6 {α : Type} [Lean.Grind.CommRing α] (h : Nat → α) : ((((1 : α) * na1 h) * na1 h) * na1 h) = lcP (hm h) [(1, 6)] := by
  simp only [na1, lcP, hm]
  grind
theorem pc_7 {α : Type} [Lean.Grind.CommRing α] (h : Nat → α) : ((1 : α) * na4 h) = lcP (hm h) [(4, 7), (-4, 8), (-2, 9), (4, 10), (-1, 11)] := by
  simp only [na1, na2, na3, na4, lcP, hm]
  grind
theorem pc_8 {α : Type} [Lean.Grind.CommRing α] (h : Nat → α) : (((1 : α) * na3 h) * na1 h) = lcP (hm h) [(3, 8), (-3, 10), (1, 11)] := by
  simp only [na1, na2, na3, lcP, hm]
  grind
theorem pc_9 {α : Type} [Lean.Grind.CommRing α] (h : Nat → α) : (((1 : α) * na2 h) * na2 h) = lcP (hm h) [(4, 9), (-4, 10), (1, 11)] := by
  simp only [na1, na2, lcP, hm]
  grind
theorem pc_10 {α : Type} [Lean.Grind.CommRing α] (h : Nat → α) : ((((1 : α) * na2 h) * na1 h) * na1 h) = lcP (hm h) [(2, 10), (-1, 11)] := by
  simp only [na1, na2, lcP, hm]
  grind
theorem pc_11 {α : Type} [Lean.Grind.CommRing α] (h : Nat → α) : (((((1 : α) * na1 h) * na1 h) * na1 h) * na1 h) = lcP (hm h) [(1, 11)] := by
  simp only [na1, lcP, hm]
  grind
theorem pc_12 {α : Type} [Lean.Grind.CommRing α] (h : Nat → α) : ((1 : α) * na5 h) = lcP (hm h) [(5, 12), (-5, 13), (-5, 14), (5, 15), (5, 16), (-5, 17), (1, 18)] := by
  simp only [na1, na2, na3, na4, na5, lcP, hm]
  grind
theorem pc_13 {α : Type} [Lean.Grind.CommRing α] (h : Nat → α) : (((1 : α) * na4 h) * na1 h) = lcP (hm h) [(4, 13), (-4, 15), (-2, 16), (4, 17), (-1, 18)] := by
  simp only [na1, na2, na3, na4, lcP, hm]
  grind
theorem pc_14 {α : Type} [Lean.Grind.CommRing α] (h : Nat → α) : (((1 : α) * na3 h) * na2 h) = lcP (hm h) [(6, 14), (-3, 15), (-6, 16), (5, 17), (-1, 18)] := by
  simp only [na1, na2, na3, lcP, hm]
  grind
theorem pc_15 {α : Type} [Lean.Grind.CommRing α] (h : Nat → α) : ((((1 : α) * na3 h) * na1 h) * na1 h) = lcP (hm h) [(3, 15), (-3, 17), (1, 18)] := by
  simp only [na1, na2, na3, lcP, hm]
  grind
theorem pc_16 {α : Type} [Lean.Grind.CommRing α] (h : Nat → α) : ((((1 : α) * na2 h) * na2 h) * na1 h) = lcP (hm h) [(4, 16), (-4, 17), (1, 18)] := by
  simp only [na1, na2, lcP, hm]
  grind
theorem pc_17 {α : Type} [Lean.Grind.CommRing α] (h : Nat → α) : (((((1 : α) * na2 h) * na1 h) * na1 h) * na1 h) = lcP (hm h) [(2, 17), (-1, 18)] := by
  simp only [na1, na2, lcP, hm]
  grind
theorem pc_18 {α : Type} [Lean.Grind.CommRing α] (h : Nat → α) : ((((((1 : α) * na1 h) * na1 h) * na1 h) * na1 h) * na1 h) = lcP (hm h) [(1, 18)] := by
  simp only [na1, lcP, hm]
  grind
theorem pc_19 {α : Type} [Lean.Grind.CommRing α] (h : Nat → α) : ((1 : α) * na6 h) = lcP (hm h) [(6, 19), (-6, 20), (-6, 21), (6, 22), (-3, 23), (12, 24), (-6, 25), (2, 26), (-9, 27), (6, 28), (-1, 29)] := by
  simp only [na1, na2, na3, na4, na5, na6, lcP, hm]
  grind
theorem pc_20 {α : Type} [Lean.Grind.CommRing α] (h : Nat → α) : (((1 : α) * na5 h) * na1 h) = lcP (hm h) [(5, 20), (-5, 22), (-5, 24), (5, 25), (5, 27), (-5, 28), (1, 29)] := by
  simp only [na1, na2, na3, na4, na5, lcP, hm]
  grind
theorem pc_21 {α : Type} [Lean.Grind.CommRing α] (h : Nat → α) : (((1 : α) * na4 h) * na2 h) = lcP (hm h) [(8, 21), (-4, 22), (-8, 24), (4, 25), (-4, 26), (10, 27), (-6, 28), (1, 29)] := by
  simp only [na1, na2, na3, na4, lcP, hm]
  grind
theorem pc_22 {α : Type} [Lean.Grind.CommRing α] (h : Nat → α) : ((((1 : α) * na4 h) * na1 h) * na1 h) = lcP (hm h) [(4, 22), (-4, 25), (-2, 27), (4, 28), (-1, 29)] := by
  simp only [na1, na2, na3, na4, lcP, hm]
  grind
theorem pc_23 {α : Type} [Lean.Grind.CommRing α] (h : Nat → α) : (((1 : α) * na3 h) * na3 h) = lcP (hm h) [(9, 23), (-18, 24), (6, 25), (9, 27), (-6, 28), (1, 29)] := by
  simp only [na1, na2, na3, lcP, hm]
  grind
theorem pc_24 {α : Type} [Lean.Grind.CommRing α] (h : Nat → α) : ((((1 : α) * na3 h) * na2 h) * na1 h) = lcP (hm h) [(6, 24), (-3, 25), (-6, 27), (5, 28), (-1, 29)] := by
  simp only [na1, na2, na3, lcP, hm]
  grind
theorem pc_25 {α : Type} [Lean.Grind.CommRing α] (h : Nat → α) : (((((1 : α) * na3 h) * na1 h) * na1 h) * na1 h) = lcP (hm h) [(3, 25), (-3, 28), (1, 29)] := by
  simp only [na1, na2, na3, lcP, hm]
  grind
theorem pc_26 {α : Type} [Lean.Grind.CommRing α] (h : Nat → α) : ((((1 : α) * na2 h) * na2 h) * na2 h) = lcP (hm h) [(8, 26), (-12, 27), (6, 28), (-1, 29)] := by
  simp only [na1, na2, lcP, hm]
  grind
theorem pc_27 {α : Type} [Lean.Grind.CommRing α] (h : Nat → α) : (((((1 : α) * na2 h) * na2 h) * na1 h) * na1 h) = lcP (hm h) [(4, 27), (-4, 28), (1, 29)] := by
  simp only [na1, na2, lcP, hm]
  grind
theorem pc_28 {α : Type} [Lean.Grind.CommRing α] (h : Nat → α) : ((((((1 : α) * na2 h) * na1 h) * na1 h) * na1 h) * na1 h) = lcP (hm h) [(2, 28), (-1, 29)] := by
  simp only [na1, na2, lcP, hm]
  grind
theorem pc_29 {α : Type} [Lean.Grind.CommRing α] (h : Nat → α) : (((((((1 : α) * na1 h) * na1 h) * na1 h) * na1 h) * na1 h) * na1 h) = lcP (hm h) [(1, 29)] := by
  simp only [na1, lcP, hm]
  grind
