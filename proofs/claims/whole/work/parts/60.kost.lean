/-! how many fillings there are: by search -/
def fk_posL : List (List (Nat × Nat × Nat)) := [[], [(0, 0, 0)], [(0, 0, 0), (0, 1, 0)], [(0, 0, 0), (1, 0, 0)], [(0, 0, 0), (0, 1, 0), (0, 2, 0)], [(0, 0, 0), (0, 1, 0), (1, 0, 0)], [(0, 0, 0), (1, 0, 0), (2, 0, 1)], [(0, 0, 0), (0, 1, 0), (0, 2, 0), (0, 3, 0)], [(0, 0, 0), (0, 1, 0), (0, 2, 0), (1, 0, 0)], [(0, 0, 0), (0, 1, 0), (1, 0, 0), (1, 1, 1)], [(0, 0, 0), (0, 1, 0), (1, 0, 0), (2, 0, 2)], [(0, 0, 0), (1, 0, 0), (2, 0, 1), (3, 0, 2)], [(0, 0, 0), (0, 1, 0), (0, 2, 0), (0, 3, 0), (0, 4, 0)], [(0, 0, 0), (0, 1, 0), (0, 2, 0), (0, 3, 0), (1, 0, 0)], [(0, 0, 0), (0, 1, 0), (0, 2, 0), (1, 0, 0), (1, 1, 1)], [(0, 0, 0), (0, 1, 0), (0, 2, 0), (1, 0, 0), (2, 0, 3)], [(0, 0, 0), (0, 1, 0), (1, 0, 0), (1, 1, 1), (2, 0, 2)], [(0, 0, 0), (0, 1, 0), (1, 0, 0), (2, 0, 2), (3, 0, 3)], [(0, 0, 0), (1, 0, 0), (2, 0, 1), (3, 0, 2), (4, 0, 3)], [(0, 0, 0), (0, 1, 0), (0, 2, 0), (0, 3, 0), (0, 4, 0), (0, 5, 0)], [(0, 0, 0), (0, 1, 0), (0, 2, 0), (0, 3, 0), (0, 4, 0), (1, 0, 0)], [(0, 0, 0), (0, 1, 0), (0, 2, 0), (0, 3, 0), (1, 0, 0), (1, 1, 1)], [(0, 0, 0), (0, 1, 0), (0, 2, 0), (0, 3, 0), (1, 0, 0), (2, 0, 4)], [(0, 0, 0), (0, 1, 0), (0, 2, 0), (1, 0, 0), (1, 1, 1), (1, 2, 2)], [(0, 0, 0), (0, 1, 0), (0, 2, 0), (1, 0, 0), (1, 1, 1), (2, 0, 3)], [(0, 0, 0), (0, 1, 0), (0, 2, 0), (1, 0, 0), (2, 0, 3), (3, 0, 4)], [(0, 0, 0), (0, 1, 0), (1, 0, 0), (1, 1, 1), (2, 0, 2), (2, 1, 3)], [(0, 0, 0), (0, 1, 0), (1, 0, 0), (1, 1, 1), (2, 0, 2), (3, 0, 4)], [(0, 0, 0), (0, 1, 0), (1, 0, 0), (2, 0, 2), (3, 0, 3), (4, 0, 4)], [(0, 0, 0), (1, 0, 0), (2, 0, 1), (3, 0, 2), (4, 0, 3), (5, 0, 4)]]
def fk_pos (a i : Nat) : Nat × Nat × Nat := (fk_posL.getD a []).getD i (0, 0, 0)
theorem fk_pos_ok : ∀ a, a < 30 → ∀ i, i < xt_deg a → (fk_pos a i).1 < 6 ∧ (fk_pos a i).2.1 < xp_part a (fk_pos a i).1 ∧ fl_st a (fk_pos a i).1 + (fk_pos a i).2.1 = i ∧ (0 < (fk_pos a i).1 → (fk_pos a i).2.2 = fl_ab a (fk_pos a i).1 + (fk_pos a i).2.1 ∧ (fk_pos a i).2.2 < i) := by decide +kernel
def fb_c (β : Nat → Nat) (D b : Nat) : Nat → Nat → Bool
  | _, 0 => true
  | k, m + 1 => if nsum (fun i => if β i = k then 1 else 0) D = xp_part b k then fb_c β D b (k + 1) m else false
def fb_rk (β : Nat → Nat) (a row : Nat) : Nat → Nat → Bool
  | _, 0 => true
  | k, m + 1 => if 0 < k ∧ β (fl_st a row + k) < β (fl_st a row + k - 1) then false else if 0 < row ∧ β (fl_st a row + k) ≤ β (fl_ab a row + k) then false else fb_rk β a row (k + 1) m
def fb_r (β : Nat → Nat) (a : Nat) : Nat → Nat → Bool
  | _, 0 => true
  | row, m + 1 => if fb_rk β a row 0 (xp_part a row) then fb_r β a (row + 1) m else false
def fb_is (β : Nat → Nat) (a b : Nat) : Bool := if fb_c β (xt_deg a) b 0 6 then fb_r β a 0 6 else false
theorem fb_c_eq (n w D b : Nat) : ∀ (m k : Nat), fl_c n w D b k m = fb_c (fl_box n w) D b k m
  | 0, _ => rfl
  | m + 1, k => by rw [fl_c, fb_c, fb_c_eq n w D b m (k + 1)]; rfl
theorem fb_rk_eq (n w a row : Nat) : ∀ (m k : Nat), fl_rk n w a row k m = fb_rk (fl_box n w) a row k m
  | 0, _ => rfl
  | m + 1, k => by rw [fl_rk, fb_rk, fb_rk_eq n w a row m (k + 1)]
theorem fb_r_eq (n w a : Nat) : ∀ (m row : Nat), fl_r n w a row m = fb_r (fl_box n w) a row m
  | 0, _ => rfl
  | m + 1, row => by rw [fl_r, fb_r, fb_rk_eq, fb_r_eq n w a m (row + 1)]
theorem fb_is_eq (n w a b : Nat) : fl_is n w a b = fb_is (fl_box n w) a b := by
  rw [fl_is, fb_is, fb_c_eq, fb_r_eq]
theorem fb_rk_at {β : Nat → Nat} {a row : Nat} : ∀ (m k j : Nat), fb_rk β a row k m = true → k ≤ j → j < k + m → ¬ (0 < j ∧ β (fl_st a row + j) < β (fl_st a row + j - 1)) ∧ ¬ (0 < row ∧ β (fl_st a row + j) ≤ β (fl_ab a row + j))
  | 0, k, j, _, h1, h2 => absurd h2 (by omega)
  | m + 1, k, j, h, h1, h2 => by
    rw [fb_rk] at h
    by_cases q1 : 0 < k ∧ β (fl_st a row + k) < β (fl_st a row + k - 1)
    · rw [if_pos q1] at h; cases h
    · rw [if_neg q1] at h
      by_cases q2 : 0 < row ∧ β (fl_st a row + k) ≤ β (fl_ab a row + k)
      · rw [if_pos q2] at h; cases h
      · rw [if_neg q2] at h
        by_cases e : j = k
        · subst e; exact ⟨q1, q2⟩
        · exact fb_rk_at m (k + 1) j h (by omega) (by omega)
theorem fb_r_at {β : Nat → Nat} {a : Nat} : ∀ (m row j : Nat), fb_r β a row m = true → row ≤ j → j < row + m → fb_rk β a j 0 (xp_part a j) = true
  | 0, row, j, _, h1, h2 => absurd h2 (by omega)
  | m + 1, row, j, h, h1, h2 => by
    rw [fb_r] at h
    cases q : fb_rk β a row 0 (xp_part a row) with
    | false => rw [q] at h; cases h
    | true =>
      rw [q] at h
      by_cases e : j = row
      · subst e; exact q
      · exact fb_r_at m (row + 1) j h (by omega) (by omega)
/-- in a good filling every box is as the one on its left and the one above want it -/
theorem fb_box {β : Nat → Nat} {a b i : Nat} (ha : a < 30) (hi : i < xt_deg a) (h : fb_is β a b = true) : ((fk_pos a i).2.1 = 0 ∨ β (i - 1) ≤ β i) ∧ ((fk_pos a i).1 = 0 ∨ β (fk_pos a i).2.2 < β i) := by
  obtain ⟨p1, p2, p3, p4⟩ := fk_pos_ok a ha i hi
  rw [fb_is] at h
  cases q : fb_c β (xt_deg a) b 0 6 with
  | false => rw [q] at h; cases h
  | true =>
    rw [q] at h
    have h1 := fb_r_at 6 0 (fk_pos a i).1 h (Nat.zero_le _) (by omega)
    obtain ⟨h2, h3⟩ := fb_rk_at _ 0 (fk_pos a i).2.1 h1 (Nat.zero_le _) (by omega)
    rw [p3] at h2 h3
    constructor
    · by_cases z : (fk_pos a i).2.1 = 0
      · exact Or.inl z
      · refine Or.inr ?_
        have : ¬ β i < β (i - 1) := fun y => h2 ⟨by omega, y⟩
        omega
    · by_cases z : (fk_pos a i).1 = 0
      · exact Or.inl z
      · refine Or.inr ?_
        have p5 := p4 (by omega)
        have : ¬ β i ≤ β (fl_ab a (fk_pos a i).1 + (fk_pos a i).2.1) := fun y => h3 ⟨by omega, y⟩
        rw [p5.1]
        omega
def fk_cons (v : Nat) (β : Nat → Nat) : Nat → Nat
  | 0 => v
  | i + 1 => β i
theorem fl_left_cons {n v w : Nat} (hv : v < n) : ∀ i, fl_left n (v + n * w) (i + 1) = fl_left n w i
  | 0 => by
    show (v + n * w) / n = w
    rw [Nat.add_mul_div_left _ _ (by omega), Nat.div_eq_of_lt hv, Nat.zero_add]
  | i + 1 => by
    show fl_left n (v + n * w) (i + 1) / n = fl_left n w i / n
    rw [fl_left_cons hv i]
theorem fl_box_cons {n v w : Nat} (hv : v < n) : fl_box n (v + n * w) = fk_cons v (fl_box n w) := by
  funext i
  cases i with
  | zero =>
    show (v + n * w) % n = v
    rw [Nat.add_mul_mod_self_left, Nat.mod_eq_of_lt hv]
  | succ i =>
    show fl_left n (v + n * w) (i + 1) % n = fl_left n w i % n
    rw [fl_left_cons hv i]
theorem nsum_congr {f g : Nat → Nat} : ∀ (m : Nat), (∀ i, i < m → f i = g i) → nsum f m = nsum g m
  | 0, _ => rfl
  | m + 1, h => by rw [nsum, nsum, nsum_congr m (fun i hi => h i (by omega)), h m (by omega)]
theorem nsum_zero : ∀ (m : Nat), nsum (fun _ => 0) m = 0
  | 0 => rfl
  | m + 1 => by rw [nsum, nsum_zero m]
theorem nsum_add (f g : Nat → Nat) : ∀ (m : Nat), nsum (fun i => f i + g i) m = nsum f m + nsum g m
  | 0 => rfl
  | m + 1 => by rw [nsum, nsum, nsum, nsum_add f g m]; omega
theorem nsum_split (f : Nat → Nat) (p : Nat) : ∀ (m : Nat), nsum f (p + m) = nsum f p + nsum (fun i => f (p + i)) m
  | 0 => rfl
  | m + 1 => by rw [← Nat.add_assoc, nsum, nsum_split f p m, nsum]; omega
theorem nsum_swap (f : Nat → Nat → Nat) (n : Nat) : ∀ (m : Nat), nsum (fun i => nsum (fun j => f i j) n) m = nsum (fun j => nsum (fun i => f i j) m) n
  | 0 => by
    show 0 = nsum (fun j => 0) n
    rw [nsum_zero]
  | m + 1 => by
    rw [nsum, nsum_swap f n m]
    show nsum _ n + nsum _ n = nsum (fun j => nsum (fun i => f i j) m + f m j) n
    rw [nsum_add]
theorem nsum_blocks (f : Nat → Nat) (n : Nat) : ∀ (p : Nat), nsum f (p * n) = nsum (fun w => nsum (fun v => f (v + n * w)) n) p
  | 0 => by rw [Nat.zero_mul]; rfl
  | p + 1 => by
    rw [Nat.succ_mul, nsum_split, nsum_blocks f n p, nsum]
    congr 1
    refine nsum_congr n (fun i _ => ?_)
    rw [Nat.mul_comm, Nat.add_comm]
theorem fk_digit (n : Nat) (Q : (Nat → Nat) → Nat) (D : Nat) : nsum (fun w => Q (fl_box n w)) (fl_pw n (D + 1)) = nsum (fun v => nsum (fun w => Q (fk_cons v (fl_box n w))) (fl_pw n D)) n := by
  rw [fl_pw, nsum_blocks, nsum_swap]
  refine nsum_congr n (fun v hv => nsum_congr _ (fun w _ => ?_))
  rw [fl_box_cons hv]
def fk_app (pre : List Nat) (β : Nat → Nat) : Nat → Nat := fun i => if i < pre.length then pre.getD i 0 else β (i - pre.length)
theorem fk_app_cons (pre : List Nat) (v : Nat) (β : Nat → Nat) : fk_app pre (fk_cons v β) = fk_app (pre ++ [v]) β := by
  funext i
  unfold fk_app
  rw [List.length_append, List.length_singleton]
  by_cases h : i < pre.length
  · rw [if_pos h, if_pos (by omega), List.getD_eq_getElem?_getD, List.getD_eq_getElem?_getD, List.getElem?_append_left h]
  · rw [if_neg h]
    by_cases e : i = pre.length
    · subst e
      rw [if_pos (by omega), Nat.sub_self, List.getD_eq_getElem?_getD, List.getElem?_append_right (Nat.le_refl _), Nat.sub_self]
      rfl
    · rw [if_neg (by omega), show i - pre.length = (i - (pre.length + 1)) + 1 by omega]
      rfl
def fk_ct (pre : List Nat) (v : Nat) : Nat := nsum (fun i => if pre.getD i 0 = v then 1 else 0) pre.length
theorem fb_c_at {β : Nat → Nat} {D b : Nat} : ∀ (m k j : Nat), fb_c β D b k m = true → k ≤ j → j < k + m → nsum (fun i => if β i = j then 1 else 0) D = xp_part b j
  | 0, k, j, _, h1, h2 => absurd h2 (by omega)
  | m + 1, k, j, h, h1, h2 => by
    rw [fb_c] at h
    by_cases q : nsum (fun i => if β i = k then 1 else 0) D = xp_part b k
    · rw [if_pos q] at h
      by_cases e : j = k
      · subst e; exact q
      · exact fb_c_at m (k + 1) j h (by omega) (by omega)
    · rw [if_neg q] at h; cases h
def fk_ok (a b : Nat) (pre : List Nat) (v : Nat) : Bool := Nat.blt (fk_ct pre v) (xp_part b v) && (((fk_pos a pre.length).2.1 == 0 || Nat.ble (pre.getD (pre.length - 1) 0) v) && ((fk_pos a pre.length).1 == 0 || Nat.blt (pre.getD (fk_pos a pre.length).2.2 0) v))
def fk_dfs (n a b : Nat) : Nat → List Nat → Nat
  | 0, pre => fl_n (fb_is (fun i => pre.getD i 0) a b)
  | D + 1, pre => nsum (fun v => if fk_ok a b pre v then fk_dfs n a b D (pre ++ [v]) else 0) n
theorem fb_c_congr {β γ : Nat → Nat} {D b : Nat} (h : ∀ i, i < D → β i = γ i) : ∀ (m k : Nat), fb_c β D b k m = fb_c γ D b k m
  | 0, _ => rfl
  | m + 1, k => by
    rw [fb_c, fb_c, fb_c_congr h m (k + 1), nsum_congr D (fun i hi => by rw [h i hi])]
theorem fb_rk_congr {β γ : Nat → Nat} {a row : Nat} (h : ∀ i, i < xt_deg a → β i = γ i) (ha : a < 30) (hr : row < 6) : ∀ (m k : Nat), k + m ≤ xp_part a row → fb_rk β a row k m = fb_rk γ a row k m
  | 0, _, _ => rfl
  | m + 1, k, hk => by
    have h1 := fl_st_d a ha row hr k (by omega)
    rw [fb_rk, fb_rk, fb_rk_congr h ha hr m (k + 1) (by omega), h _ h1.1, h (fl_st a row + k - 1) (by omega)]
    by_cases q : 0 < row
    · rw [h _ (h1.2 q)]
    · simp [q]
theorem fb_r_congr {β γ : Nat → Nat} {a : Nat} (h : ∀ i, i < xt_deg a → β i = γ i) (ha : a < 30) : ∀ (m row : Nat), row + m ≤ 6 → fb_r β a row m = fb_r γ a row m
  | 0, _, _ => rfl
  | m + 1, row, hr => by
    rw [fb_r, fb_r, fb_r_congr h ha m (row + 1) (by omega), fb_rk_congr h ha (by omega) _ 0 (by omega)]
theorem fb_is_congr {β γ : Nat → Nat} {a b : Nat} (h : ∀ i, i < xt_deg a → β i = γ i) (ha : a < 30) : fb_is β a b = fb_is γ a b := by
  rw [fb_is, fb_is, fb_c_congr h, fb_r_congr h ha 6 0 (by omega)]
theorem fk_dfs_eq {n a b : Nat} (ha : a < 30) (hn6 : n ≤ 6) : ∀ (D : Nat) (pre : List Nat), pre.length + D = xt_deg a → nsum (fun w => fl_n (fb_is (fk_app pre (fl_box n w)) a b)) (fl_pw n D) = fk_dfs n a b D pre
  | 0, pre, h => by
    show 0 + fl_n _ = _
    rw [Nat.zero_add, fk_dfs, fb_is_congr (γ := fun i => pre.getD i 0) (fun i hi => ?_) ha]
    unfold fk_app
    rw [if_pos (by omega)]
  | D + 1, pre, h => by
    rw [fk_digit n (fun β => fl_n (fb_is (fk_app pre β) a b)) D, fk_dfs]
    refine nsum_congr n (fun v hv => ?_)
    cases q : fk_ok a b pre v with
    | true =>
      rw [if_pos rfl, ← fk_dfs_eq ha hn6 D (pre ++ [v]) (by rw [List.length_append, List.length_singleton]; omega)]
      exact nsum_congr _ (fun w _ => by rw [fk_app_cons])
    | false =>
      rw [if_neg (by decide), ← nsum_zero (fl_pw n D)]
      refine nsum_congr _ (fun w _ => ?_)
      cases z : fb_is (fk_app pre (fk_cons v (fl_box n w))) a b with
      | false => rfl
      | true =>
        exfalso
        have hlt : pre.length < xt_deg a := by omega
        obtain ⟨b1, b2⟩ := fb_box ha hlt z
        obtain ⟨p1, p2, p3, p4⟩ := fk_pos_ok a ha pre.length hlt
        have e1 : fk_app pre (fk_cons v (fl_box n w)) pre.length = v := by
          unfold fk_app
          rw [if_neg (by omega), Nat.sub_self]; rfl
        have e2 : ∀ i, i < pre.length → fk_app pre (fk_cons v (fl_box n w)) i = pre.getD i 0 := fun i hi => by
          unfold fk_app
          rw [if_pos hi]
        rw [e1] at b1 b2
        have hct : fk_ct pre v < xp_part b v := by
          have hc : nsum (fun i => if fk_app pre (fk_cons v (fl_box n w)) i = v then 1 else 0) (xt_deg a) = xp_part b v := by
            rw [fb_is] at z
            cases y : fb_c (fk_app pre (fk_cons v (fl_box n w))) (xt_deg a) b 0 6 with
            | false => rw [y] at z; cases z
            | true => exact fb_c_at 6 0 v y (Nat.zero_le _) (by omega)
          rw [show xt_deg a = (pre.length + 1) + (xt_deg a - (pre.length + 1)) by omega, nsum_split, nsum, e1, if_pos rfl, nsum_congr (g := fun i => if pre.getD i 0 = v then 1 else 0) pre.length (fun i hi => by rw [e2 i hi])] at hc
          rw [← hc]
          show fk_ct pre v < fk_ct pre v + 1 + _
          omega
        have : fk_ok a b pre v = true := by
          unfold fk_ok
          rw [Bool.and_eq_true, Bool.and_eq_true, Bool.or_eq_true, Bool.or_eq_true]
          refine ⟨Nat.blt_eq.mpr hct, ?_, ?_⟩
          · rcases b1 with b1 | b1
            · exact Or.inl (beq_iff_eq.mpr b1)
            · by_cases hp : pre.length = 0
              · exact Or.inl (beq_iff_eq.mpr (by omega))
              · rw [e2 _ (by omega)] at b1
                exact Or.inr (Nat.ble_eq.mpr b1)
          · rcases b2 with b2 | b2
            · exact Or.inl (beq_iff_eq.mpr b2)
            · by_cases hp : (fk_pos a pre.length).1 = 0
              · exact Or.inl (beq_iff_eq.mpr hp)
              · have p5 := p4 (by omega)
                rw [e2 _ p5.2] at b2
                exact Or.inr (Nat.blt_eq.mpr b2)
        rw [this] at q
        cases q
theorem fk_all : ∀ a, a < 30 → ∀ b, b < 30 → (if xt_deg a = xt_deg b then fk_dfs (xt_len b) a b (xt_deg a) [] else 0) = xt_kost (a * 30 + b) := by decide +kernel
theorem fl_cnt_kost {a b : Nat} (ha : a < 30) (hb : b < 30) : fl_cnt a b = xt_kost (a * 30 + b) := by
  rw [← fk_all a ha b hb, fl_cnt]
  by_cases h : xt_deg a = xt_deg b
  · rw [if_pos h, if_pos h, ← fk_dfs_eq ha ((by decide : ∀ b, b < 30 → xt_len b ≤ 6) b hb) (xt_deg a) [] (by simp)]
    refine nsum_congr _ (fun w _ => ?_)
    rw [fb_is_eq]
    rfl
  · rw [if_neg h, if_neg h]
