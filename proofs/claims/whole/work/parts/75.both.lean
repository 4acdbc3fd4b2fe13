/-! both sides' calls: the same answers, and what holds between them stays -/
/-- the reference's tables -/
def bM (σ : bz_S) : Prop := mz_T σ.2.1 ∧ mz_M σ ∧ fl_F σ
def bI (σ : bz_S) : Prop := pz_T σ.2.1 ∧ bM σ ∧ (∀ s, s < 8 → ∀ j, j < 30 → σ.1 (25 + s) j = σ.1 59 (30 * s + j) ∧ zw (σ.1 (25 + s) j) 100000) ∧ (∀ k, k < 2 → ∀ s, s < 8 → ∀ j, j < 30 → σ.1 (34 + k * 8 + s) j = σ.1 71 (240 * k + (30 * s + j)) ∧ zw (σ.1 (34 + k * 8 + s) j) 100000) ∧ ∀ k, k < 2 → σ.2.1 50 k = σ.2.1 72 k
def bthI (l : Launch) (ad : Nat → Nat) (K : bz_K) (σ : bz_S) (M N : bz_M) (la lb : List (Option Value)) : Prop := ∃ (r : Int32) (σ1 σ2 : bz_S), bz_V l ad K 73 M 6 (some (.int r)) σ1 0 la [] σ ∧ bz_V l ad K 73 N 6 (some (.int r)) σ2 0 lb [] σ1 ∧ bI σ2
def bthL (l : Launch) (ad : Nat → Nat) (K : bz_K) (σ : bz_S) (M N : bz_M) (la lb : List (Option Value)) : Prop := ∃ (r : Int64) (σ1 σ2 : bz_S), bz_V l ad K 73 M 6 (some (.long r)) σ1 0 la [] σ ∧ bz_V l ad K 73 N 6 (some (.long r)) σ2 0 lb [] σ1 ∧ bI σ2
theorem sp_x (N : Nat) (hN : N < 1000) (x : Int32) : (∃ a : Nat, a < N ∧ x = nI a) ∨ (x < 0 ∨ nI N ≤ x) := by
  have h0 : (0 : Int32).toInt = 0 := rfl
  by_cases h1 : x < 0
  · exact Or.inr (Or.inl h1)
  · by_cases h2 : nI N ≤ x
    · exact Or.inr (Or.inr h2)
    · refine Or.inl ⟨x.toInt.toNat, ?_, ?_⟩
      · rw [Int32.le_iff_toInt_le, nI_toInt (by omega)] at h2
        rw [Int32.lt_iff_toInt_lt, h0] at h1
        omega
      · rw [Int32.le_iff_toInt_le, nI_toInt (by omega)] at h2
        rw [Int32.lt_iff_toInt_lt, h0] at h1
        rw [← Int32.toInt_inj, nI_toInt (by omega)]
        omega
theorem zw_1000 (y : Int32) : zw y.toInt64 1000 ↔ (¬ y < -1000 ∧ ¬ nI 1000 < y) := by
  have h1 : (-(1000 : Int64)).toInt = -1000 := by decide
  have h2 : (1000 : Int64).toInt = 1000 := by decide
  have h3 : (-1000 : Int32).toInt = -1000 := by decide
  have h4 : (nI 1000).toInt = 1000 := by decide
  show (¬ y.toInt64 < -1000 ∧ ¬ 1000 < y.toInt64) ↔ _
  rw [Int64.lt_iff_toInt_lt, Int64.lt_iff_toInt_lt, Int32.lt_iff_toInt_lt, Int32.lt_iff_toInt_lt, Int32.toInt_toInt64, h1, h2, h3, h4]
theorem zw_9 (y : Int32) : zw y.toInt64 9 ↔ (¬ y < -9 ∧ ¬ nI 9 < y) := by
  have h1 : (-(9 : Int64)).toInt = -9 := by decide
  have h2 : (9 : Int64).toInt = 9 := by decide
  have h3 : (-9 : Int32).toInt = -9 := by decide
  have h4 : (nI 9).toInt = 9 := by decide
  show (¬ y.toInt64 < -9 ∧ ¬ 9 < y.toInt64) ↔ _
  rw [Int64.lt_iff_toInt_lt, Int64.lt_iff_toInt_lt, Int32.lt_iff_toInt_lt, Int32.lt_iff_toInt_lt, Int32.toInt_toInt64, h1, h2, h3, h4]
theorem zw_int {x : Int64} {b : Int64} {N : Int} (hb : b.toInt = N) (hb2 : (-b).toInt = -N) (h : zw x b) : -N ≤ x.toInt ∧ x.toInt ≤ N := by
  obtain ⟨h1, h2⟩ := h
  rw [Int64.lt_iff_toInt_lt, hb2] at h1
  rw [Int64.lt_iff_toInt_lt, hb] at h2
  omega
theorem dgz_congr {f g : Nat → Int64} : ∀ n, (∀ j, j < n → f j = g j) → dgz f n = dgz g n
  | 0, _ => rfl
  | n + 1, h => by rw [dgz, dgz, h n (by omega), dgz_congr n (fun j hj => h j (by omega))]
theorem xt_deg_lt (i : Nat) : xt_deg i < 7 := by
  by_cases h : i < 30
  · have := xt_deg6 i h
    omega
  · have e : xt_deg i = 0 := by
      unfold xt_deg
      rw [List.getD_eq_getElem?_getD, List.getElem?_eq_none (by rw [show xt_degL.length = 30 from rfl]; omega)]
      rfl
    omega
theorem nI_m6 {n : Nat} (h : n < 7) : ¬ nI n = -6 := by
  intro q
  have h1 : (nI n).toInt = (-6 : Int32).toInt := by rw [q]
  have h2 : (-6 : Int32).toInt = -6 := by decide
  rw [nI_toInt (by omega), h2] at h1
  omega
theorem dgz_neg (f : Nat → Int64) : ∀ n, dgz f n = -6 ↔ dgz f n < 0
  | 0 => by show (-6 : Int32) = -6 ↔ (-6 : Int32) < 0; decide
  | n + 1 => by
    rw [dgz]
    by_cases h : f n = 0
    · rw [if_pos h]; exact dgz_neg f n
    · rw [if_neg h]
      have := xt_deg_lt n
      exact ⟨fun q => absurd q (nI_m6 this), fun q => absurd q (nI_pos (by omega))⟩
theorem bM_same {σ σ1 : bz_S} (h : bM σ) (h1 : σ1.1 58 = σ.1 58) (h2 : σ1.2 = σ.2) : bM σ1 := by
  obtain ⟨a, b, c⟩ := h
  refine ⟨by rw [h2]; exact a, fun B hB x hx y hy => ?_, ?_⟩
  · show σ1.1 58 _ = _
    rw [h1]; exact b B hB x hx y hy
  · rcases c with c | ⟨c, d⟩
    · exact Or.inl (by rw [h2]; exact c)
    · exact Or.inr ⟨by rw [h2]; exact c, fun p q hp hq z => by rw [h1]; exact d p q hp hq z⟩
theorem bI_xr {σ σ1 : bz_S} (h : bI σ) (hx : bz_xr σ σ1) : bI σ1 := by
  obtain ⟨a, b, c, d, e⟩ := h
  obtain ⟨x1, x2⟩ := hx
  refine ⟨by rw [x1]; exact a, bM_same b (x2 58 (by omega) (by omega)) x1, fun s hs j hj => ?_, fun k hk s hs j hj => ?_, fun k hk => by rw [x1]; exact e k hk⟩
  · rw [x2 (25 + s) (by omega) (by omega), x2 59 (by omega) (by omega)]; exact c s hs j hj
  · rw [x2 (34 + k * 8 + s) (by omega) (by omega), x2 71 (by omega) (by omega)]; exact d k hk s hs j hj
theorem pz_same {I J : Nat → Nat → Int32} (h : pz_T I) (e : ∀ k, k < 9 → J k = I k) : pz_T J := by
  obtain ⟨h1, h2, h3, h4, h5, h6, h7, h8⟩ := h
  refine ⟨?_, ?_, ?_, ?_, ?_, ?_, ?_, ?_⟩
  · rw [e 1 (by omega)]; exact h1
  · rw [e 2 (by omega)]; exact h2
  · rw [e 3 (by omega)]; exact h3
  · rw [e 4 (by omega)]; exact h4
  · rw [e 5 (by omega)]; exact h5
  · rw [e 6 (by omega)]; exact h6
  · rw [e 7 (by omega)]; exact h7
  · rw [e 8 (by omega)]; exact h8
theorem mz_same {I J : Nat → Nat → Int32} (h : mz_T I) (e : ∀ k, 55 ≤ k → k < 58 → J k = I k) : mz_T J := by
  obtain ⟨h1, h2, h3⟩ := h
  refine ⟨?_, ?_, ?_⟩
  · rw [e 55 (by omega) (by omega)]; exact h1
  · rw [e 56 (by omega) (by omega)]; exact h2
  · rw [e 57 (by omega) (by omega)]; exact h3
theorem mM_same {σ σ1 : bz_S} (h : mz_M σ) (e : ∀ i, i < 3600 → σ1.1 58 i = σ.1 58 i) : mz_M σ1 := fun B hB x hx y hy => by
  show σ1.1 58 _ = _
  rw [e _ (by omega)]
  exact h B hB x hx y hy
theorem bI_mr {σ σ1 : bz_S} (h : bI σ) (hx : bz_mr σ σ1) : bI σ1 := by
  obtain ⟨a, ⟨b1, b2, -⟩, c, d, e⟩ := h
  obtain ⟨x1, x2, x3, x4⟩ := hx
  refine ⟨pz_same a (fun k hk => x3 k (by omega) (by omega)), ⟨mz_same b1 (fun k h1 h2 => x3 k (by omega) (by omega)), mM_same b2 x2, x4⟩, fun s hs j hj => ?_, fun k hk s hs j hj => ?_, fun k hk => by rw [x3 50 (by omega) (by omega), x3 72 (by omega) (by omega)]; exact e k hk⟩
  · rw [x1 (25 + s) (by omega), x1 59 (by omega)]; exact c s hs j hj
  · rw [x1 (34 + k * 8 + s) (by omega), x1 71 (by omega)]; exact d k hk s hs j hj
theorem bI_km {σ σ1 σ2 : bz_S} {to : Nat} {W R : Nat → Int64} (ht : to < 8) (h : bI σ) (hx : bz_xm σ σ1 to W) (hm : bz_mk σ1 σ2 to R) (e : ∀ j, j < 30 → W j = R j) : bI σ2 := by
  obtain ⟨a, ⟨b1, b2, -⟩, c, d, f⟩ := h
  obtain ⟨x1, x2, x3⟩ := hx
  obtain ⟨m1, m2, m3, m4, m5⟩ := hm
  have hz : zwA W 100000 ↔ zwA R 100000 := ⟨fun q j hj => by rw [← e j hj]; exact q j hj, fun q j hj => by rw [e j hj]; exact q j hj⟩
  have h58 : σ1.1 58 = σ.1 58 := x2 58 (by omega) (by omega) (by omega)
  have h59 : σ1.1 59 = σ.1 59 := x2 59 (by omega) (by omega) (by omega)
  refine ⟨pz_same a (fun k hk => by rw [m3 k (by omega) (by omega), x1]), ⟨mz_same b1 (fun k q1 q2 => by rw [m3 k (by omega) (by omega), x1]), mM_same b2 (fun i hi => by rw [m2 i hi, h58]), m4⟩, fun s hs j hj => ?_, fun k hk s hs j hj => ?_, fun k hk => by rw [m3 50 (by omega) (by omega), m3 72 (by omega) (by omega), x1]; exact f k hk⟩
  · rw [m1 (25 + s) (by omega), m5, h59]
    by_cases q : s = to
    · subst q
      rw [x3 j hj]
      by_cases z : zwA R 100000
      · rw [if_pos (hz.mpr z), if_pos z]
        refine ⟨?_, (hz.mpr z) j hj⟩
        unfold mt_up
        rw [if_pos (by omega), show 30 * s + j - 30 * s = j by omega]
        exact e j hj
      · rw [if_neg (fun y => z (hz.mp y)), if_neg z]
        exact c s hs j hj
    · rw [x2 (25 + s) (by omega) (by omega) (by omega)]
      have g := c s hs j hj
      by_cases z : zwA R 100000
      · rw [if_pos z]
        unfold mt_up
        rw [if_neg (by omega)]
        exact g
      · rw [if_neg z]
        exact g
  · rw [m1 (34 + k * 8 + s) (by omega), m1 71 (by omega), x2 (34 + k * 8 + s) (by omega) (by omega) (by omega), x2 71 (by omega) (by omega) (by omega)]
    exact d k hk s hs j hj
theorem bM_xm {σ σ1 : bz_S} {to : Nat} {W : Nat → Int64} (ht : to < 8) (h : bI σ) (hx : bz_xm σ σ1 to W) : bM σ1 ∧ σ1.1 59 = σ.1 59 := ⟨bM_same h.2.1 (hx.2.1 58 (by omega) (by omega) (by omega)) hx.1, hx.2.1 59 (by omega) (by omega) (by omega)⟩
theorem bM_xr {σ σ1 : bz_S} (h : bI σ) (hx : bz_xr σ σ1) : bM σ1 ∧ σ1.1 59 = σ.1 59 := ⟨(bI_xr h hx).2.1, hx.2 59 (by omega) (by omega)⟩
/-- the weights of a slot, as whole numbers -/
abbrev uI (σ : bz_S) (s j : Nat) : Int := (σ.1 59 (30 * s + j)).toInt
theorem uI_of (σ : bz_S) (s j : Nat) : σ.1 59 (30 * s + j) = Int64.ofInt (uI σ s j) := (Int64.ofInt_toInt _).symm
theorem uI_cl {σ : bz_S} (h : bI σ) {s : Nat} (hs : s < 8) : ∀ j, j < 30 → σ.1 (25 + s) j = Int64.ofInt (uI σ s j) := fun j hj => by rw [(h.2.2.1 s hs j hj).1]; exact uI_of σ s j
theorem uI_b {σ : bz_S} (h : bI σ) {s : Nat} (hs : s < 8) : bnd (uI σ s) 100000 := fun j hj => by
  have := (h.2.2.1 s hs j hj)
  rw [this.1] at this
  exact zw_int (by decide) (by decide) this.2
theorem mE_row : ∀ a, a < 30 → zsumI (fun j => ((lx mEL a j).natAbs : Int)) 0 30 ≤ 100000 := by decide +kernel
theorem mH_row : ∀ a, a < 30 → zsumI (fun j => ((lx mHL a j).natAbs : Int)) 0 30 ≤ 100000 := by decide +kernel
theorem mS_row : ∀ a, a < 30 → zsumI (fun j => ((lx mSL a j).natAbs : Int)) 0 30 ≤ 100000 := by decide +kernel
theorem vF_bnd {u : Nat → Int} (hu : bnd u 100000) {base a : Nat} (hb : base < 5) (ha : a < 30) : -9223372036854775808 < vF base u a ∧ vF base u a < 9223372036854775808 := by
  match base, hb with
  | 0, _ =>
    have := hu a ha
    show _ < u a ∧ u a < _
    omega
  | 1, _ =>
    have h := dot_bnd (c := lx mEL a) hu
    have h2 := mE_row a ha
    show _ < dotI (lx mEL a) u ∧ dotI (lx mEL a) u < _
    omega
  | 2, _ =>
    have h := dot_bnd (c := lx mHL a) hu
    have h2 := mH_row a ha
    show _ < dotI (lx mHL a) u ∧ dotI (lx mHL a) u < _
    omega
  | 3, _ =>
    have h := dot_bnd (c := lx mPL a) hu
    have h2 := mp_row a ha
    show _ < dotI (lx mPL a) u ∧ dotI (lx mPL a) u < _
    omega
  | 4, _ =>
    have h := dot_bnd (c := lx mSL a) hu
    have h2 := mS_row a ha
    show _ < dotI (lx mSL a) u ∧ dotI (lx mSL a) u < _
    omega
theorem bI_image {σ : bz_S} {k : Nat} (hk : k < 2) (h : bI σ) : bI (bz_upI (bz_setJ (bz_upI (im_s σ k 8) 50 k (nI 1)) 71 (mt_up ((bz_upI (im_s σ k 8) 50 k (nI 1)).1 71) (240 * k) ((bz_upI (im_s σ k 8) 50 k (nI 1)).1 59) 240)) 72 k (nI 1)) := by
  obtain ⟨S, hS⟩ : ∃ S, S = bz_upI (bz_setJ (bz_upI (im_s σ k 8) 50 k (nI 1)) 71 (mt_up ((bz_upI (im_s σ k 8) 50 k (nI 1)).1 71) (240 * k) ((bz_upI (im_s σ k 8) 50 k (nI 1)).1 59) 240)) 72 k (nI 1) := ⟨_, rfl⟩
  have I0 : ∀ j, j < 34 + k * 8 ∨ 34 + k * 8 + 8 ≤ j → (im_s σ k 8).1 j = σ.1 j := fun j hj => by
    show (if 34 + k * 8 ≤ j ∧ j < 34 + k * 8 + 8 then _ else σ.1 j) = _
    rw [if_neg (by omega)]
  have E1 : ∀ j, S.1 j = if j = 71 then mt_up ((im_s σ k 8).1 71) (240 * k) ((im_s σ k 8).1 59) 240 else (im_s σ k 8).1 j := by
    subst hS
    intro j
    rfl
  have E2 : ∀ j, S.2.1 j = if j = 72 then upd (σ.2.1 72) k (nI 1) else if j = 50 then upd (σ.2.1 50) k (nI 1) else σ.2.1 j := by
    subst hS
    intro j
    rfl
  have E3 : S.2.2 = σ.2.2 := by subst hS; rfl
  rw [← hS]
  clear hS
  obtain ⟨a, ⟨b1, b2, b3⟩, c, d, e⟩ := h
  have e58 : S.1 58 = σ.1 58 := by rw [E1, if_neg (by decide), I0 58 (by omega)]
  refine ⟨pz_same a (fun j hj => by rw [E2, if_neg (by omega), if_neg (by omega)]), ⟨mz_same b1 (fun j h1 h2 => by rw [E2, if_neg (by omega), if_neg (by omega)]), mM_same b2 (fun i hi => by rw [e58]), ?_⟩, fun s hs j hj => ?_, fun k' hk' s hs j hj => ?_, fun k' hk' => ?_⟩
  · rcases b3 with q | ⟨q1, q2⟩
    · exact Or.inl (by rw [E3]; exact q)
    · exact Or.inr ⟨by rw [E3]; exact q1, fun p q hp hq z => by rw [e58]; exact q2 p q hp hq z⟩
  · rw [E1, E1, if_neg (by omega), if_neg (by decide), I0 _ (by omega), I0 _ (by omega)]
    exact c s hs j hj
  · rw [E1, E1, if_neg (by omega), if_pos rfl, I0 71 (by omega), I0 59 (by omega), mt_up]
    by_cases q : k' = k
    · subst q
      rw [if_pos (by omega), show 240 * k' + (30 * s + j) - 240 * k' = 30 * s + j by omega]
      have e34 : (im_s σ k' 8).1 (34 + k' * 8 + s) j = σ.1 (25 + s) j := by
        show (if 34 + k' * 8 ≤ 34 + k' * 8 + s ∧ 34 + k' * 8 + s < 34 + k' * 8 + 8 then (fun j => if j < 30 then σ.1 (34 + k' * 8 + s - (34 + k' * 8) + 25) j else σ.1 (34 + k' * 8 + s) j) else σ.1 (34 + k' * 8 + s)) j = _
        rw [if_pos (by omega), show 34 + k' * 8 + s - (34 + k' * 8) + 25 = 25 + s by omega]
        exact if_pos hj
      rw [e34]
      exact c s hs j hj
    · rw [if_neg (by omega), I0 _ (by omega)]
      exact d k' hk' s hs j hj
  · rw [E2, E2, if_neg (by decide), if_pos rfl, if_pos rfl]
    unfold upd
    by_cases q : k' = k
    · rw [if_pos q, if_pos q]
    · rw [if_neg q, if_neg q]
      exact e k' hk'
theorem xt_end_lt : ∀ a, a < 30 → xt_end a - 1 < 30 := by decide +kernel
section BO
variable {l : Launch} {ad : Nat → Nat} {K : bz_K} {σ : bz_S}
theorem d6 {M : bz_M} {d : Nat} {r : Option Value} {σ σ1 : bz_S} {la : List (Option Value)} (v : bz_V l ad K 73 M d r σ1 0 la [] σ) (h : d ≤ 6 := by decide) : bz_V l ad K 73 M 6 r σ1 0 la [] σ := bz_mono h v
theorem b_part (h : bI σ) (x1 x2 : Int32) : bthI l ad K σ mX3_part mX4_part [some (.ref (ad 23)), some (.int x1), some (.int x2)] [some (.ref (ad 54)), some (.int x1), some (.int x2)] := by
  rcases sp_x 30 (by decide) x1 with ⟨a, ha, rfl⟩ | q
  · rcases sp_x 6 (by decide) x2 with ⟨k, hk, rfl⟩ | q
    · exact ⟨_, σ, σ, d6 (x_part ha hk), d6 (y_part h.2.1.1 ha hk), h⟩
    · exact ⟨_, σ, σ, d6 (x_part_o ha q), d6 (y_part_o ha q), h⟩
  · exact ⟨_, σ, σ, d6 (x_part_u q), d6 (y_part_u q), h⟩
theorem b_about (h : bI σ) (x1 x2 : Int32) : bthI l ad K σ mX3_about mX4_about [some (.ref (ad 23)), some (.int x1), some (.int x2)] [some (.ref (ad 54)), some (.int x1), some (.int x2)] := by
  rcases sp_x 30 (by decide) x1 with ⟨a, ha, rfl⟩ | q
  · rcases sp_x 5 (by decide) x2 with ⟨w, hw, rfl⟩ | q
    · obtain ⟨σ2, v, m⟩ := y_about (l := l) (ad := ad) (K := K) h.2.1.1 h.2.1.2.2 ha hw
      have e : yt_ab a w = xt_ab a w := by
        match w, hw with
        | 0, _ => rfl
        | 1, _ => rfl
        | 2, _ => rfl
        | 3, _ => rfl
        | 4, _ => exact fl_cnt_kost ha (xt_end_lt a ha)
      rw [e] at v
      exact ⟨_, σ, σ2, d6 (x_about h.1 ha hw), d6 v, bI_mr h m⟩
    · exact ⟨_, σ, σ, d6 (x_about_o ha q), d6 (y_about_o ha q), h⟩
  · exact ⟨_, σ, σ, d6 (x_about_u q), d6 (y_about_u q), h⟩
theorem b_kostka (h : bI σ) (x1 x2 : Int32) : bthI l ad K σ mX3_kostka mX4_kostka [some (.ref (ad 23)), some (.int x1), some (.int x2)] [some (.ref (ad 54)), some (.int x1), some (.int x2)] := by
  rcases sp_x 30 (by decide) x1 with ⟨a, ha, rfl⟩ | q
  · rcases sp_x 30 (by decide) x2 with ⟨b, hb, rfl⟩ | q
    · obtain ⟨σ2, v, m⟩ := y_kostka (l := l) (ad := ad) (K := K) h.2.1.1 h.2.1.2.2 ha hb
      rw [fl_cnt_kost ha hb] at v
      exact ⟨_, σ, σ2, d6 (x_kostka h.1 ha hb), d6 v, bI_mr h m⟩
    · exact ⟨_, σ, σ, d6 (x_kostka_2 ha q), d6 (y_kostka_2 ha q), h⟩
  · exact ⟨_, σ, σ, d6 (x_kostka_1 q), d6 (y_kostka_1 q), h⟩
theorem b_character (h : bI σ) (x1 x2 : Int32) : bthI l ad K σ mX3_character mX4_character [some (.ref (ad 23)), some (.int x1), some (.int x2)] [some (.ref (ad 54)), some (.int x1), some (.int x2)] := by
  rcases sp_x 30 (by decide) x1 with ⟨a, ha, rfl⟩ | q
  · rcases sp_x 30 (by decide) x2 with ⟨b, hb, rfl⟩ | q
    · obtain ⟨c1, c2⟩ := op_char ha hb
      obtain ⟨σ2, v, m⟩ := y_character (l := l) (ad := ad) (K := K) h.2.1.1 h.2.1.2.1 h.2.1.2.2 ha hb c1
      rw [c2] at v
      exact ⟨_, σ, σ2, d6 (x_character h.1 ha hb), d6 v, bI_mr h m⟩
    · exact ⟨_, σ, σ, d6 (x_character_2 ha q), d6 (y_character_2 ha q), h⟩
  · exact ⟨_, σ, σ, d6 (x_character_1 q), d6 (y_character_1 q), h⟩
theorem b_above (h : bI σ) (x1 x2 : Int32) : bthI l ad K σ mX3_above mX4_above [some (.ref (ad 23)), some (.int x1), some (.int x2)] [some (.ref (ad 54)), some (.int x1), some (.int x2), none, none, none] := by
  rcases sp_x 30 (by decide) x1 with ⟨a, ha, rfl⟩ | q
  · rcases sp_x 30 (by decide) x2 with ⟨b, hb, rfl⟩ | q
    · exact ⟨_, σ, σ, d6 (x_above h.1 ha hb), d6 (y_above h.2.1.1 ha hb), h⟩
    · exact ⟨_, σ, σ, d6 (x_above_2 ha q), d6 (y_above_2 ha q), h⟩
  · exact ⟨_, σ, σ, d6 (x_above_1 q), d6 (y_above_1 q), h⟩
theorem b_put (h : bI σ) (x1 x2 x3 x4 : Int32) : bthI l ad K σ mX3_put mX4_put [some (.ref (ad 23)), some (.int x1), some (.int x2), some (.int x3), some (.int x4)] [some (.ref (ad 54)), some (.int x1), some (.int x2), some (.int x3), some (.int x4)] := by
  rcases sp_x 8 (by decide) x1 with ⟨to, ht, rfl⟩ | q
  · rcases sp_x 5 (by decide) x2 with ⟨base, hbs, rfl⟩ | q
    · rcases sp_x 30 (by decide) x3 with ⟨a, ha, rfl⟩ | q
      · by_cases hy : zw x4.toInt64 1000
        · obtain ⟨p1, p2⟩ := op_put (y := x4) hbs ha
          obtain ⟨σ1, v1, m1⟩ := x_put (l := l) (ad := ad) (K := K) h.1 ht hbs ha hy p1
          obtain ⟨g1, g2⟩ := bM_xm ht h m1
          have q := (zw_1000 x4).mp hy
          obtain ⟨σ2, v2, m2⟩ := y_put (l := l) (ad := ad) (K := K) g1.1 g1.2.1 g1.2.2 ht hbs ha q.1 q.2
          rw [← hz_congr p2] at v2
          exact ⟨_, σ1, σ2, d6 v1, d6 v2, bI_km ht h m1 m2 p2⟩
        · have q : x4 < -1000 ∨ nI 1000 < x4 := by
            by_cases z : x4 < -1000
            · exact Or.inl z
            · by_cases z2 : nI 1000 < x4
              · exact Or.inr z2
              · exact absurd ((zw_1000 x4).mpr ⟨z, z2⟩) hy
          exact ⟨_, σ, σ, d6 (x_put_4 ht hbs ha hy), d6 (y_put_4 ht hbs ha q), h⟩
      · exact ⟨_, σ, σ, d6 (x_put_3 ht hbs q), d6 (y_put_3 ht hbs q), h⟩
    · exact ⟨_, σ, σ, d6 (x_put_2 ht q), d6 (y_put_2 ht q), h⟩
  · exact ⟨_, σ, σ, d6 (x_put_1 q), d6 (y_put_1 q), h⟩
theorem b_add (h : bI σ) (x1 x2 x3 : Int32) : bthI l ad K σ mX3_add mX4_add [some (.ref (ad 23)), some (.int x1), some (.int x2), some (.int x3), none] [some (.ref (ad 54)), some (.int x1), some (.int x2), some (.int x3), none] := by
  rcases sp_x 8 (by decide) x1 with ⟨to, ht, rfl⟩ | q
  · rcases sp_x 8 (by decide) x2 with ⟨a, ha, rfl⟩ | q
    · by_cases hy : zw x3.toInt64 1000
      · obtain ⟨σ1, v1, m1⟩ := x_add (l := l) (ad := ad) (K := K) (σ := σ) ht ha hy
        obtain ⟨g1, g2⟩ := bM_xm ht h m1
        have q := (zw_1000 x3).mp hy
        obtain ⟨σ2, v2, m2⟩ := y_add (l := l) (ad := ad) (K := K) g1.2.2 ht ha q.1 q.2
        have e : ∀ j, j < 30 → σ.1 (25 + to) j + x3.toInt64 * σ.1 (25 + a) j = σ1.1 59 (30 * to + j) + x3.toInt64 * σ1.1 59 (30 * a + j) := fun j hj => by
          rw [g2, (h.2.2.1 to ht j hj).1, (h.2.2.1 a ha j hj).1]
        rw [← hz_congr e] at v2
        exact ⟨_, σ1, σ2, d6 v1, d6 v2, bI_km ht h m1 m2 e⟩
      · have q : x3 < -1000 ∨ nI 1000 < x3 := by
          by_cases z : x3 < -1000
          · exact Or.inl z
          · by_cases z2 : nI 1000 < x3
            · exact Or.inr z2
            · exact absurd ((zw_1000 x3).mpr ⟨z, z2⟩) hy
        exact ⟨_, σ, σ, d6 (x_add_3 ht ha hy), d6 (y_add_3 ht ha q), h⟩
    · exact ⟨_, σ, σ, d6 (x_add_2 ht q), d6 (y_add_2 ht q), h⟩
  · exact ⟨_, σ, σ, d6 (x_add_1 q), d6 (y_add_1 q), h⟩
theorem b_degree (h : bI σ) (x1 : Int32) : bthI l ad K σ mX3_degree mX4_degree [some (.ref (ad 23)), some (.int x1)] [some (.ref (ad 54)), some (.int x1)] := by
  rcases sp_x 8 (by decide) x1 with ⟨a, ha, rfl⟩ | q
  · have v := y_degree (l := l) (ad := ad) (K := K) h.2.1.1 ha
    rw [← dgz_congr (f := σ.1 (25 + a)) 30 (fun j hj => (h.2.2.1 a ha j hj).1)] at v
    exact ⟨_, σ, σ, d6 (x_degree h.1 ha), d6 v, h⟩
  · exact ⟨_, σ, σ, d6 (x_degree_u q), d6 (y_degree_u q), h⟩
theorem b_coefficient (h : bI σ) (x1 x2 x3 x4 : Int32) : bthL l ad K σ mX3_coefficient mX4_coefficient [some (.ref (ad 23)), some (.int x1), some (.int x2), some (.int x3), some (.int x4), none, none, none, none] [some (.ref (ad 54)), some (.int x1), some (.int x2), some (.int x3), some (.int x4), none, none, none, none] := by
  rcases sp_x 8 (by decide) x1 with ⟨s, hs, rfl⟩ | q
  · rcases sp_x 5 (by decide) x2 with ⟨base, hbs, rfl⟩ | q
    · rcases sp_x 30 (by decide) x3 with ⟨a, ha, rfl⟩ | q
      · rcases sp_x 2 (by decide) x4 with ⟨w, hw, rfl⟩ | q
        · obtain ⟨σ1, v1, m1⟩ := x_coef (l := l) (ad := ad) (K := K) h.1 hs hbs ha hw (li_from hbs (uI_cl h hs))
          obtain ⟨g1, g2⟩ := bM_xr h m1
          have hb := vF_bnd (uI_b h hs) hbs ha
          obtain ⟨c1, c2⟩ := op_coef (base := base) (w := w) hb.1 hb.2
          obtain ⟨σ2, v2, m2⟩ := y_coef (l := l) (ad := ad) (K := K) (σ := σ1) (F := fun b => Int64.ofInt (vF base (uI σ s) b)) g1.1 g1.2.1 g1.2.2 hs hbs ha hw (ri_from hbs (fun j _ => by rw [g2]; exact uI_of σ s j) (uI_b h hs)) c2
          rw [← c1] at v2
          exact ⟨_, σ1, σ2, d6 v1, d6 v2, bI_mr (bI_xr h m1) m2⟩
        · exact ⟨_, σ, σ, d6 (x_coef_4 hs hbs ha q), d6 (y_coef_4 hs hbs ha q), h⟩
      · exact ⟨_, σ, σ, d6 (x_coef_3 hs hbs q), d6 (y_coef_3 hs hbs q), h⟩
    · exact ⟨_, σ, σ, d6 (x_coef_2 hs q), d6 (y_coef_2 hs q), h⟩
  · exact ⟨_, σ, σ, d6 (x_coef_1 q), d6 (y_coef_1 q), h⟩
theorem b_next (h : bI σ) (x1 x2 x3 : Int32) : bthI l ad K σ mX3_next mX4_next [some (.ref (ad 23)), some (.int x1), some (.int x2), some (.int x3), none] [some (.ref (ad 54)), some (.int x1), some (.int x2), some (.int x3), none, none] := by
  rcases sp_x 8 (by decide) x1 with ⟨s, hs, rfl⟩ | q
  · rcases sp_x 5 (by decide) x2 with ⟨base, hbs, rfl⟩ | q
    · rcases sp_x 31 (by decide) x3 with ⟨f, hf, rfl⟩ | q
      · obtain ⟨σ1, v1, m1⟩ := x_next (l := l) (ad := ad) (K := K) h.1 hs hbs hf (li_from hbs (uI_cl h hs))
        obtain ⟨g1, g2⟩ := bM_xr h m1
        obtain ⟨σ2, v2, m2⟩ := y_next (l := l) (ad := ad) (K := K) (σ := σ1) (F := fun b => Int64.ofInt (vF base (uI σ s) b)) g1.1 g1.2.1 g1.2.2 hs hbs hf (ri_from hbs (fun j _ => by rw [g2]; exact uI_of σ s j) (uI_b h hs))
        exact ⟨_, σ1, σ2, d6 v1, d6 v2, bI_mr (bI_xr h m1) m2⟩
      · exact ⟨_, σ, σ, d6 (x_next_3 hs hbs q), d6 (y_next_3 hs hbs q), h⟩
    · exact ⟨_, σ, σ, d6 (x_next_2 hs q), d6 (y_next_2 hs q), h⟩
  · exact ⟨_, σ, σ, d6 (x_next_1 q), d6 (y_next_1 q), h⟩
theorem b_value (h : bI σ) (x1 x2 x3 x4 : Int32) : bthL l ad K σ mX3_value mX4_value [some (.ref (ad 23)), some (.int x1), some (.int x2), some (.int x3), some (.int x4)] [some (.ref (ad 54)), some (.int x1), some (.int x2), some (.int x3), some (.int x4), none, none, none, none, none, none, none] := by
  rcases sp_x 8 (by decide) x1 with ⟨s, hs, rfl⟩ | q
  · by_cases hz : zw x2.toInt64 9 ∧ zw x3.toInt64 9 ∧ zw x4.toInt64 9
    · have v := y_value (l := l) (ad := ad) (K := K) h.2.1.1 hs ((zw_9 x2).mp hz.1) ((zw_9 x3).mp hz.2.1) ((zw_9 x4).mp hz.2.2)
      rw [← op_val (w := σ.1 (25 + s)) (fun j hj => (h.2.2.1 s hs j hj).1)] at v
      exact ⟨_, σ, σ, d6 (x_value h.1 hs hz.1 hz.2.1 hz.2.2), d6 v, h⟩
    · exact ⟨_, σ, σ, d6 (x_value_2 hs hz), d6 (y_value_2 hs (fun q => hz ⟨(zw_9 x2).mpr q.1, (zw_9 x3).mpr q.2.1, (zw_9 x4).mpr q.2.2⟩)), h⟩
  · exact ⟨_, σ, σ, d6 (x_value_1 q), d6 (y_value_1 q), h⟩
theorem b_scalar (h : bI σ) (x1 x2 : Int32) : bthL l ad K σ mX3_scalar mX4_scalar [some (.ref (ad 23)), some (.int x1), some (.int x2)] [some (.ref (ad 54)), some (.int x1), some (.int x2)] := by
  rcases sp_x 8 (by decide) x1 with ⟨a, ha, rfl⟩ | q
  · rcases sp_x 8 (by decide) x2 with ⟨b, hb, rfl⟩ | q
    · obtain ⟨σ1, v1, m1⟩ := x_scalar (l := l) (ad := ad) (K := K) h.1 ha hb (li_from (base := 4) (by decide) (uI_cl h ha)) (li_from (base := 4) (by decide) (uI_cl h hb))
      obtain ⟨g1, g2⟩ := bM_xr h m1
      obtain ⟨σ2, v2, m2⟩ := y_scalar (l := l) (ad := ad) (K := K) (σ := σ1) (F := fun j => Int64.ofInt (vF 2 (uI σ a) j)) g1.1 g1.2.1 g1.2.2 ha hb (ri_from (base := 2) (by decide) (fun j _ => by rw [g2]; exact uI_of σ a j) (uI_b h ha))
      have e := op_scalar (u := uI σ a) (v := uI σ b) (g := fun j => σ1.1 59 (30 * b + j)) (fun j _ => by rw [g2]; exact uI_of σ b j)
      rw [← e] at v2
      exact ⟨_, σ1, σ2, d6 v1, d6 v2, bI_mr (bI_xr h m1) m2⟩
    · exact ⟨_, σ, σ, d6 (x_scalar_2 ha q), d6 (y_scalar_2 ha q), h⟩
  · exact ⟨_, σ, σ, d6 (x_scalar_1 q), d6 (y_scalar_1 q), h⟩
theorem b_turn (h : bI σ) (x1 x2 : Int32) : bthI l ad K σ mX3_turn mX4_turn [some (.ref (ad 23)), some (.int x1), some (.int x2)] [some (.ref (ad 54)), some (.int x1), some (.int x2), none] := by
  rcases sp_x 8 (by decide) x1 with ⟨to, ht, rfl⟩ | q
  · rcases sp_x 8 (by decide) x2 with ⟨a, ha, rfl⟩ | q
    · obtain ⟨σ1, v1, m1⟩ := x_turn (l := l) (ad := ad) (K := K) h.1 ht ha (li_from (base := 1) (by decide) (uI_cl h ha)) (li_to (base := 2) (t := vF 1 (uI σ a)) (by decide) (fun j _ => rfl))
      obtain ⟨g1, g2⟩ := bM_xm ht h m1
      obtain ⟨σ2, v2, m2⟩ := y_turn (l := l) (ad := ad) (K := K) (σ := σ1) (F := fun j => Int64.ofInt (vF 1 (uI σ a) j)) g1.1 g1.2.1 g1.2.2 ht ha (ri_from (base := 1) (by decide) (fun j _ => by rw [g2]; exact uI_of σ a j) (uI_b h ha))
      have e : ∀ j, j < 30 → Int64.ofInt (vT 2 (vF 1 (uI σ a)) j) = zsum (fun c => Int64.ofInt (vF 1 (uI σ a) c) * cm 2 c j) 0 30 := fun j hj => (op_turn (u := uI σ a) j hj).symm
      rw [← hz_congr e] at v2
      exact ⟨_, σ1, σ2, d6 v1, d6 v2, bI_km ht h m1 m2 e⟩
    · exact ⟨_, σ, σ, d6 (x_turn_2 ht q), d6 (y_turn_2 ht q), h⟩
  · exact ⟨_, σ, σ, d6 (x_turn_1 q), d6 (y_turn_1 q), h⟩
theorem b_times (h : bI σ) (x1 x2 x3 : Int32) : bthI l ad K σ mX3_times mX4_times [some (.ref (ad 23)), some (.int x1), some (.int x2), some (.int x3), none, none] [some (.ref (ad 54)), some (.int x1), some (.int x2), some (.int x3)] := by
  rcases sp_x 8 (by decide) x1 with ⟨to, ht, rfl⟩ | q
  · rcases sp_x 8 (by decide) x2 with ⟨a, ha, rfl⟩ | q
    · rcases sp_x 8 (by decide) x3 with ⟨b, hb, rfl⟩ | q
      · have ea : dgz (σ.1 (25 + a)) 30 = dgz (fun j => σ.1 59 (30 * a + j)) 30 := dgz_congr 30 (fun j hj => (h.2.2.1 a ha j hj).1)
        have eb : dgz (σ.1 (25 + b)) 30 = dgz (fun j => σ.1 59 (30 * b + j)) 30 := dgz_congr 30 (fun j hj => (h.2.2.1 b hb j hj).1)
        have hq : (¬ dgz (σ.1 (25 + a)) 30 = -6 ∧ ¬ dgz (σ.1 (25 + b)) 30 = -6 ∧ ¬ dgz (σ.1 (25 + a)) 30 + dgz (σ.1 (25 + b)) 30 ≤ nI 6) ↔ (¬ dgz (fun j => σ.1 59 (30 * a + j)) 30 < 0 ∧ ¬ dgz (fun j => σ.1 59 (30 * b + j)) 30 < 0 ∧ ¬ dgz (fun j => σ.1 59 (30 * a + j)) 30 + dgz (fun j => σ.1 59 (30 * b + j)) 30 ≤ nI 6) := by
          rw [ea, eb, dgz_neg, dgz_neg]
        by_cases hf : ¬ dgz (σ.1 (25 + a)) 30 = -6 ∧ ¬ dgz (σ.1 (25 + b)) 30 = -6 ∧ ¬ dgz (σ.1 (25 + a)) 30 + dgz (σ.1 (25 + b)) 30 ≤ nI 6
        · exact ⟨_, σ, σ, d6 (x_times_f h.1 ht ha hb hf), d6 (y_times_f h.2.1.1 ht ha hb (hq.mp hf)), h⟩
        · obtain ⟨W, w1, w2⟩ := op_times (U := fun j => σ.1 59 (30 * a + j)) (V := fun j => σ.1 59 (30 * b + j)) (fun j _ => uI_of σ a j) (fun j _ => uI_of σ b j) (uI_b h ha) (uI_b h hb)
          obtain ⟨σ1, v1, m1⟩ := x_times (l := l) (ad := ad) (K := K) h.1 ht ha hb hf (li_from (base := 3) (by decide) (uI_cl h ha)) (li_from (base := 3) (by decide) (uI_cl h hb)) w1
          obtain ⟨g1, g2⟩ := bM_xm ht h m1
          obtain ⟨σ2, v2, m2⟩ := y_times (l := l) (ad := ad) (K := K) (σ := σ1) g1.1 g1.2.2 ht ha hb (by rw [g2]; exact fun z => hf (hq.mpr z))
          rw [g2] at v2 m2
          rw [← hz_congr w2] at v2
          exact ⟨_, σ1, σ2, d6 v1, d6 v2, bI_km ht h m1 m2 w2⟩
      · exact ⟨_, σ, σ, d6 (x_times_3 ht ha q), d6 (y_times_3 ht ha q), h⟩
    · exact ⟨_, σ, σ, d6 (x_times_2 ht q), d6 (y_times_2 ht q), h⟩
  · exact ⟨_, σ, σ, d6 (x_times_1 q), d6 (y_times_1 q), h⟩
theorem b_strip (h : bI σ) (x1 x2 x3 : Int32) : bthI l ad K σ mX3_strip mX4_strip [some (.ref (ad 23)), some (.int x1), some (.int x2), some (.int x3)] [some (.ref (ad 54)), some (.int x1), some (.int x2), some (.int x3), none, none, none, none] := by
  rcases sp_x 8 (by decide) x1 with ⟨to, ht, rfl⟩ | q
  · rcases sp_x 8 (by decide) x2 with ⟨a, ha, rfl⟩ | q
    · rcases sp_x 8 (by decide) x3 with ⟨b, hb, rfl⟩ | q
      · obtain ⟨W, w1, w2⟩ := op_strip (U := fun j => σ.1 59 (30 * a + j)) (u := uI σ a) (v := uI σ b) (fun j _ => uI_of σ a j) (uI_b h ha) (uI_b h hb)
        obtain ⟨σ1, v1, m1⟩ := x_strip (l := l) (ad := ad) (K := K) h.1 ht ha hb (li_from (base := 3) (by decide) (uI_cl h ha)) (li_from (base := 3) (by decide) (uI_cl h hb)) w1
        obtain ⟨g1, g2⟩ := bM_xm ht h m1
        obtain ⟨σ2, v2, m2⟩ := y_strip (l := l) (ad := ad) (K := K) (σ := σ1) (F := fun j => Int64.ofInt (vF 2 (uI σ b) j)) g1.1 g1.2.1 g1.2.2 ht ha hb (ri_from (base := 2) (by decide) (fun j _ => by rw [g2]; exact uI_of σ b j) (uI_b h hb))
        rw [g2] at v2 m2
        rw [← hz_congr w2] at v2
        exact ⟨_, σ1, σ2, d6 v1, d6 v2, bI_km ht h m1 m2 w2⟩
      · exact ⟨_, σ, σ, d6 (x_strip_3 ht ha q), d6 (y_strip_3 ht ha q), h⟩
    · exact ⟨_, σ, σ, d6 (x_strip_2 ht q), d6 (y_strip_2 ht q), h⟩
  · exact ⟨_, σ, σ, d6 (x_strip_1 q), d6 (y_strip_1 q), h⟩
theorem b_meet (h : bI σ) (x1 x2 x3 : Int32) : bthI l ad K σ mX3_meet mX4_meet [some (.ref (ad 23)), some (.int x1), some (.int x2), some (.int x3)] [some (.ref (ad 54)), some (.int x1), some (.int x2), some (.int x3), none] := by
  rcases sp_x 8 (by decide) x1 with ⟨to, ht, rfl⟩ | q
  · rcases sp_x 8 (by decide) x2 with ⟨a, ha, rfl⟩ | q
    · rcases sp_x 8 (by decide) x3 with ⟨b, hb, rfl⟩ | q
      · obtain ⟨W, w1, w2⟩ := op_meet (u := uI σ a) (v := uI σ b) (uI_b h ha) (uI_b h hb)
        obtain ⟨σ1, v1, m1⟩ := x_meet (l := l) (ad := ad) (K := K) h.1 ht ha hb (li_from (base := 3) (by decide) (uI_cl h ha)) (li_from (base := 3) (by decide) (uI_cl h hb)) w1
        obtain ⟨g1, g2⟩ := bM_xm ht h m1
        obtain ⟨σ2, v2, m2⟩ := y_meet (l := l) (ad := ad) (K := K) (σ := σ1) (A := fun j => Int64.ofInt (vF 3 (uI σ a) j)) (B := fun j => Int64.ofInt (vF 3 (uI σ b) j)) g1.1 g1.2.1 g1.2.2 ht ha hb (ri_from (base := 3) (by decide) (fun j _ => by rw [g2]; exact uI_of σ a j) (uI_b h ha)) (ri_from (base := 3) (by decide) (fun j _ => by rw [g2]; exact uI_of σ b j) (uI_b h hb))
        have e : ∀ j, j < 30 → W j / 720 = me_r (fun j => Int64.ofInt (vF 3 (uI σ a) j)) (fun j => Int64.ofInt (vF 3 (uI σ b) j)) j / 720 := fun j hj => by rw [w2 j hj]
        rw [← hz_congr e] at v2
        exact ⟨_, σ1, σ2, d6 v1, d6 v2, bI_km ht h m1 m2 e⟩
      · exact ⟨_, σ, σ, d6 (x_meet_3 ht ha q), d6 (y_meet_3 ht ha q), h⟩
    · exact ⟨_, σ, σ, d6 (x_meet_2 ht q), d6 (y_meet_2 ht q), h⟩
  · exact ⟨_, σ, σ, d6 (x_meet_1 q), d6 (y_meet_1 q), h⟩
theorem b_plug (h : bI σ) (x1 x2 x3 : Int32) : bthI l ad K σ mX3_plug mX4_plug [some (.ref (ad 23)), some (.int x1), some (.int x2), some (.int x3), none, none] [some (.ref (ad 54)), some (.int x1), some (.int x2), some (.int x3), none, none] := by
  rcases sp_x 8 (by decide) x1 with ⟨to, ht, rfl⟩ | q
  · rcases sp_x 8 (by decide) x2 with ⟨a, ha, rfl⟩ | q
    · rcases sp_x 8 (by decide) x3 with ⟨b, hb, rfl⟩ | q
      · have za : zwA (σ.1 (25 + a)) 1000 ↔ zwA (fun j => σ.1 59 (30 * a + j)) 1000 := ⟨fun q j hj => by have := q j hj; rw [(h.2.2.1 a ha j hj).1] at this; exact this, fun q j hj => by rw [(h.2.2.1 a ha j hj).1]; exact q j hj⟩
        have zb : zwA (σ.1 (25 + b)) 9 ↔ zwA (fun j => σ.1 59 (30 * b + j)) 9 := ⟨fun q j hj => by have := q j hj; rw [(h.2.2.1 b hb j hj).1] at this; exact this, fun q j hj => by rw [(h.2.2.1 b hb j hj).1]; exact q j hj⟩
        have ea : dgz (σ.1 (25 + a)) 30 = dgz (fun j => σ.1 59 (30 * a + j)) 30 := dgz_congr 30 (fun j hj => (h.2.2.1 a ha j hj).1)
        have eb : dgz (σ.1 (25 + b)) 30 = dgz (fun j => σ.1 59 (30 * b + j)) 30 := dgz_congr 30 (fun j hj => (h.2.2.1 b hb j hj).1)
        by_cases hz : zwA (σ.1 (25 + a)) 1000 ∧ zwA (σ.1 (25 + b)) 9
        · by_cases hf : ¬ dgz (σ.1 (25 + a)) 30 ≤ 0 ∧ ¬ dgz (σ.1 (25 + b)) 30 ≤ 0 ∧ ¬ dgz (σ.1 (25 + a)) 30 * dgz (σ.1 (25 + b)) 30 ≤ nI 6
          · exact ⟨_, σ, σ, d6 (x_plug_f h.1 ht ha hb hz.1 hz.2 hf), d6 (y_plug_f h.2.1.1 ht ha hb (za.mp hz.1) (zb.mp hz.2) (by rw [← ea, ← eb]; exact hf)), h⟩
          · have bu : bnd (uI σ a) 1000 := fun j hj => zw_int (by decide) (by decide) ((za.mp hz.1) j hj)
            have bv : bnd (uI σ b) 9 := fun j hj => zw_int (by decide) (by decide) ((zb.mp hz.2) j hj)
            obtain ⟨W, w1, w2⟩ := op_plug (V := fun j => σ.1 59 (30 * b + j)) (u := uI σ a) (v := uI σ b) (fun j _ => uI_of σ b j) bu bv
            obtain ⟨σ1, v1, m1⟩ := x_plug (l := l) (ad := ad) (K := K) h.1 ht ha hb hz.1 hz.2 hf (li_from (base := 3) (by decide) (uI_cl h ha)) (li_from (base := 3) (by decide) (uI_cl h hb)) w1
            obtain ⟨g1, g2⟩ := bM_xm ht h m1
            obtain ⟨σ2, v2, m2⟩ := y_plug (l := l) (ad := ad) (K := K) (σ := σ1) (F := fun j => Int64.ofInt (vF 3 (uI σ a) j)) g1.1 g1.2.1 g1.2.2 ht ha hb (by rw [g2]; exact za.mp hz.1) (by rw [g2]; exact zb.mp hz.2) (by rw [g2, ← ea, ← eb]; exact hf) (ri_from (base := 3) (by decide) (fun j _ => by rw [g2]; exact uI_of σ a j) (uI_b h ha))
            rw [g2] at v2 m2
            rw [← hz_congr w2] at v2
            exact ⟨_, σ1, σ2, d6 v1, d6 v2, bI_km ht h m1 m2 w2⟩
        · exact ⟨_, σ, σ, d6 (x_plug_s h.1 ht ha hb hz), d6 (y_plug_s ht ha hb (fun q => hz ⟨za.mpr q.1, zb.mpr q.2⟩)), h⟩
      · exact ⟨_, σ, σ, d6 (x_plug_3 ht ha q), d6 (y_plug_3 ht ha q), h⟩
    · exact ⟨_, σ, σ, d6 (x_plug_2 ht q), d6 (y_plug_2 ht q), h⟩
  · exact ⟨_, σ, σ, d6 (x_plug_1 q), d6 (y_plug_1 q), h⟩
theorem b_image (h : bI σ) (x1 : Int32) : bthI l ad K σ mX3_image mX4_image [some (.ref (ad 23)), some (.int x1), none] [some (.ref (ad 54)), some (.int x1), none] := by
  rcases sp_x 2 (by decide) x1 with ⟨k, hk, rfl⟩ | q
  · exact ⟨_, _, _, d6 (x_image hk), d6 (y_image hk), bI_image hk h⟩
  · exact ⟨_, σ, σ, d6 (x_image_1 q), d6 (y_image_1 q), h⟩
theorem b_restore (h : bI σ) (x1 : Int32) : bthI l ad K σ mX3_restore mX4_restore [some (.ref (ad 23)), some (.int x1), none] [some (.ref (ad 54)), some (.int x1), none] := by
  rcases sp_x 2 (by decide) x1 with ⟨k, hk, rfl⟩ | q
  · have hkk := h.2.2.2.2 k hk
    by_cases hi : σ.2.1 50 k = 0
    · exact ⟨_, σ, σ, d6 (x_restore_s hk hi), d6 (y_restore_s hk (by rw [← hkk]; exact hi)), h⟩
    · refine ⟨_, _, _, d6 (x_restore hk hi), d6 (y_restore (σ := rs_s σ k 8) hk (by show ¬ σ.2.1 72 k = 0; rw [← hkk]; exact hi)), ?_⟩
      obtain ⟨a, ⟨b1, b2, b3⟩, c, d, e⟩ := h
      have e58 : (bz_setJ (rs_s σ k 8) 59 (bz_upto ((rs_s σ k 8).1 59) (fun i => (rs_s σ k 8).1 71 (240 * k + i)) 240)).1 58 = σ.1 58 := by
        rw [bz_setJ_ne (by decide), rs_s]
        simp only
        rw [if_neg (by omega)]
      refine ⟨a, bM_same (σ := σ) ⟨b1, b2, b3⟩ e58 rfl, fun s hs j hj => ?_, fun k' hk' s hs j hj => ?_, e⟩
      · rw [bz_setJ_ne (by omega), bz_setJ_at, bz_upto_lt (by omega)]
        have e71 : (rs_s σ k 8).1 71 = σ.1 71 := by rw [rs_s]; simp only; rw [if_neg (by omega)]
        have e25 : (rs_s σ k 8).1 (25 + s) j = σ.1 (34 + k * 8 + s) j := by
          rw [rs_s]
          simp only
          rw [if_pos (by omega), if_pos hj, show 25 + s - 25 + (34 + k * 8) = 34 + k * 8 + s by omega]
        rw [e71, e25]
        exact d k hk s hs j hj
      · rw [bz_setJ_ne (by omega), bz_setJ_ne (by decide)]
        have e71 : (rs_s σ k 8).1 71 = σ.1 71 := by rw [rs_s]; simp only; rw [if_neg (by omega)]
        have e34 : (rs_s σ k 8).1 (34 + k' * 8 + s) = σ.1 (34 + k' * 8 + s) := by rw [rs_s]; simp only; rw [if_neg (by omega)]
        rw [e71, e34]
        exact d k' hk' s hs j hj
  · exact ⟨_, σ, σ, d6 (x_restore_1 q), d6 (y_restore_1 q), h⟩
theorem b_count (h : bI σ) (x1 : Int32) : bthI l ad K σ mX3_count mX4_count [some (.ref (ad 23)), some (.int x1)] [some (.ref (ad 54)), some (.int x1), none, none] := by
  by_cases h0 : x1 = 0
  · subst h0
    have v := y_count_0 (l := l) (ad := ad) (K := K) h.2.1.1
    have e : nsum (fun s => if dgz (fun j => σ.1 59 (30 * s + j)) 30 < 0 then 0 else 1) 8 = nsum (fun s => if dgz (σ.1 (25 + s)) 30 = -6 then 0 else 1) 8 := by
      have g : ∀ n, n ≤ 8 → nsum (fun s => if dgz (fun j => σ.1 59 (30 * s + j)) 30 < 0 then 0 else 1) n = nsum (fun s => if dgz (σ.1 (25 + s)) 30 = -6 then 0 else 1) n := by
        intro n
        induction n with
        | zero => intro _; rfl
        | succ n ih =>
          intro hn
          rw [nsum, nsum, ih (by omega), dgz_congr (f := σ.1 (25 + n)) 30 (fun j hj => (h.2.2.1 n (by omega) j hj).1)]
          by_cases q : dgz (fun j => σ.1 59 (30 * n + j)) 30 = -6
          · rw [if_pos q, if_pos ((dgz_neg _ 30).mp q)]
          · rw [if_neg q, if_neg (fun z => q ((dgz_neg _ 30).mpr z))]
      exact g 8 (Nat.le_refl 8)
    rw [e] at v
    exact ⟨_, σ, σ, d6 (x_count_0 h.1), d6 v, h⟩
  · by_cases h1 : x1 = nI 1
    · subst h1
      have v := y_count_1 (l := l) (ad := ad) (K := K) (σ := σ)
      rw [← h.2.2.2.2 0 (by decide), ← h.2.2.2.2 1 (by decide)] at v
      exact ⟨_, σ, σ, d6 x_count_1, d6 v, h⟩
    · rcases sp_x 100 (by decide) x1 with ⟨n, hn, rfl⟩ | q
      · by_cases g1 : 10 ≤ n ∧ n ≤ 16
        · obtain ⟨d, rfl⟩ : ∃ d, n = 10 + d := ⟨n - 10, by omega⟩
          exact ⟨_, σ, σ, d6 (x_count_10 (by omega)), d6 (y_count_10 h.2.1.1 (by omega)), h⟩
        · by_cases g2 : 20 ≤ n ∧ n ≤ 26
          · obtain ⟨d, rfl⟩ : ∃ d, n = 20 + d := ⟨n - 20, by omega⟩
            exact ⟨_, σ, σ, d6 (x_count_20 (by omega)), d6 (y_count_20 h.2.1.1 (by omega)), h⟩
          · have q1 : nI n < nI 10 ∨ nI 16 < nI n := by
              rcases Nat.lt_or_ge n 10 with z | z
              · exact Or.inl (nI_lt z (by omega))
              · exact Or.inr (nI_lt (by omega) (by omega))
            have q2 : nI n < nI 20 ∨ nI 26 < nI n := by
              rcases Nat.lt_or_ge n 20 with z | z
              · exact Or.inl (nI_lt z (by omega))
              · exact Or.inr (nI_lt (by omega) (by omega))
            exact ⟨_, σ, σ, d6 (x_count_o h0 h1 q1 q2), d6 (y_count_o h0 h1 q1 q2), h⟩
      · have q1 : x1 < nI 10 ∨ nI 16 < x1 := by
          rcases q with q | q
          · exact Or.inl (by rw [Int32.lt_iff_toInt_lt] at q ⊢; rw [nI_toInt (by omega)]; have : (0 : Int32).toInt = 0 := rfl; omega)
          · exact Or.inr (by rw [Int32.le_iff_toInt_le, nI_toInt (by omega)] at q; rw [Int32.lt_iff_toInt_lt, nI_toInt (by omega)]; omega)
        have q2 : x1 < nI 20 ∨ nI 26 < x1 := by
          rcases q with q | q
          · exact Or.inl (by rw [Int32.lt_iff_toInt_lt] at q ⊢; rw [nI_toInt (by omega)]; have : (0 : Int32).toInt = 0 := rfl; omega)
          · exact Or.inr (by rw [Int32.le_iff_toInt_le, nI_toInt (by omega)] at q; rw [Int32.lt_iff_toInt_lt, nI_toInt (by omega)]; omega)
        exact ⟨_, σ, σ, d6 (x_count_o h0 h1 q1 q2), d6 (y_count_o h0 h1 q1 q2), h⟩
end BO
