/-! the moves between bases, by constants alone -/
def cK (a b : Nat) : Int64 := Int64.ofInt (xt_kost (a * 30 + b))
def cX (a b : Nat) : Int64 := Int64.ofInt (xt_char (a * 30 + b))
def cQ (b : Nat) : Int64 := Int64.ofInt (720 / xt_z b : Nat)
def cZ (b : Nat) : Int64 := Int64.ofInt (xt_z b : Nat)
theorem xt_kL : ∀ i, i < 900 → (nI (xt_kost i)).toInt64 = Int64.ofInt (xt_kost i) := by decide +kernel
theorem xt_cL : ∀ i, i < 900 → (Int32.ofInt (xt_char i)).toInt64 = Int64.ofInt (xt_char i) := by decide +kernel
theorem xt_qL : ∀ b, b < 30 → (nI (720 / xt_z b)).toInt64 = cQ b := by decide +kernel
theorem xt_zL2 : ∀ b, b < 30 → (nI (xt_z b)).toInt64 = cZ b := by decide +kernel
theorem ba_Kc {σ : bz_S} (hT : pz_T σ.2.1) {a b : Nat} (ha : a < 30) (hb : b < 30) : ba_K σ a b = cK a b := by
  unfold ba_K cK
  rw [hT.2.2.2.2.2.2.1 (a * 30 + b) (by omega), xt_kL _ (by omega)]
theorem ba_Xc {σ : bz_S} (hT : pz_T σ.2.1) {a b : Nat} (ha : a < 30) (hb : b < 30) : ba_X σ a b = cX a b := by
  unfold ba_X cX
  rw [hT.2.2.2.2.2.2.2 (a * 30 + b) (by omega), xt_cL _ (by omega)]
def bc_S (w S : Nat → Int64) : Prop := ∀ b, b < 30 → S b = w b - zsum (fun a => S a * cK a b) (xt_start b) (b - xt_start b)
def bc_P (S F : Nat → Int64) : Prop := ∀ b, b < 30 → F b = zsum (fun i => S i * cX i b) (xt_start b) (xt_end b - xt_start b) * cQ b
def bc_H (S F : Nat → Int64) : Prop := ∀ b, b < 30 → F b = S b - zsum (fun i => F i * cK b i) (b + 1) (xt_end b - (b + 1))
def bc_W (N W : Nat → Int64) : Prop := ∀ b, b < 30 → W b = zsum (fun a => N a * cK a b) (xt_start b) (b + 1 - xt_start b)
def bc_C (x N : Nat → Int64) : Prop := ∀ b, b < 30 → N b = zsum (fun i => x i * cK b i) b (xt_end b - b)
def bc_T (x N : Nat → Int64) : Prop := ∀ b, b < 30 → N b = zsum (fun i => x i * cX b i) (xt_start b) (xt_end b - xt_start b)
def bc_from (base : Nat) (w F : Nat → Int64) : Prop := match base with
  | 0 => ∀ b, b < 30 → F b = w b
  | 1 => ∃ S, bc_S w S ∧ bc_H (fun j => S (xt_conj j)) F
  | 2 => ∃ S, bc_S w S ∧ bc_H S F
  | 3 => ∃ S, bc_S w S ∧ bc_P S F
  | _ => bc_S w F
def bc_to (base : Nat) (x W : Nat → Int64) : Prop := match base with
  | 0 => ∀ b, b < 30 → W b = x b
  | 1 => ∃ N, bc_C x N ∧ bc_W (fun j => N (xt_conj j)) W
  | 2 => ∃ N, bc_C x N ∧ bc_W N W
  | 3 => ∃ N, bc_T x N ∧ bc_W N W
  | _ => bc_W x W
section AD
variable {σ : bz_S} {w w' x x' S F N W : Nat → Int64}
theorem bc_S_a (hT : pz_T σ.2.1) (hw : ∀ j, j < 30 → w' j = w j) (h : bc_S w S) : ba_S σ w' S := fun b hb => by
  have hse := xt_se b hb
  rw [h b hb, hw b hb]
  exact congrArg (fun z => w b - z) (zsum_congr _ _ (fun i h1 h2 => by rw [ba_Kc hT (by omega) hb]))
theorem bc_P_a (hT : pz_T σ.2.1) (h : bc_P S F) : ba_P σ S F := fun b hb => by
  have hse := xt_se b hb
  rw [h b hb, xt_qL b hb]
  exact congrArg (fun z => z * cQ b) (zsum_congr _ _ (fun i h1 h2 => by rw [ba_Xc hT (by omega) hb]))
theorem bc_H_a (hT : pz_T σ.2.1) (h : bc_H S F) : ba_H σ S F := fun b hb => by
  have hse := xt_se b hb
  rw [h b hb]
  exact congrArg (fun z => S b - z) (zsum_congr _ _ (fun i h1 h2 => by rw [ba_Kc hT hb (by omega)]))
theorem bc_W_a (hT : pz_T σ.2.1) (hN : ∀ j, j < 30 → w' j = N j) (h : bc_W N W) : ba_W σ w' W := fun b hb => by
  have hse := xt_se b hb
  rw [h b hb]
  exact zsum_congr _ _ (fun i h1 h2 => by rw [ba_Kc hT (by omega) hb, hN i (by omega)])
theorem bc_C_a (hT : pz_T σ.2.1) (hx : ∀ j, j < 30 → x' j = x j) (h : bc_C x N) : ba_C σ x' N := fun b hb => by
  have hse := xt_se b hb
  rw [h b hb]
  exact zsum_congr _ _ (fun i h1 h2 => by rw [ba_Kc hT hb (by omega), hx i (by omega)])
theorem bc_T_a (hT : pz_T σ.2.1) (hx : ∀ j, j < 30 → x' j = x j) (h : bc_T x N) : ba_T σ x' N := fun b hb => by
  have hse := xt_se b hb
  rw [h b hb]
  exact zsum_congr _ _ (fun i h1 h2 => by rw [ba_Xc hT hb (by omega), hx i (by omega)])
theorem bc_from_a {base : Nat} (hb : base < 5) (hT : pz_T σ.2.1) (hw : ∀ j, j < 30 → w' j = w j) (h : bc_from base w F) : ba_from σ base w' F := by
  match base, hb, h with
  | 0, _, h => exact fun b hb => (h b hb).trans (hw b hb).symm
  | 1, _, h => obtain ⟨S, h1, h2⟩ := h; exact ⟨S, bc_S_a hT hw h1, bc_H_a hT h2⟩
  | 2, _, h => obtain ⟨S, h1, h2⟩ := h; exact ⟨S, bc_S_a hT hw h1, bc_H_a hT h2⟩
  | 3, _, h => obtain ⟨S, h1, h2⟩ := h; exact ⟨S, bc_S_a hT hw h1, bc_P_a hT h2⟩
  | 4, _, h => exact bc_S_a hT hw h
  | n + 5, hb, _ => exact absurd hb (by omega)
theorem bc_to_a {base : Nat} (hb : base < 5) (hT : pz_T σ.2.1) (hx : ∀ j, j < 30 → x' j = x j) (h : bc_to base x W) : ba_to σ base x' W := by
  match base, hb, h with
  | 0, _, h => exact fun b hb => (h b hb).trans (hx b hb).symm
  | 1, _, h => obtain ⟨N, h1, h2⟩ := h; exact ⟨N, bc_C_a hT hx h1, bc_W_a hT (fun _ _ => rfl) h2⟩
  | 2, _, h => obtain ⟨N, h1, h2⟩ := h; exact ⟨N, bc_C_a hT hx h1, bc_W_a hT (fun _ _ => rfl) h2⟩
  | 3, _, h => obtain ⟨N, h1, h2⟩ := h; exact ⟨N, bc_T_a hT hx h1, bc_W_a hT (fun _ _ => rfl) h2⟩
  | 4, _, h => exact bc_W_a hT hx h
  | n + 5, hb, _ => exact absurd hb (by omega)
end AD
section AE
variable {l : Launch} {ad : Nat → Nat} {K : bz_K} {σ : bz_S} {kx ky : Nat}
theorem t_from {base : Nat} {w F : Nat → Int64} (hbase : base < 5) (hx : bz_sh kx = (1, 30, 0, [])) (hy : bz_sh ky = (1, 30, 0, [])) (hkx : kx < 73) (hky : ky < 73) (hne : kx ≠ ky) (hx10 : kx ≠ 10) (hx11 : kx ≠ 11) (hy10 : ky ≠ 10) (hy11 : ky ≠ 11) (hT : pz_T σ.2.1) (hw : ∀ j, j < 30 → σ.1 kx j = w j) (hF : bc_from base w F) :
    ∃ σ2, bz_V l ad K 73 mX0_fromWeights 3 none σ2 0 [some (.ref (ad 9)), some (.int (nI base)), some (.ref (ad kx)), some (.ref (ad ky))] [] σ ∧ bz_fw σ σ2 ky ∧ ∀ j, j < 30 → σ2.1 ky j = F j :=
  t_fromW hbase hx hy hkx hky hne hx10 hx11 hy10 hy11 hT (bc_from_a hbase hT hw hF)
theorem t_to {base : Nat} {x W : Nat → Int64} (hbase : base < 5) (hx : bz_sh kx = (1, 30, 0, [])) (hy : bz_sh ky = (1, 30, 0, [])) (hkx : kx < 73) (hky : ky < 73) (hx10 : kx ≠ 10) (hx11 : kx ≠ 11) (hy10 : ky ≠ 10) (hy11 : ky ≠ 11) (hT : pz_T σ.2.1) (hw : ∀ j, j < 30 → σ.1 kx j = x j) (hF : bc_to base x W) :
    ∃ σ2, bz_V l ad K 73 mX0_toWeights 3 none σ2 0 [some (.ref (ad 9)), some (.int (nI base)), some (.ref (ad kx)), some (.ref (ad ky))] [] σ ∧ bz_fw σ σ2 ky ∧ ∀ j, j < 30 → σ2.1 ky j = W j :=
  t_toW hbase hx hy hkx hky hx10 hx11 hy10 hy11 hT (bc_to_a hbase hT hw hF)
end AE
