/-! the reference: numbers before the members of a base -/
theorem z_ss (x y z : Int64) : x - y - z = x - (y + z) := by
  simp only [Int64.sub_eq_add_neg, Int64.neg_add]
  rw [Int64.add_assoc]
theorem z_sc (x y z : Int64) : x - y - z = x - (z + y) := by rw [z_ss, Int64.add_comm y z]
abbrev mm (σ : bz_S) (B a b : Nat) : Int64 := σ.1 58 (30 * (30 * B + a) + b)
/-- rows 63, 64, 65 alone have changed -/
def bz_fd (σ σ2 : bz_S) : Prop := σ2.2 = σ.2 ∧ ∀ j, j < 63 ∨ 65 < j → σ2.1 j = σ.1 j
theorem bz_fd_rf (σ : bz_S) : bz_fd σ σ := ⟨rfl, fun _ _ => rfl⟩
theorem bz_fd_tr {a b c : bz_S} (h2 : bz_fd b c) (h1 : bz_fd a b) : bz_fd a c := ⟨h2.1.trans h1.1, fun j q => (h2.2 j q).trans (h1.2 j q)⟩
theorem bz_fd_set {σ : bz_S} {k : Nat} {f : Nat → Int64} (h : 63 ≤ k ∧ k ≤ 65) : bz_fd σ (bz_setJ σ k f) := ⟨rfl, fun j q => bz_setJ_ne (by omega)⟩
theorem bz_fd_up {σ : bz_S} {k i : Nat} {x : Int64} (h : 63 ≤ k ∧ k ≤ 65) : bz_fd σ (bz_upJ σ k i x) := by rw [bz_upJ_as]; exact bz_fd_set h
/-- behind taking off -/
def to_s (σ : bz_S) (B a : Nat) (t : Int64) : bz_S := bz_setJ (bz_upJ σ 64 a t) 63 (bz_upto (σ.1 63) (fun b => σ.1 63 b - t * mm σ B a b) 30)
theorem to_s_fd (σ : bz_S) (B a : Nat) (t : Int64) : bz_fd σ (to_s σ B a t) := bz_fd_tr (bz_fd_set (by omega)) (bz_fd_up (by omega))
theorem to_s_63 {σ : bz_S} {B a : Nat} {t : Int64} {j : Nat} (hj : j < 30) : (to_s σ B a t).1 63 j = σ.1 63 j - t * mm σ B a j := by
  unfold to_s
  rw [bz_setJ_at, bz_upto_lt hj]
theorem to_s_64 {σ : bz_S} {B a : Nat} {t : Int64} {j : Nat} : (to_s σ B a t).1 64 j = if j = a then t else σ.1 64 j := by
  unfold to_s
  rw [bz_setJ_ne (by omega), bz_upJ_as, bz_setJ_at]
  rfl
/-- what layFound must find, by a base -/
def fd_G (σ : bz_S) (B : Nat) (pi : Nat → Nat) (w G : Nat → Int64) : Prop := ∀ b, b < 30 → G b = w b - zsum (fun b' => G b' * mm σ B (pi b') b) 0 b
def fd_P (σ : bz_S) (w F : Nat → Int64) : Prop := ∀ a, a < 30 → F a = (720 * w a - zsum (fun a' => F a' * mm σ 3 a' a) (a + 1) (29 - a)) / (nI (xt_al a)).toInt64
def fd_C (σ : bz_S) (S C : Nat → Int64) : Prop := ∀ a, a < 30 → C a = S a - zsum (fun a' => C a' * mm σ 4 a a') (a + 1) (29 - a)
theorem xt_al_pos : ∀ a, a < 30 → 0 < xt_al a ∧ xt_al a < 1000 := by decide +kernel
section M7
variable {l : Launch} {ad : Nat → Nat} {K : bz_K} {σ σ' : bz_S} {r : Option Value} {P : bz_S → Prop} {kf fF : Nat}
theorem m_fo_E {G w : Nat → Int64} {σ0 : bz_S} (hT : mz_T σ0.2.1) (hG : fd_G σ0 1 xt_conj w G)
    (kk : ∀ σ1, bz_fd σ0 σ1 → (∀ b, b < 30 → σ1.1 64 (xt_conj b) = G b) → ∃ σ2, bz_V l ad K 73 mX4_layFound 4 none σ2 186 [some (.ref (ad 54)), some (.ref (ad kf)), some (.int (nI fF)), some (.int (nI 1)), some (.int (nI 30))] [] σ1 ∧ P σ2) :
    ∀ (m b : Nat) (σ : bz_S), b + m = 30 → bz_fd σ0 σ → (∀ j, j < 30 → σ.1 63 j = w j - zsum (fun b' => G b' * mm σ0 1 (xt_conj b') j) 0 b) → (∀ b', b' < b → σ.1 64 (xt_conj b') = G b') → ∃ σ2, bz_V l ad K 73 mX4_layFound 4 none σ2 114 [some (.ref (ad 54)), some (.ref (ad kf)), some (.int (nI fF)), some (.int (nI 1)), some (.int (nI b))] [] σ ∧ P σ2 := by
  intro m
  induction m with
  | zero =>
    intro b σ hb hfd hr hf
    obtain rfl : b = 30 := by omega
    obtain ⟨σ2, hV, h⟩ := kk σ hfd hf
    refine ⟨σ2, ?_, h⟩
    refine bz_iload dX4_layFound_114 rfl ?_
    refine bz_bipush dX4_layFound_116 kc_bipush_30 ?_
    refine bz_icmp_geN (tgt := 145) dX4_layFound_118 rfl (by omega) (by omega) (fun _ => ?_) (fun q => absurd q (by omega))
    refine bz_goto (tgt := 186) dX4_layFound_145 rfl ?_
    exact hV
  | succ m ih =>
    intro b σ hb hfd hr hf
    have h30 : b < 30 := by omega
    have hc := xt_conj30 b h30
    have e58 : σ.1 58 = σ0.1 58 := hfd.2 58 (by omega)
    have hTs : mz_T σ.2.1 := by rw [hfd.1]; exact hT
    have hv : σ.1 63 b = G b := (hr b h30).trans (hG b h30).symm
    obtain ⟨σ2, hV, h⟩ := ih (b + 1) (to_s σ 1 (xt_conj b) (G b)) (by omega) (bz_fd_tr (to_s_fd _ _ _ _) hfd)
      (fun j hj => by rw [to_s_63 hj, hr j hj, z_ss, zsum_succ, Nat.zero_add]; unfold mm; rw [e58])
      (fun b' hb' => by
        rw [to_s_64]
        by_cases e : b' = b
        · rw [e, if_pos rfl]
        · rw [if_neg (fun q => e (by rw [← xt_conj2 b' (by omega), q, xt_conj2 b h30]))]
          exact hf b' (by omega))
    refine ⟨σ2, ?_, h⟩
    refine bz_iload dX4_layFound_114 rfl ?_
    refine bz_bipush dX4_layFound_116 kc_bipush_30 ?_
    refine bz_icmp_geN (tgt := 145) dX4_layFound_118 rfl (by omega) (by omega) (fun q => absurd q (by omega)) (fun _ => ?_)
    refine bz_aload_n dX4_layFound_121 rfl ?_
    refine bz_iconst dX4_layFound_122 kc_iconst_1 ?_
    refine bz_aload_n dX4_layFound_123 rfl ?_
    refine bz_iload dX4_layFound_124 rfl ?_
    refine bz_cV1I (z := 4) mv_X4_conjugate mi_X4_conjugate lk_X4_126 dX4_layFound_126 (by exact m_conjugate hTs h30) (by omega) rfl (by omega) rfl rfl rfl (Nat.le_of_ble_eq_true rfl) (Nat.le_of_ble_eq_true rfl) ?_
    refine bz_aload_n dX4_layFound_129 rfl ?_
    refine bz_getf fl_X4_35 dX4_layFound_130 rfl rfl (by omega) ?_
    refine bz_iload dX4_layFound_133 rfl ?_
    refine bz_laload dX4_layFound_135 rfl (by omega) (by omega) ?_
    refine bz_topl hv ?_
    refine bz_cV3U (z := 1) mv_X4_takeOff mi_X4_takeOff lk_X4_137 dX4_layFound_136 (by exact m_takeOff (by omega) hc) (by omega) rfl (by omega) rfl rfl rfl (Nat.le_of_ble_eq_true rfl) (Nat.le_of_ble_eq_true rfl) ?_
    first | refine bz_iinc4N dX4_layFound_139 (by decide) rfl ?_ | refine bz_iinc4 dX4_layFound_139 rfl (by decide) rfl ?_
    refine bz_goto (tgt := 114) dX4_layFound_142 rfl ?_
    exact hV
theorem m_fo_S {G w : Nat → Int64} {base B : Nat} {σ0 : bz_S} (hB : (base = 0 ∧ B = 0) ∨ (0 < base ∧ base < 5 ∧ B = 4)) (hG : fd_G σ0 B id w G)
    (kk : ∀ σ1, bz_fd σ0 σ1 → (∀ b, b < 30 → σ1.1 64 b = G b) → ∃ σ2, bz_V l ad K 73 mX4_layFound 4 none σ2 186 [some (.ref (ad 54)), some (.ref (ad kf)), some (.int (nI fF)), some (.int (nI base)), some (.int (nI 30))] [] σ1 ∧ P σ2) :
    ∀ (m b : Nat) (σ : bz_S), b + m = 30 → bz_fd σ0 σ → (∀ j, j < 30 → σ.1 63 j = w j - zsum (fun b' => G b' * mm σ0 B b' j) 0 b) → (∀ b', b' < b → σ.1 64 b' = G b') → ∃ σ2, bz_V l ad K 73 mX4_layFound 4 none σ2 151 [some (.ref (ad 54)), some (.ref (ad kf)), some (.int (nI fF)), some (.int (nI base)), some (.int (nI b))] [] σ ∧ P σ2 := by
  intro m
  induction m with
  | zero =>
    intro b σ hb hfd hr hf
    obtain rfl : b = 30 := by omega
    obtain ⟨σ2, hV, h⟩ := kk σ hfd hf
    refine ⟨σ2, ?_, h⟩
    refine bz_iload dX4_layFound_151 rfl ?_
    refine bz_bipush dX4_layFound_153 kc_bipush_30 ?_
    refine bz_icmp_geN (tgt := 186) dX4_layFound_155 rfl (by omega) (by omega) (fun _ => ?_) (fun q => absurd q (by omega))
    exact hV
  | succ m ih =>
    intro b σ hb hfd hr hf
    have h30 : b < 30 := by omega
    have e58 : σ.1 58 = σ0.1 58 := hfd.2 58 (by omega)
    have hv : σ.1 63 b = G b := (hr b h30).trans (hG b h30).symm
    obtain ⟨σ2, hV, h⟩ := ih (b + 1) (to_s σ B b (G b)) (by omega) (bz_fd_tr (to_s_fd _ _ _ _) hfd)
      (fun j hj => by rw [to_s_63 hj, hr j hj, z_ss, zsum_succ, Nat.zero_add]; unfold mm; rw [e58])
      (fun b' hb' => by
        rw [to_s_64]
        by_cases e : b' = b
        · rw [if_pos e, e]
        · rw [if_neg e]
          exact hf b' (by omega))
    refine ⟨σ2, ?_, h⟩
    refine bz_iload dX4_layFound_151 rfl ?_
    refine bz_bipush dX4_layFound_153 kc_bipush_30 ?_
    refine bz_icmp_geN (tgt := 186) dX4_layFound_155 rfl (by omega) (by omega) (fun q => absurd q (by omega)) (fun _ => ?_)
    refine bz_aload_n dX4_layFound_158 rfl ?_
    refine bz_iload_n dX4_layFound_159 rfl ?_
    rcases hB with ⟨e1, e2⟩ | ⟨h0, h5, e2⟩
    · subst e1; subst e2
      refine bz_if_ne (tgt := 167) dX4_layFound_160 rfl (fun q => absurd (by decide) q) (fun _ => ?_)
      refine bz_iconst dX4_layFound_163 kc_iconst_0 ?_
      refine bz_goto (tgt := 168) dX4_layFound_164 rfl ?_
      refine bz_iload dX4_layFound_168 rfl ?_
      refine bz_aload_n dX4_layFound_170 rfl ?_
      refine bz_getf fl_X4_35 dX4_layFound_171 rfl rfl (by omega) ?_
      refine bz_iload dX4_layFound_174 rfl ?_
      refine bz_laload dX4_layFound_176 rfl (by omega) (by omega) ?_
      refine bz_topl hv ?_
      refine bz_cV3U (z := 1) mv_X4_takeOff mi_X4_takeOff lk_X4_137 dX4_layFound_177 (by exact m_takeOff (by omega) h30) (by omega) rfl (by omega) rfl rfl rfl (Nat.le_of_ble_eq_true rfl) (Nat.le_of_ble_eq_true rfl) ?_
      first | refine bz_iinc4N dX4_layFound_180 (by decide) rfl ?_ | refine bz_iinc4 dX4_layFound_180 rfl (by decide) rfl ?_
      refine bz_goto (tgt := 151) dX4_layFound_183 rfl ?_
      exact hV
    · subst e2
      refine bz_if_ne (tgt := 167) dX4_layFound_160 rfl (fun _ => ?_) (fun q => absurd q (nI_ne0 h0 (by omega)))
      refine bz_iconst dX4_layFound_167 kc_iconst_4 ?_
      refine bz_iload dX4_layFound_168 rfl ?_
      refine bz_aload_n dX4_layFound_170 rfl ?_
      refine bz_getf fl_X4_35 dX4_layFound_171 rfl rfl (by omega) ?_
      refine bz_iload dX4_layFound_174 rfl ?_
      refine bz_laload dX4_layFound_176 rfl (by omega) (by omega) ?_
      refine bz_topl hv ?_
      refine bz_cV3U (z := 1) mv_X4_takeOff mi_X4_takeOff lk_X4_137 dX4_layFound_177 (by exact m_takeOff (by omega) h30) (by omega) rfl (by omega) rfl rfl rfl (Nat.le_of_ble_eq_true rfl) (Nat.le_of_ble_eq_true rfl) ?_
      first | refine bz_iinc4N dX4_layFound_180 (by decide) rfl ?_ | refine bz_iinc4 dX4_layFound_180 rfl (by decide) rfl ?_
      refine bz_goto (tgt := 151) dX4_layFound_183 rfl ?_
      exact hV
theorem m_fo_P1 {F w : Nat → Int64} {σ0 : bz_S} (hT : mz_T σ0.2.1) (hF : fd_P σ0 w F) {a : Nat} (h30 : a < 30) {σ : bz_S} (hfd : bz_fd σ0 σ) (hr : ∀ j, j < 30 → σ.1 63 j = 720 * w j - zsum (fun a' => F a' * mm σ0 3 a' j) (a + 1) (29 - a)) (hf : ∀ a', a < a' → a' < 30 → σ.1 64 a' = F a')
    (kk : bz_fd σ0 (to_s σ 3 a (F a)) → (∀ j, j < 30 → (to_s σ 3 a (F a)).1 63 j = 720 * w j - zsum (fun a' => F a' * mm σ0 3 a' j) a (30 - a)) → (∀ a', a ≤ a' → a' < 30 → (to_s σ 3 a (F a)).1 64 a' = F a') → ∃ σ2, bz_V l ad K 73 mX4_layFound 4 none σ2 97 [some (.ref (ad 54)), some (.ref (ad kf)), some (.int (nI fF)), some (.int (nI 3)), some (.int (nI a))] [] (to_s σ 3 a (F a)) ∧ P σ2) :
    ∃ σ2, bz_V l ad K 73 mX4_layFound 4 none σ2 70 [some (.ref (ad 54)), some (.ref (ad kf)), some (.int (nI fF)), some (.int (nI 3)), some (.int (nI a))] [] σ ∧ P σ2 := by
  have e58 : σ.1 58 = σ0.1 58 := hfd.2 58 (by omega)
  have hTs : mz_T σ.2.1 := by rw [hfd.1]; exact hT
  have hal := xt_al_pos a h30
  obtain ⟨σ2, hV, h⟩ := kk (bz_fd_tr (to_s_fd _ _ _ _) hfd)
    (fun j hj => by rw [to_s_63 hj, hr j hj, z_sc, show 30 - a = (29 - a) + 1 by omega, zsum]; unfold mm; rw [e58])
    (fun a' h1 h2 => by
      rw [to_s_64]
      by_cases e : a' = a
      · rw [if_pos e, e]
      · rw [if_neg e]
        exact hf a' (by omega) h2)
  refine ⟨σ2, ?_, h⟩
  refine bz_iload dX4_layFound_70 rfl ?_
  refine bz_if_lt (tgt := 103) dX4_layFound_72 rfl (fun q => absurd q (nI_pos (by omega))) (fun _ => ?_)
  refine bz_aload_n dX4_layFound_75 rfl ?_
  refine bz_iconst dX4_layFound_76 kc_iconst_3 ?_
  refine bz_iload dX4_layFound_77 rfl ?_
  refine bz_aload_n dX4_layFound_79 rfl ?_
  refine bz_getf fl_X4_35 dX4_layFound_80 rfl rfl (by omega) ?_
  refine bz_iload dX4_layFound_83 rfl ?_
  refine bz_laload dX4_layFound_85 rfl (by omega) (by omega) ?_
  refine bz_aload_n dX4_layFound_86 rfl ?_
  refine bz_iload dX4_layFound_87 rfl ?_
  refine bz_cV1I (z := 4) mv_X4_alike mi_X4_alike lk_X4_123 dX4_layFound_89 (by exact m_alike hTs h30) (by omega) rfl (by omega) rfl rfl rfl (Nat.le_of_ble_eq_true rfl) (Nat.le_of_ble_eq_true rfl) ?_
  refine bz_i2l dX4_layFound_92 ?_
  refine bz_ldiv dX4_layFound_93 (fun q => absurd q (by
    rw [nI_l (by omega)]
    intro q
    have := (pk_lEQ (a := xt_al a) (b := 0) (by omega) (by omega)).mp q
    omega)) ?_
  refine bz_topl (y := F a) (by rw [hr a h30, hF a h30]) ?_
  refine bz_cV3U (z := 1) mv_X4_takeOff mi_X4_takeOff lk_X4_137 dX4_layFound_94 (by exact m_takeOff (by omega) h30) (by omega) rfl (by omega) rfl rfl rfl (Nat.le_of_ble_eq_true rfl) (Nat.le_of_ble_eq_true rfl) ?_
  exact hV
theorem m_fo_P {F w : Nat → Int64} {σ0 : bz_S} (hT : mz_T σ0.2.1) (hF : fd_P σ0 w F)
    (kk : ∀ σ1 x4, bz_fd σ0 σ1 → (∀ b, b < 30 → σ1.1 64 b = F b) → ∃ σ2, bz_V l ad K 73 mX4_layFound 4 none σ2 186 [some (.ref (ad 54)), some (.ref (ad kf)), some (.int (nI fF)), some (.int (nI 3)), some (.int x4)] [] σ1 ∧ P σ2) :
    ∀ (a : Nat) (σ : bz_S), a < 30 → bz_fd σ0 σ → (∀ j, j < 30 → σ.1 63 j = 720 * w j - zsum (fun a' => F a' * mm σ0 3 a' j) (a + 1) (29 - a)) → (∀ a', a < a' → a' < 30 → σ.1 64 a' = F a') → ∃ σ2, bz_V l ad K 73 mX4_layFound 4 none σ2 70 [some (.ref (ad 54)), some (.ref (ad kf)), some (.int (nI fF)), some (.int (nI 3)), some (.int (nI a))] [] σ ∧ P σ2 := by
  intro a
  induction a with
  | zero =>
    intro σ h30 hfd hr hf
    refine m_fo_P1 hT hF h30 hfd hr hf (fun h1 h2 h3 => ?_)
    obtain ⟨σ2, hV, h⟩ := kk (to_s σ 3 0 (F 0)) (nI 0 + Int32.ofInt (-1)) h1 (fun b hb => h3 b (Nat.zero_le b) hb)
    refine ⟨σ2, ?_, h⟩
    refine bz_iinc4 dX4_layFound_97 rfl (by decide) rfl ?_
    refine bz_goto (tgt := 70) dX4_layFound_100 rfl ?_
    refine bz_iload dX4_layFound_70 rfl ?_
    refine bz_if_lt (tgt := 103) dX4_layFound_72 rfl (fun _ => ?_) (fun q => absurd (by decide) q)
    refine bz_goto (tgt := 186) dX4_layFound_103 rfl ?_
    exact hV
  | succ a ih =>
    intro σ h30 hfd hr hf
    refine m_fo_P1 hT hF h30 hfd hr hf (fun h1 h2 h3 => ?_)
    obtain ⟨σ2, hV, h⟩ := ih (to_s σ 3 (a + 1) (F (a + 1))) (by omega) h1 (fun j hj => by rw [h2 j hj, show 30 - (a + 1) = 29 - a by omega]) (fun a' q1 q2 => h3 a' (by omega) q2)
    refine ⟨σ2, ?_, h⟩
    first | refine bz_idec4N dX4_layFound_97 (by decide) rfl ?_ | refine bz_iinc4 dX4_layFound_97 rfl (by decide) rfl ?_
    refine bz_goto (tgt := 70) dX4_layFound_100 rfl ?_
    exact hV
/-- layComplete -/
theorem m_lc_in {C S : Nat → Int64} {σ0 : bz_S} {a : Nat} (h30 : a < 30)
    (kk : ∀ σ1 : bz_S, bz_fd σ0 σ1 → (∀ j, j < a → σ1.1 64 j = S j - zsum (fun a' => C a' * mm σ0 4 j a') a (30 - a)) → (∀ a', a ≤ a' → a' < 30 → σ1.1 65 a' = C a') → ∃ σ2, bz_V l ad K 73 mX4_layComplete 1 none σ2 59 [some (.ref (ad 54)), some (.int (nI a)), some (.int (nI a))] [] σ1 ∧ P σ2) :
    ∀ (m b : Nat) (σ : bz_S), b + m = a → bz_fd σ0 σ → (∀ j, j < b → σ.1 64 j = S j - zsum (fun a' => C a' * mm σ0 4 j a') a (30 - a)) → (∀ j, b ≤ j → j < a → σ.1 64 j = S j - zsum (fun a' => C a' * mm σ0 4 j a') (a + 1) (29 - a)) → (∀ a', a ≤ a' → a' < 30 → σ.1 65 a' = C a') → ∃ σ2, bz_V l ad K 73 mX4_layComplete 1 none σ2 21 [some (.ref (ad 54)), some (.int (nI a)), some (.int (nI b))] [] σ ∧ P σ2 := by
  intro m
  induction m with
  | zero =>
    intro b σ hb hfd h1 h2 h3
    obtain rfl : b = a := by omega
    obtain ⟨σ2, hV, h⟩ := kk σ hfd h1 h3
    refine ⟨σ2, ?_, h⟩
    refine bz_iload_n dX4_layComplete_21 rfl ?_
    refine bz_iload_n dX4_layComplete_22 rfl ?_
    refine bz_icmp_geN (tgt := 59) dX4_layComplete_23 rfl (by omega) (by omega) (fun _ => ?_) (fun q => absurd q (by omega))
    exact hV
  | succ m ih =>
    intro b σ hb hfd h1 h2 h3
    have e58 : σ.1 58 = σ0.1 58 := hfd.2 58 (by omega)
    obtain ⟨σ2, hV, h⟩ := ih (b + 1) (bz_upJ σ 64 b (σ.1 64 b - σ.1 65 a * mm σ 4 b a)) (by omega) (bz_fd_tr (bz_fd_up (by omega)) hfd)
      (fun j hj => by
        rw [bz_upJ_as, bz_setJ_at]
        unfold vp_updL
        by_cases e : j = b
        · subst e
          rw [if_pos rfl, h2 j (Nat.le_refl j) (by omega), h3 a (Nat.le_refl a) h30, z_sc, show 30 - a = (29 - a) + 1 by omega, zsum]
          unfold mm
          rw [e58]
        · rw [if_neg e]
          exact h1 j (by omega))
      (fun j q1 q2 => by
        rw [bz_upJ_as, bz_setJ_at]
        unfold vp_updL
        rw [if_neg (by omega)]
        exact h2 j (by omega) q2)
      (fun a' q1 q2 => by rw [bz_upJ_as, bz_setJ_ne (by omega)]; exact h3 a' q1 q2)
    refine ⟨σ2, ?_, h⟩
    refine bz_iload_n dX4_layComplete_21 rfl ?_
    refine bz_iload_n dX4_layComplete_22 rfl ?_
    refine bz_icmp_geN (tgt := 59) dX4_layComplete_23 rfl (by omega) (by omega) (fun q => absurd q (by omega)) (fun _ => ?_)
    refine bz_aload_n dX4_layComplete_26 rfl ?_
    refine bz_getf fl_X4_38 dX4_layComplete_27 rfl rfl (by omega) ?_
    refine bz_iload_n dX4_layComplete_30 rfl ?_
    refine bz_dup2 dX4_layComplete_31 rfl rfl ?_
    refine bz_laload dX4_layComplete_32 rfl (by omega) (by omega) ?_
    refine bz_aload_n dX4_layComplete_33 rfl ?_
    refine bz_getf fl_X4_41 dX4_layComplete_34 rfl rfl (by omega) ?_
    refine bz_iload_n dX4_layComplete_37 rfl ?_
    refine bz_laload dX4_layComplete_38 rfl (by omega) (by omega) ?_
    refine bz_aload_n dX4_layComplete_39 rfl ?_
    refine bz_getf fl_X4_19 dX4_layComplete_40 rfl rfl (by omega) ?_
    refine bz_iconst dX4_layComplete_43 kc_iconst_4 ?_
    refine bz_iload_n dX4_layComplete_44 rfl ?_
    refine bz_iload_n dX4_layComplete_45 rfl ?_
    refine bz_cS3I (z := 0) mv_X4_at ws_X4_at lk_X4_75 dX4_layComplete_46 (by exact m_at) (by omega) rfl (Nat.le_of_ble_eq_true rfl) (Nat.le_of_ble_eq_true rfl) ?_
    refine bz_laload dX4_layComplete_49 rfl (by omega) (by omega) ?_
    refine bz_lmul dX4_layComplete_50 ?_
    refine bz_lsub dX4_layComplete_51 ?_
    refine bz_lastore dX4_layComplete_52 rfl (by omega) (by omega) ?_
    first | refine bz_iinc2N dX4_layComplete_53 (by decide) rfl ?_ | refine bz_iinc2 dX4_layComplete_53 rfl (by decide) rfl ?_
    refine bz_goto (tgt := 21) dX4_layComplete_56 rfl ?_
    exact hV
theorem m_lc_1 {C S : Nat → Int64} {σ0 : bz_S} (hC : fd_C σ0 S C) {a : Nat} (h30 : a < 30) {σ : bz_S} {x2 : Option Value} (hfd : bz_fd σ0 σ) (h1 : ∀ j, j ≤ a → σ.1 64 j = S j - zsum (fun a' => C a' * mm σ0 4 j a') (a + 1) (29 - a)) (h3 : ∀ a', a < a' → a' < 30 → σ.1 65 a' = C a')
    (kk : ∀ σ1 : bz_S, bz_fd σ0 σ1 → (∀ j, j < a → σ1.1 64 j = S j - zsum (fun a' => C a' * mm σ0 4 j a') a (30 - a)) → (∀ a', a ≤ a' → a' < 30 → σ1.1 65 a' = C a') → ∃ σ2, bz_V l ad K 73 mX4_layComplete 1 none σ2 59 [some (.ref (ad 54)), some (.int (nI a)), some (.int (nI a))] [] σ1 ∧ P σ2) :
    ∃ σ2, bz_V l ad K 73 mX4_layComplete 1 none σ2 3 [some (.ref (ad 54)), some (.int (nI a)), x2] [] σ ∧ P σ2 := by
  have hv : σ.1 64 a = C a := (h1 a (Nat.le_refl a)).trans (hC a h30).symm
  obtain ⟨σ2, hV, h⟩ := m_lc_in h30 kk a 0 (bz_upJ σ 65 a (C a)) (Nat.zero_add _) (bz_fd_tr (bz_fd_up (by omega)) hfd) (fun j hj => absurd hj (Nat.not_lt_zero j))
    (fun j _ q2 => by rw [bz_upJ_as, bz_setJ_ne (by omega)]; exact h1 j (by omega))
    (fun a' q1 q2 => by
      rw [bz_upJ_as, bz_setJ_at]
      unfold vp_updL
      by_cases e : a' = a
      · rw [if_pos e, e]
      · rw [if_neg e]
        exact h3 a' (by omega) q2)
  refine ⟨σ2, ?_, h⟩
  refine bz_iload_n dX4_layComplete_3 rfl ?_
  refine bz_if_lt (tgt := 65) dX4_layComplete_4 rfl (fun q => absurd q (nI_pos (by omega))) (fun _ => ?_)
  refine bz_aload_n dX4_layComplete_7 rfl ?_
  refine bz_getf fl_X4_41 dX4_layComplete_8 rfl rfl (by omega) ?_
  refine bz_iload_n dX4_layComplete_11 rfl ?_
  refine bz_aload_n dX4_layComplete_12 rfl ?_
  refine bz_getf fl_X4_38 dX4_layComplete_13 rfl rfl (by omega) ?_
  refine bz_iload_n dX4_layComplete_16 rfl ?_
  refine bz_laload dX4_layComplete_17 rfl (by omega) (by omega) ?_
  refine bz_topl hv ?_
  refine bz_lastore dX4_layComplete_18 rfl (by omega) (by omega) ?_
  refine bz_iconst dX4_layComplete_19 kc_iconst_0 ?_
  refine bz_ist2 dX4_layComplete_20 (by decide) rfl ?_
  exact hV
theorem m_lc_2 {C : Nat → Int64} {σ0 : bz_S} : ∀ (m b : Nat) (σ : bz_S) (x2 : Option Value), b + m = 30 → bz_fd σ0 σ → (∀ a', a' < 30 → σ.1 65 a' = C a') → (∀ j, j < b → σ.1 64 j = C j) → ∃ σ2, bz_V l ad K 73 mX4_layComplete 1 none σ2 67 [some (.ref (ad 54)), some (.int (nI b)), x2] [] σ ∧ bz_fd σ0 σ2 ∧ ∀ j, j < 30 → σ2.1 64 j = C j := by
  intro m
  induction m with
  | zero =>
    intro b σ x2 hb hfd h1 h2
    obtain rfl : b = 30 := by omega
    refine ⟨σ, ?_, hfd, h2⟩
    refine bz_iload_n dX4_layComplete_67 rfl ?_
    refine bz_bipush dX4_layComplete_68 kc_bipush_30 ?_
    refine bz_icmp_geN (tgt := 91) dX4_layComplete_70 rfl (by omega) (by omega) (fun _ => ?_) (fun q => absurd q (by omega))
    refine bz_vret dX4_layComplete_91 rfl rfl
  | succ m ih =>
    intro b σ x2 hb hfd h1 h2
    obtain ⟨σ2, hV, h⟩ := ih (b + 1) (bz_upJ σ 64 b (σ.1 65 b)) x2 (by omega) (bz_fd_tr (bz_fd_up (by omega)) hfd) (fun a' q => by rw [bz_upJ_as, bz_setJ_ne (by omega)]; exact h1 a' q)
      (fun j hj => by
        rw [bz_upJ_as, bz_setJ_at]
        unfold vp_updL
        by_cases e : j = b
        · rw [if_pos e, e, h1 b (by omega)]
        · rw [if_neg e]
          exact h2 j (by omega))
    refine ⟨σ2, ?_, h⟩
    refine bz_iload_n dX4_layComplete_67 rfl ?_
    refine bz_bipush dX4_layComplete_68 kc_bipush_30 ?_
    refine bz_icmp_geN (tgt := 91) dX4_layComplete_70 rfl (by omega) (by omega) (fun q => absurd q (by omega)) (fun _ => ?_)
    refine bz_aload_n dX4_layComplete_73 rfl ?_
    refine bz_getf fl_X4_38 dX4_layComplete_74 rfl rfl (by omega) ?_
    refine bz_iload_n dX4_layComplete_77 rfl ?_
    refine bz_aload_n dX4_layComplete_78 rfl ?_
    refine bz_getf fl_X4_41 dX4_layComplete_79 rfl rfl (by omega) ?_
    refine bz_iload_n dX4_layComplete_82 rfl ?_
    refine bz_laload dX4_layComplete_83 rfl (by omega) (by omega) ?_
    refine bz_lastore dX4_layComplete_84 rfl (by omega) (by omega) ?_
    first | refine bz_iinc1N dX4_layComplete_85 (by decide) rfl ?_ | refine bz_iinc1 dX4_layComplete_85 rfl (by decide) rfl ?_
    refine bz_goto (tgt := 67) dX4_layComplete_88 rfl ?_
    exact hV
theorem m_lc_out {C S : Nat → Int64} {σ0 : bz_S} (hC : fd_C σ0 S C) : ∀ (a : Nat) (σ : bz_S) (x2 : Option Value), a < 30 → bz_fd σ0 σ → (∀ j, j ≤ a → σ.1 64 j = S j - zsum (fun a' => C a' * mm σ0 4 j a') (a + 1) (29 - a)) → (∀ a', a < a' → a' < 30 → σ.1 65 a' = C a') → ∃ σ2, bz_V l ad K 73 mX4_layComplete 1 none σ2 3 [some (.ref (ad 54)), some (.int (nI a)), x2] [] σ ∧ bz_fd σ0 σ2 ∧ ∀ j, j < 30 → σ2.1 64 j = C j := by
  intro a
  induction a with
  | zero =>
    intro σ x2 h30 hfd h1 h3
    refine m_lc_1 hC h30 hfd h1 h3 (fun σ1 q1 q2 q3 => ?_)
    obtain ⟨σ2, hV, h⟩ := m_lc_2 (l := l) (ad := ad) (K := K) (C := C) 30 0 σ1 (some (.int (nI 0))) rfl q1 (fun a' q => q3 a' (Nat.zero_le _) q) (fun j hj => absurd hj (Nat.not_lt_zero j))
    refine ⟨σ2, ?_, h⟩
    refine bz_iinc1 dX4_layComplete_59 rfl (by decide) rfl ?_
    refine bz_goto (tgt := 3) dX4_layComplete_62 rfl ?_
    refine bz_iload_n dX4_layComplete_3 rfl ?_
    refine bz_if_lt (tgt := 65) dX4_layComplete_4 rfl (fun _ => ?_) (fun q => absurd (by decide) q)
    refine bz_iconst dX4_layComplete_65 kc_iconst_0 ?_
    refine bz_ist1 dX4_layComplete_66 (by decide) rfl ?_
    exact hV
  | succ a ih =>
    intro σ x2 h30 hfd h1 h3
    refine m_lc_1 hC h30 hfd h1 h3 (fun σ1 q1 q2 q3 => ?_)
    obtain ⟨σ2, hV, h⟩ := ih σ1 (some (.int (nI (a + 1)))) (by omega) q1 (fun j hj => by rw [q2 j (by omega), show 30 - (a + 1) = 29 - a by omega]) (fun a' z1 z2 => q3 a' (by omega) z2)
    refine ⟨σ2, ?_, h⟩
    first | refine bz_idec1N dX4_layComplete_59 (by decide) rfl ?_ | refine bz_iinc1 dX4_layComplete_59 rfl (by decide) rfl ?_
    refine bz_goto (tgt := 3) dX4_layComplete_62 rfl ?_
    exact hV
theorem m_layComplete {C S : Nat → Int64} (hC : fd_C σ S C) (hS : ∀ j, j < 30 → σ.1 64 j = S j) : ∃ σ2, bz_V l ad K 73 mX4_layComplete 1 none σ2 0 [some (.ref (ad 54)), none, none] [] σ ∧ bz_fd σ σ2 ∧ ∀ j, j < 30 → σ2.1 64 j = C j := by
  obtain ⟨σ2, hV, h⟩ := m_lc_out (l := l) (ad := ad) (K := K) hC 29 σ none (by omega) (bz_fd_rf σ) (fun j hj => by rw [hS j (by omega), show 29 - 29 = 0 by omega, zsum]; simp) (fun a' q1 q2 => by omega)
  refine ⟨σ2, ?_, h⟩
  refine bz_bipush dX4_layComplete_0 kc_bipush_29 ?_
  refine bz_ist1 dX4_layComplete_2 (by decide) rfl ?_
  exact hV
end M7
