/-! the reference's constructor: the loop over all codes; layProduct -/
section C5
variable {l : Launch} {ad : Nat → Nat} {K : bz_K} {n : Nat} {σ : bz_S}
theorem m_code_loop {σ0 : bz_S} {d : Nat} (hd : d < 7) {P : bz_S → Prop} (kk : ∀ σ1, in4 σ0 (xp_start (d + 1)) σ1 → ∃ σ', P σ' ∧ bz_V l ad K 73 mX4_init 4 none σ' 193 [some (.ref (ad 54)), some (.int (nI (xp_start (d + 1)))), some (.int (nI d)), some (.int (-1))] [] σ1) :
    ∀ (m a : Nat) (σ : bz_S), m ≤ 117649 → xp_start d ≤ a → a ≤ xp_start (d + 1) → (∀ i, i < 30 → xt_deg i = d → (i < a ↔ m ≤ rc_pc i)) → in4 σ0 a σ → ∃ σ', P σ' ∧ bz_V l ad K 73 mX4_init 4 none σ' 165 [some (.ref (ad 54)), some (.int (nI a)), some (.int (nI d)), some (.int (rc_dz m))] [] σ := by
  have hs := xp_start_le d (by omega)
  intro m
  induction m with
  | zero =>
    intro a σ hm hlo ha hi h
    have : a = xp_start (d + 1) := by
      rcases Nat.lt_or_eq_of_le ha with q | q
      · exfalso
        have := (hi a (by omega) ((rc_rng d hd a (by omega)).mpr ⟨hlo, q⟩)).mpr (Nat.zero_le _)
        omega
      · exact q
    subst this
    obtain ⟨σ', hP, hV⟩ := kk σ h
    refine ⟨σ', hP, ?_⟩
    refine bz_iload_n dX4_init_165 rfl ?_
    refine bz_if_lt (tgt := 193) dX4_init_166 rfl (fun _ => ?_) (fun q => absurd (by decide) q)
    exact hV
  | succ m ih =>
    intro a σ hm hlo ha hi h
    cases hf : rc_fb d 6 m 0 0 with
    | true =>
      obtain ⟨b, hb, hbd, hbm⟩ := rc_only hd (by omega) hf
      have hr := (rc_rng d hd b hb).mp hbd
      have hab : b = a := by
        have h1 : ¬ b < a := fun q => by have := (hi b hb hbd).mp q; omega
        rcases Nat.lt_or_eq_of_le (Nat.not_lt.mp h1) with q | q
        · exfalso
          have hda := (rc_rng d hd a (by omega)).mpr ⟨hlo, by omega⟩
          have := rc_desc a (by omega) b hb (by omega) q
          have := (hi a (by omega) hda).mpr (by omega)
          omega
        · exact q.symm
      subst hab
      obtain ⟨σ1, hin, hV1⟩ := m_layPartition (l := l) (ad := ad) (K := K) hb hbd h
      obtain ⟨σ', hP, hV⟩ := ih (b + 1) σ1 (by omega) (by omega) (by omega) (fun i hi30 hid => by
        constructor
        · intro q
          rcases Nat.lt_or_eq_of_le (Nat.le_of_lt_succ q) with z | z
          · have := rc_desc i hi30 b hb (by omega) z
            omega
          · subst z; omega
        · intro q
          rcases Nat.lt_or_ge b i with z | z
          · have := rc_desc b hb i hi30 (by omega) z
            omega
          · omega) hin
      refine ⟨σ', hP, ?_⟩
      have hV2 : bz_V l ad K 73 mX4_layPartition 1 none σ1 0 [some (.ref (ad 54)), some (.int (nI b)), some (.int (nI m)), some (.int (nI d)), none, none] [] σ := by
        rw [← hbm]; exact hV1
      refine bz_iload_n dX4_init_165 rfl ?_
      refine bz_if_lt (tgt := 193) dX4_init_166 rfl (fun q => absurd q (nI_pos (by omega))) (fun _ => ?_)
      refine bz_iload_n dX4_init_169 rfl ?_
      refine bz_iload_n dX4_init_170 rfl ?_
      refine bz_cS2I (z := 6) mv_X4_isFalling ws_X4_isFalling lk_X4_67 dX4_init_171 (by exact m_isFalling hd (cd := m) (by omega)) (by omega) rfl (Nat.le_of_ble_eq_true rfl) (Nat.le_of_ble_eq_true rfl) ?_
      rw [hf]
      refine bz_if_eq (tgt := 187) dX4_init_174 rfl (fun q => absurd q (by decide)) (fun _ => ?_)
      refine bz_aload_n dX4_init_177 rfl ?_
      refine bz_iload_n dX4_init_178 rfl ?_
      refine bz_iload_n dX4_init_179 rfl ?_
      refine bz_iload_n dX4_init_180 rfl ?_
      refine bz_cV3U (z := 2) mv_X4_layPartition mi_X4_layPartition lk_X4_71 dX4_init_181 (by exact hV2) (by omega) rfl (by omega) rfl rfl rfl (Nat.le_of_ble_eq_true rfl) (Nat.le_of_ble_eq_true rfl) ?_
      first | refine bz_iinc1N dX4_init_184 (by decide) rfl ?_ | refine bz_iinc1 dX4_init_184 rfl (by decide) rfl ?_
      refine bz_iinc3 dX4_init_187 (rc_dz_s m) (by decide) rfl ?_
      refine bz_goto (tgt := 165) dX4_init_190 rfl ?_
      exact hV
    | false =>
      have hno : ∀ i, i < 30 → xt_deg i = d → rc_pc i ≠ m := fun i hi30 hid q => by
        have := rc_is i hi30
        rw [hid, q, hf] at this
        cases this
      obtain ⟨σ', hP, hV⟩ := ih a σ (by omega) hlo ha (fun i hi30 hid => by
        have h1 := hi i hi30 hid
        have h2 := hno i hi30 hid
        rw [h1]
        omega) h
      refine ⟨σ', hP, ?_⟩
      refine bz_iload_n dX4_init_165 rfl ?_
      refine bz_if_lt (tgt := 193) dX4_init_166 rfl (fun q => absurd q (nI_pos (by omega))) (fun _ => ?_)
      refine bz_iload_n dX4_init_169 rfl ?_
      refine bz_iload_n dX4_init_170 rfl ?_
      refine bz_cS2I (z := 6) mv_X4_isFalling ws_X4_isFalling lk_X4_67 dX4_init_171 (by exact m_isFalling hd (cd := m) (by omega)) (by omega) rfl (Nat.le_of_ble_eq_true rfl) (Nat.le_of_ble_eq_true rfl) ?_
      rw [hf]
      refine bz_if_eq (tgt := 187) dX4_init_174 rfl (fun _ => ?_) (fun q => absurd (rfl) q)
      refine bz_iinc3 dX4_init_187 (rc_dz_s m) (by decide) rfl ?_
      refine bz_goto (tgt := 165) dX4_init_190 rfl ?_
      exact hV
theorem m_deg_loop {σ0 : bz_S} {P : bz_S → Prop} (kk : ∀ σ1 x3, in4 σ0 30 σ1 → ∃ σ', P σ' ∧ bz_V l ad K 73 mX4_init 4 none σ' 199 [some (.ref (ad 54)), some (.int (nI 30)), some (.int (nI 7)), x3] [] σ1) :
    ∀ (m d : Nat) (σ : bz_S) (x3 : Option Value), d + m = 7 → in4 σ0 (xp_start d) σ → ∃ σ', P σ' ∧ bz_V l ad K 73 mX4_init 4 none σ' 156 [some (.ref (ad 54)), some (.int (nI (xp_start d))), some (.int (nI d)), x3] [] σ := by
  intro m
  induction m with
  | zero =>
    intro d σ x3 hd h
    obtain rfl : d = 7 := by omega
    obtain ⟨σ', hP, hV⟩ := kk σ x3 h
    refine ⟨σ', hP, ?_⟩
    refine bz_iload_n dX4_init_156 rfl ?_
    refine bz_bipush dX4_init_157 kc_bipush_6 ?_
    refine bz_icmp_gtN (tgt := 199) dX4_init_159 rfl (by omega) (by omega) (fun _ => ?_) (fun q => absurd q (by omega))
    exact hV
  | succ m ih =>
    intro d σ x3 hd h
    have hd7 : d < 7 := by omega
    have hs := xp_start_le d (by omega)
    obtain ⟨σ', hP, hV⟩ := m_code_loop (l := l) (ad := ad) (K := K) (P := P) (σ0 := σ0) hd7 (fun σ1 h1 => by
      obtain ⟨σ', hP, hV⟩ := ih (d + 1) σ1 (some (.int (-1))) (by omega) h1
      refine ⟨σ', hP, ?_⟩
      first | refine bz_iinc2N dX4_init_193 (by decide) rfl ?_ | refine bz_iinc2 dX4_init_193 rfl (by decide) rfl ?_
      refine bz_goto (tgt := 156) dX4_init_196 rfl ?_
      exact hV) 117649 (xp_start d) σ (Nat.le_refl _) (Nat.le_refl _) hs.1 (fun i hi hid => by
        have h1 := (rc_rng d hd7 i hi).mp hid
        have h2 := rc_lt i hi
        omega) h
    refine ⟨σ', hP, ?_⟩
    refine bz_iload_n dX4_init_156 rfl ?_
    refine bz_bipush dX4_init_157 kc_bipush_6 ?_
    refine bz_icmp_gtN (tgt := 199) dX4_init_159 rfl (by omega) (by omega) (fun q => absurd q (by omega)) (fun _ => ?_)
    refine bz_ldc ki_X4_66 dX4_init_162 ?_
    refine bz_ist3 dX4_init_164 (by decide) rfl ?_
    exact hV
end C5
