theorem bz_sh_lt (k : Nat) : (bz_sh k).2.1 < 2 ^ 31 := by
  have h : ∀ q ∈ bz_shl, q.2.1 < 5000 := by decide +kernel
  unfold bz_sh
  rw [List.getD_eq_getElem?_getD]
  cases hk : bz_shl[k]? with
  | none => show (0 : Nat) < _; decide
  | some q =>
    have := h q (List.mem_of_getElem? hk)
    show q.2.1 < _
    omega
theorem bz_sh_len {k a n b : Nat} {fl : List (Option Nat)} (h : bz_sh k = (a, n, b, fl)) : n < 2 ^ 31 := by
  have := bz_sh_lt k
  rw [h] at this
  exact this
/-- the link of a field: which class of vwCl, which of its fields -/
def bz_fl (own : String) (idx ci j : Nat) : Prop := ∃ (C : String) (T : u_T) (N : Nat), vwCl[ci]? = some (C, T, N) ∧ (∀ w ∈ u_ws C T N, w ∈ bz_tbl) ∧ j < N ∧ (Cond.fieldLink own idx (T j).1 (T j).2.1 (T j).2.2.1 ∈ bz_tbl ∨ ∃ host, Cond.fieldLinkNest own idx (T j).1 (T j).2.1 (T j).2.2.1 host ∈ bz_nst)
section BZ2
variable {l : Launch} {ad : Nat → Nat} {K : bz_K} {n : Nat} {M : bz_M} {d : Nat} {r : Option Value} {σ σ' : bz_S} {pc : Nat} {ls : List (Option Value)} {st : List Value}
theorem bz_getfV {k ci b j idx : Nat} {fl : List (Option Nat)} {o : Option Nat} (hf : bz_fl M.2.2.1 idx ci j) (hd : decode M.2.1 pc = .ok (.getfield idx, 3)) (hs : bz_sh k = (4, ci, b, fl)) (hj : fl[j]? = some o) (hk : k < n) (kk : bz_V l ad K n M d r σ' (pc + 3) ls (bz_fv ad σ o :: st) σ) : bz_V l ad K n M d r σ' pc ls (.ref (ad k) :: st) σ := by
  intro p e R s m args below meth c A Q mc ms C hR hQ H locs LS hP hS hl
  obtain ⟨Cn, T, N, h1, h2, h3, h4⟩ := hf
  have he : (bz_ws ad K σ n)[k]? = some (ad k, .inr (ci, fl.map (bz_fv ad σ))) := by rw [bz_ws_at hk, bz_ent4 hs]
  have hv : (fl.map (bz_fv ad σ))[j]? = some (bz_fv ad σ o) := by rw [List.getElem?_map, hj]; rfl
  rcases h4 with h4 | ⟨host, h4⟩
  · exact va_get C.1 C.2.1 C.2.2.2.2.2.1 h2 C.2.2.2.2.1 C.2.2.2.2.2.2.1 hP k he h1 j h3 (C.2.2.2.2.2.1 _ h4) (fun _ q => q) hv hd (kk p e R s m args below meth c A Q mc ms C hR hQ H locs LS hP hS hl)
  · exact va_getN C.1 C.2.1 C.2.2.2.2.2.1 h2 C.2.2.2.2.1 C.2.2.2.2.2.2.1 hP k he h1 j h3 (va_Nw.use (bz_nst_on h4) (C.2.2.2.2.2.2.2.1 _ h4)) (fun _ q => q) hv hd (kk p e R s m args below meth c A Q mc ms C hR hQ H locs LS hP hS hl)
theorem bz_getf {k ci b j idx q : Nat} {fl : List (Option Nat)} (hf : bz_fl M.2.2.1 idx ci j) (hd : decode M.2.1 pc = .ok (.getfield idx, 3)) (hs : bz_sh k = (4, ci, b, fl)) (hj : fl[j]? = some (some q)) (hk : k < n) (kk : bz_V l ad K n M d r σ' (pc + 3) ls (.ref (ad q) :: st) σ) : bz_V l ad K n M d r σ' pc ls (.ref (ad k) :: st) σ := bz_getfV hf hd hs hj hk kk
theorem bz_getB {k ci b j idx : Nat} {fl : List (Option Nat)} (hf : bz_fl M.2.2.1 idx ci j) (hd : decode M.2.1 pc = .ok (.getfield idx, 3)) (hs : bz_sh k = (4, ci, b, fl)) (hj : fl[j]? = some none) (hk : k < n) (kk : bz_V l ad K n M d r σ' (pc + 3) ls (.int σ.2.2 :: st) σ) : bz_V l ad K n M d r σ' pc ls (.ref (ad k) :: st) σ := bz_getfV hf hd hs hj hk kk
theorem bz_iaload {k len b i : Nat} {fl : List (Option Nat)} (hd : decode M.2.1 pc = .ok (.iaload, 1)) (hs : bz_sh k = (0, len, b, fl)) (hk : k < n) (hi : i < len) (kk : bz_V l ad K n M d r σ' (pc + 1) ls (.int (σ.2.1 k i) :: st) σ) : bz_V l ad K n M d r σ' pc ls (.int (nI i) :: .ref (ad k) :: st) σ := by
  intro p e R s m args below meth c A Q mc ms C hR hQ H locs LS hP hS hl
  have hlen := bz_sh_len hs
  refine va_iald C.1 C.2.1 C.2.2.2.2.2.2.1 hP k 0 (by rw [bz_ws_at hk, bz_ent0 hs]) rfl (vp_in_nI hi hlen) hd ?_
  rw [nI_clamp (by omega)]
  exact kk p e R s m args below meth c A Q mc ms C hR hQ H locs LS hP hS hl
theorem bz_laload {k len b i : Nat} {fl : List (Option Nat)} (hd : decode M.2.1 pc = .ok (.laload, 1)) (hs : bz_sh k = (1, len, b, fl)) (hk : k < n) (hi : i < len) (kk : bz_V l ad K n M d r σ' (pc + 1) ls (.long (σ.1 k i) :: st) σ) : bz_V l ad K n M d r σ' pc ls (.int (nI i) :: .ref (ad k) :: st) σ := by
  intro p e R s m args below meth c A Q mc ms C hR hQ H locs LS hP hS hl
  have hlen := bz_sh_len hs
  refine va_lald C.1 C.2.1 C.2.2.2.2.2.2.1 hP k 1 (by rw [bz_ws_at hk, bz_ent1 hs]) rfl (vp_in_nI hi hlen) hd ?_
  rw [nI_clamp (by omega)]
  exact kk p e R s m args below meth c A Q mc ms C hR hQ H locs LS hP hS hl
theorem bz_baload {k len b i : Nat} {fl : List (Option Nat)} (hd : decode M.2.1 pc = .ok (.baload, 1)) (hs : bz_sh k = (2, len, b, fl)) (hk : k < n) (hi : i < len) (kk : bz_V l ad K n M d r σ' (pc + 1) ls (.int (σ.2.1 k i) :: st) σ) : bz_V l ad K n M d r σ' pc ls (.int (nI i) :: .ref (ad k) :: st) σ := by
  intro p e R s m args below meth c A Q mc ms C hR hQ H locs LS hP hS hl
  have hlen := bz_sh_len hs
  refine va_zald C.1 C.2.1 C.2.2.2.2.2.2.1 hP k 2 (by rw [bz_ws_at hk, bz_ent2 hs]) rfl (vp_in_nI hi hlen) hd ?_
  rw [nI_clamp (by omega)]
  exact kk p e R s m args below meth c A Q mc ms C hR hQ H locs LS hP hS hl
theorem bz_aaload {k len b i : Nat} {fl : List (Option Nat)} (hd : decode M.2.1 pc = .ok (.aaload, 1)) (hs : bz_sh k = (3, len, b, fl)) (hk : k < n) (hi : i < len) (kk : bz_V l ad K n M d r σ' (pc + 1) ls (.ref (ad (b + i)) :: st) σ) : bz_V l ad K n M d r σ' pc ls (.int (nI i) :: .ref (ad k) :: st) σ := by
  intro p e R s m args below meth c A Q mc ms C hR hQ H locs LS hP hS hl
  have hlen := bz_sh_len hs
  have hK := C.2.2.2.2.2.2.1
  have ha : (bz_ws ad K σ n)[k]? = some (ad k, .inl (K.2.2.2.2.1, len, .inr (.inr (.inr (.inr (fun i => if i < len then some (ad (b + i)) else none)))))) := by rw [bz_ws_at hk, bz_ent3 hs]
  have hin := vp_in_nI hi hlen
  refine W.aald (v := .ref (ad (b + i))) (ty := .array .long) C.1 C.2.1 (hP k _ ha) ((hK.2 3 _ rfl).1 len (fun j => va_rf (if j < len then some (ad (b + j)) else none))) rfl (fun q => by cases q) (by show ¬ (nI i < 0 ∨ (arrV _ _ _).slots.size ≤ _); rw [arrV_size]; exact hin) (by show (arrV _ _ _).slots[_]? = _; rw [nI_clamp (by omega), arrV_read _ _ hi]; simp [hi, va_rf]) rfl rfl hd ?_
  exact kk p e R s m args below meth c A Q mc ms C hR hQ H locs LS hP hS hl
theorem bz_alen {k len b : Nat} {fl : List (Option Nat)} (hd : decode M.2.1 pc = .ok (.arraylength, 1)) (hs : bz_sh k = (1, len, b, fl)) (hk : k < n) (kk : bz_V l ad K n M d r σ' (pc + 1) ls (.int (nI len) :: st) σ) : bz_V l ad K n M d r σ' pc ls (.ref (ad k) :: st) σ := by
  intro p e R s m args below meth c A Q mc ms C hR hQ H locs LS hP hS hl
  exact va_alen (x := (len, .inr (.inl (σ.1 k)))) C.1 C.2.1 C.2.2.2.2.2.2.1 hP k 1 (by rw [bz_ws_at hk, bz_ent1 hs]) rfl rfl hd (kk p e R s m args below meth c A Q mc ms C hR hQ H locs LS hP hS hl)
theorem bz_lastore {k len b i : Nat} {x : Int64} {fl : List (Option Nat)} (hd : decode M.2.1 pc = .ok (.lastore, 1)) (hs : bz_sh k = (1, len, b, fl)) (hk : k < n) (hi : i < len) (kk : bz_V l ad K n M d r σ' (pc + 1) ls st (bz_upJ σ k i x)) : bz_V l ad K n M d r σ' pc ls (.long x :: .int (nI i) :: .ref (ad k) :: st) σ := by
  intro p e R s m args below meth c A Q mc ms C hR hQ H locs LS hP hS hl
  have hlen := bz_sh_len hs
  refine va_last C.1 C.2.1 C.2.2.2.2.2.2.1 hP (bz_D C.2.2.2.2.2.2) hS k 1 (by rw [bz_ws_at hk, bz_ent1 hs]) rfl (vp_in_nI hi hlen) hd (fun H1 locs1 hP1 _ hS1 => ?_)
  rw [nI_clamp (by omega), bz_set_eq (ad := ad) (K := K) (σ := σ) (n := n) (k := k) (σ1 := bz_upJ σ k i x) (by rw [bz_ent1 hs]; simp [bz_upJ]) (fun j hj => bz_ent_congr (by simp [bz_upJ, hj]) rfl rfl)] at hP1
  exact kk p e R s m args below meth c A Q mc ms C hR hQ H1 locs1 LS hP1 hS1 hl
theorem bz_iastore {k len b i : Nat} {x : Int32} {fl : List (Option Nat)} (hd : decode M.2.1 pc = .ok (.iastore, 1)) (hs : bz_sh k = (0, len, b, fl)) (hk : k < n) (hi : i < len) (kk : bz_V l ad K n M d r σ' (pc + 1) ls st (bz_upI σ k i x)) : bz_V l ad K n M d r σ' pc ls (.int x :: .int (nI i) :: .ref (ad k) :: st) σ := by
  intro p e R s m args below meth c A Q mc ms C hR hQ H locs LS hP hS hl
  have hlen := bz_sh_len hs
  refine va_iast C.1 C.2.1 C.2.2.2.2.2.2.1 hP (bz_D C.2.2.2.2.2.2) hS k 0 (by rw [bz_ws_at hk, bz_ent0 hs]) rfl (vp_in_nI hi hlen) hd (fun H1 locs1 hP1 _ hS1 => ?_)
  rw [nI_clamp (by omega), bz_set_eq (ad := ad) (K := K) (σ := σ) (n := n) (k := k) (σ1 := bz_upI σ k i x) (by rw [bz_ent0 hs]; simp [bz_upI]) (fun j hj => bz_ent_congr rfl (by simp [bz_upI, hj]) rfl)] at hP1
  exact kk p e R s m args below meth c A Q mc ms C hR hQ H1 locs1 LS hP1 hS1 hl
theorem bz_bastore {k len b i : Nat} {x : Int32} {fl : List (Option Nat)} (hd : decode M.2.1 pc = .ok (.bastore, 1)) (hs : bz_sh k = (2, len, b, fl)) (hk : k < n) (hi : i < len) (hx : vp_nar .boolean x = x) (kk : bz_V l ad K n M d r σ' (pc + 1) ls st (bz_upI σ k i x)) : bz_V l ad K n M d r σ' pc ls (.int x :: .int (nI i) :: .ref (ad k) :: st) σ := by
  intro p e R s m args below meth c A Q mc ms C hR hQ H locs LS hP hS hl
  have hlen := bz_sh_len hs
  refine va_zast C.1 C.2.1 C.2.2.2.2.2.2.1 hP (bz_D C.2.2.2.2.2.2) hS k 2 (by rw [bz_ws_at hk, bz_ent2 hs]) rfl (vp_in_nI hi hlen) hd (fun H1 locs1 hP1 _ hS1 => ?_)
  rw [hx, nI_clamp (by omega), bz_set_eq (ad := ad) (K := K) (σ := σ) (n := n) (k := k) (σ1 := bz_upI σ k i x) (by rw [bz_ent2 hs]; simp [bz_upI]) (fun j hj => bz_ent_congr rfl (by simp [bz_upI, hj]) rfl)] at hP1
  exact kk p e R s m args below meth c A Q mc ms C hR hQ H1 locs1 LS hP1 hS1 hl
theorem bz_getST {idx : Nat} (hf : Cond.fieldLink M.2.2.1 idx RX1 "STARTS" "[I" ∈ bz_tbl) (hd : decode M.2.1 pc = .ok (.getstatic idx, 3)) (kk : bz_V l ad K n M d r σ' (pc + 3) ls (.ref K.2.2.2.2.2.1 :: st) σ) : bz_V l ad K n M d r σ' pc ls st σ := by
  intro p e R s m args below meth c A Q mc ms C hR hQ H locs LS hP hS hl
  exact va_gets C.1 C.2.1 C.2.2.2.2.2.2.2.2.2.2.1 hS C.2.2.2.2.1 (C.2.2.2.2.2.1 _ hf) (fun _ q => q) hd (kk p e R s m args below meth c A Q mc ms C hR hQ H locs LS hP hS hl)
theorem bz_getPA {idx : Nat} (hf : Cond.fieldLink M.2.2.1 idx RX1 "PARTS" "[I" ∈ bz_tbl) (hd : decode M.2.1 pc = .ok (.getstatic idx, 3)) (kk : bz_V l ad K n M d r σ' (pc + 3) ls (.ref K.2.2.2.2.2.2 :: st) σ) : bz_V l ad K n M d r σ' pc ls st σ := by
  intro p e R s m args below meth c A Q mc ms C hR hQ H locs LS hP hS hl
  exact va_gets C.1 C.2.1 C.2.2.2.2.2.2.2.2.2.2.2.2.1 hS C.2.2.2.2.1 (C.2.2.2.2.2.1 _ hf) (fun _ q => q) hd (kk p e R s m args below meth c A Q mc ms C hR hQ H locs LS hP hS hl)
theorem bz_ldST {i : Nat} (hd : decode M.2.1 pc = .ok (.iaload, 1)) (hi : i < 8) (kk : bz_V l ad K n M d r σ' (pc + 1) ls (.int (bz_STARTS i) :: st) σ) : bz_V l ad K n M d r σ' pc ls (.int (nI i) :: .ref K.2.2.2.2.2.1 :: st) σ := by
  intro p e R s m args below meth c A Q mc ms C hR hQ H locs LS hP hS hl
  exact va_ti C.1 C.2.1 C.2.2.2.2.2.2.2.2.2.2.2.1 hS (vp_in_nI hi (by decide)) (by rw [nI_clamp (by omega)]) hd (kk p e R s m args below meth c A Q mc ms C hR hQ H locs LS hP hS hl)
theorem bz_ldPA {i : Nat} (hd : decode M.2.1 pc = .ok (.iaload, 1)) (hi : i < 180) (kk : bz_V l ad K n M d r σ' (pc + 1) ls (.int (bz_PARTS i) :: st) σ) : bz_V l ad K n M d r σ' pc ls (.int (nI i) :: .ref K.2.2.2.2.2.2 :: st) σ := by
  intro p e R s m args below meth c A Q mc ms C hR hQ H locs LS hP hS hl
  exact va_ti C.1 C.2.1 C.2.2.2.2.2.2.2.2.2.2.2.2.2 hS (vp_in_nI hi (by decide)) (by rw [nI_clamp (by omega)]) hd (kk p e R s m args below meth c A Q mc ms C hR hQ H locs LS hP hS hl)
/-- System.arraycopy(a, 0, b, 0, 30) of two rows of 30 longs -/
theorem bz_copy {k0 k1 b0 b1 idx : Nat} {f0 f1 : List (Option Nat)} (hf : Cond.methodLink M.2.2.1 idx arraycopyName ∈ bz_tbl) (h1 : Cond.native arraycopyName ∈ bz_tbl) (h2 : Cond.static arraycopyName ∈ bz_tbl) (h3 : Cond.initialized "java/lang/System" ∈ bz_tbl) (hdd : 2 ≤ d) (hd : decode M.2.1 pc = .ok (.invokestatic idx, 3)) (hs0 : bz_sh k0 = (1, 30, b0, f0)) (hs1 : bz_sh k1 = (1, 30, b1, f1)) (hk0 : k0 < n) (hk1 : k1 < n) (hrest : (st.map fun v => v.category).sum ≤ 8)
    (kk : bz_V l ad K n M d r σ' (pc + 3) ls st (bz_setJ σ k1 (fun j => if j < 30 then σ.1 k0 j else σ.1 k1 j))) : bz_V l ad K n M d r σ' pc ls (.int (nI 30) :: .int (nI 0) :: .ref (ad k1) :: .int (nI 0) :: .ref (ad k0) :: st) σ := by
  intro p e R s m args below meth c A Q mc ms C hR hQ H locs LS hP hS hl
  have hw : nativeFrameWords "java/lang/System" "arraycopy" 5 + 11 ≤ 60 := by decide +kernel
  refine va_copyl C.1 C.2.1 (C.2.2.2.1.trans hl.1.symm) C.2.2.2.2.1 (C.2.2.2.2.2.1 _ hf) (C.2.2.2.2.2.1 _ h1) (C.2.2.2.2.2.1 _ h2) (C.2.2.2.2.2.1 _ h3) C.2.2.2.2.2.2.1 hP (bz_D C.2.2.2.2.2.2) hS k0 k1 1 1 (by rw [bz_ws_at hk0, bz_ent1 hs0]) (by rw [bz_ws_at hk1, bz_ent1 hs1]) (ty := .long) rfl rfl rfl (by decide) (by decide) (by decide) (by decide) (by decide) (fun i _ => rfl) (by omega) (by omega) hd (fun H1 locs1 hP1 _ hS1 => ?_)
  have ee : va_cpy (σ.1 k0) (σ.1 k1) (nI 0).toNatClampNeg (nI 0).toNatClampNeg (nI 30).toNatClampNeg = fun j => if j < 30 then σ.1 k0 j else σ.1 k1 j := by
    funext j
    rw [nI_clamp (by decide), nI_clamp (by decide)]
    simp [va_cpy]
  rw [ee, bz_set_eq (ad := ad) (K := K) (σ := σ) (n := n) (k := k1) (σ1 := bz_setJ σ k1 (fun j => if j < 30 then σ.1 k0 j else σ.1 k1 j)) (by rw [bz_ent1 hs1]; simp [bz_setJ]) (fun j hj => bz_ent_congr (by simp [bz_setJ, hj]) rfl rfl)] at hP1
  exact kk p e R s m args below meth c A Q mc ms C hR hQ H1 locs1 LS hP1 hS1 hl
theorem bz_mmin {x y : Int32} {idx : Nat} (hf : Cond.methodLink M.2.2.1 idx Lib.Math.min.name ∈ bz_tbl) (h1 : Cond.static Lib.Math.min.name ∈ bz_tbl) (h2 : Cond.initialized "java/lang/Math" ∈ bz_tbl) (h3 : Cond.code Lib.Math.min.name Lib.Math.min.code 2 (some .int) ∈ bz_tbl) (hdd : 1 ≤ d) (hd : decode M.2.1 pc = .ok (.invokestatic idx, 3)) (hrest : (st.map fun v => v.category).sum ≤ 8) (kk : bz_V l ad K n M d r σ' (pc + 3) ls (.int (if y < x then y else x) :: st) σ) : bz_V l ad K n M d r σ' pc ls (.int y :: .int x :: st) σ := by
  intro p e R s m args below meth c A Q mc ms C hR hQ H locs LS hP hS hl
  exact va_mmin C.1 C.2.1 (C.2.2.2.1.trans hl.1.symm) C.2.2.2.2.1 (C.2.2.2.2.2.1 _ hf) (C.2.2.2.2.2.1 _ h1) (C.2.2.2.2.2.1 _ h2) (C.2.2.2.2.2.1 _ h3) (by omega) (by omega) hR.2.2.1 hR.2.2.2 hd (kk p e R s m args below meth c A Q mc ms C hR hQ H locs LS hP hS hl)
theorem bz_mabs {x : Int64} {idx : Nat} (hf : Cond.methodLink M.2.2.1 idx Lib.MathLoose.abs_long.x ∈ bz_tbl) (h1 : Cond.static Lib.MathLoose.abs_long.x ∈ bz_tbl) (h2 : Cond.initialized "java/lang/Math" ∈ bz_tbl) (h3 : Cond.code Lib.MathLoose.abs_long.x Lib.MathLoose.abs_long.code 2 (some .long) ∈ bz_tbl) (hdd : 1 ≤ d) (hd : decode M.2.1 pc = .ok (.invokestatic idx, 3)) (hrest : (st.map fun v => v.category).sum ≤ 8) (kk : bz_V l ad K n M d r σ' (pc + 3) ls (.long (if 0 < x then x else -x) :: st) σ) : bz_V l ad K n M d r σ' pc ls (.long x :: st) σ := by
  intro p e R s m args below meth c A Q mc ms C hR hQ H locs LS hP hS hl
  exact va_mabs_long C.1 C.2.1 (C.2.2.2.1.trans hl.1.symm) C.2.2.2.2.1 (C.2.2.2.2.2.1 _ hf) (C.2.2.2.2.2.1 _ h1) (C.2.2.2.2.2.1 _ h2) (C.2.2.2.2.2.1 _ h3) (by omega) (by omega) hR.2.2.1 hR.2.2.2 hd (kk p e R s m args below meth c A Q mc ms C hR hQ H locs LS hP hS hl)
theorem bz_ldc2 {x : Int64} {idx : Nat} (hf : Cond.constantLong M.2.2.1 idx x ∈ bz_tbl) (hd : decode M.2.1 pc = .ok (.ldc2_w idx, 3)) (kk : bz_V l ad K n M d r σ' (pc + 3) ls (.long x :: st) σ) : bz_V l ad K n M d r σ' pc ls st σ := by
  intro p e R s m args below meth c A Q mc ms C hR hQ H locs LS hP hS hl
  exact lv_ldc2 C.1 C.2.1 C.2.2.2.2.1 (C.2.2.2.2.2.1 _ hf) hd (kk p e R s m args below meth c A Q mc ms C hR hQ H locs LS hP hS hl)
theorem bz_ldc {x : Int32} {idx : Nat} (hf : Cond.constant M.2.2.1 idx x ∈ bz_tbl) (hd : decode M.2.1 pc = .ok (.ldc idx, 2)) (kk : bz_V l ad K n M d r σ' (pc + 2) ls (.int x :: st) σ) : bz_V l ad K n M d r σ' pc ls st σ := by
  intro p e R s m args below meth c A Q mc ms C hR hQ H locs LS hP hS hl
  exact lv_ldc C.1 C.2.1 C.2.2.2.2.1 (C.2.2.2.2.2.1 _ hf) hd (kk p e R s m args below meth c A Q mc ms C hR hQ H locs LS hP hS hl)
theorem bz_tblIn {dflt lo hi off : Int} {offs : Array Int} {len tgt : Nat} {x : Int32} (hd : decode M.2.1 pc = .ok (.tableswitch dflt lo hi offs, len)) (h1 : ¬ x.toInt < lo) (h2 : ¬ hi < x.toInt) (ho : offs[(x.toInt - lo).toNat]? = some off) (ht : (pc : Int) + off = (tgt : Int)) (kk : bz_V l ad K n M d r σ' tgt ls st σ) : bz_V l ad K n M d r σ' pc ls (.int x :: st) σ := by
  intro p e R s m args below meth c A Q mc ms C hR hQ H locs LS hP hS hl
  exact lv_tableIn C.1 C.2.1 hd h1 h2 ho ht (kk p e R s m args below meth c A Q mc ms C hR hQ H locs LS hP hS hl)
theorem bz_tblOut {dflt lo hi : Int} {offs : Array Int} {len tgt : Nat} {x : Int32} (hd : decode M.2.1 pc = .ok (.tableswitch dflt lo hi offs, len)) (h : x.toInt < lo ∨ hi < x.toInt) (ht : (pc : Int) + dflt = (tgt : Int)) (kk : bz_V l ad K n M d r σ' tgt ls st σ) : bz_V l ad K n M d r σ' pc ls (.int x :: st) σ := by
  intro p e R s m args below meth c A Q mc ms C hR hQ H locs LS hP hS hl
  exact lv_tableOut C.1 C.2.1 hd h ht (kk p e R s m args below meth c A Q mc ms C hR hQ H locs LS hP hS hl)
/-- returns -/
theorem bz_iret {x y : Int32} (hd : decode M.2.1 pc = .ok (.ireturn, 1)) (hr : M.2.2.2.2 = some .int) (hx : x = y) (hσ : σ = σ') : bz_V l ad K n M d (some (.int y)) σ' pc ls [.int x] σ := by
  intro p e R s m args below meth c A Q mc ms C hR hQ H locs LS hP hS hl
  subst hx; subst hσ
  exact hQ pc H locs LS ⟨hd, Or.inl hr⟩ hP hS hl.1
theorem bz_zret {x y : Int32} (hd : decode M.2.1 pc = .ok (.ireturn, 1)) (hr : M.2.2.2.2 = some .boolean) (hn : narrow .boolean (.int x) = .int x) (hx : x = y) (hσ : σ = σ') : bz_V l ad K n M d (some (.int y)) σ' pc ls [.int x] σ := by
  intro p e R s m args below meth c A Q mc ms C hR hQ H locs LS hP hS hl
  subst hx; subst hσ
  exact hQ pc H locs LS ⟨hd, Or.inr ⟨hr, hn⟩⟩ hP hS hl.1
theorem bz_lret {x y : Int64} (hd : decode M.2.1 pc = .ok (.lreturn, 1)) (hr : M.2.2.2.2 = some .long) (hx : x = y) (hσ : σ = σ') : bz_V l ad K n M d (some (.long y)) σ' pc ls [.long x] σ := by
  intro p e R s m args below meth c A Q mc ms C hR hQ H locs LS hP hS hl
  subst hx; subst hσ
  exact hQ pc H locs LS ⟨hd, hr⟩ hP hS hl.1
theorem bz_vret (hd : decode M.2.1 pc = .ok (.return_, 1)) (hr : M.2.2.2.2 = none) (hσ : σ = σ') : bz_V l ad K n M d none σ' pc ls [] σ := by
  intro p e R s m args below meth c A Q mc ms C hR hQ H locs LS hP hS hl
  subst hσ
  exact hQ pc H locs LS ⟨hd, hr⟩ hP hS hl.1
theorem bz_mono {d2 : Nat} (h : d ≤ d2) (k : bz_V l ad K n M d r σ' pc ls st σ) : bz_V l ad K n M d2 r σ' pc ls st σ := by
  intro p e R s m args below meth c A Q mc ms C hR hQ H locs LS hP hS hl
  exact k p e R s m args below meth c A Q mc ms C ⟨by omega, by omega, hR.2.2⟩ hQ H locs LS hP hS hl
end BZ2
/-! calls -/
def bz_rm (d : Nat) : Room := { frames := d, cells := 0, slots := 0, locals := 38 * d }
def bz_w (M : bz_M) : List Cond := Cond.code M.1 M.2.1 M.2.2.2.1 M.2.2.2.2 :: bz_tbl
def bz_arg : List Value → List (Option Value)
  | [] => []
  | v :: vs => if v.category = 2 then some v :: none :: bz_arg vs else some v :: bz_arg vs
theorem bz_arg_in : ∀ (av : List Value) (j i : Nat) (v : Value), (bz_arg av)[i]? = some (some v) → (j + i, v) ∈ lv_args j av := by
  intro av
  induction av with
  | nil => intro j i v h; simp [bz_arg] at h
  | cons a t ih =>
    intro j i v h
    unfold bz_arg at h
    unfold lv_args
    by_cases hc : a.category = 2
    · rw [if_pos hc] at h
      rw [if_pos hc]
      match i, h with
      | 0, h => cases h; exact List.mem_cons_self
      | 1, h => cases h
      | i + 2, h =>
        have := ih (j + 2) i v h
        rw [show j + 2 + i = j + (i + 2) by omega] at this
        exact List.mem_cons_of_mem _ this
    · rw [if_neg hc] at h
      rw [if_neg hc]
      match i, h with
      | 0, h => cases h; exact List.mem_cons_self
      | i + 1, h =>
        have := ih (j + 1) i v h
        rw [show j + 1 + i = j + (i + 1) by omega] at this
        exact List.mem_cons_of_mem _ this
def bz_B (ad : Nat → Nat) (K : bz_K) (n : Nat) (σ : bz_S) (U : State) : Prop := va_P K.1 vwCl (bz_ws ad K σ n) U.heap ∧ bz_G ad K n (bz_Af ad n) U
def bz_Q (ad : Nat → Nat) (K : bz_K) (n : Nat) (r : Option Value) (σ' : bz_S) : Array Value → State → Outcome → State → Prop := fun _ st oc t => oc = .returned r ∧ va_P K.1 vwCl (bz_ws ad K σ' n) t.heap ∧ va_F (bz_Af ad n) st t
theorem bz_G_same {ad : Nat → Nat} {K : bz_K} {n : Nat} {A : Nat → Prop} {U U' : State} (h : bz_G ad K n A U) (hv : U.vm = U'.vm) (hh : U.heap = U'.heap) : bz_G ad K n A U' := by
  obtain ⟨h1, h2, h3, h4, h5, h6, h7, h8⟩ := h
  have ha : U.vm.Alike U'.vm := by rw [← hv]; exact Vm.Alike.refl U.vm
  refine ⟨va_K.moved ha h1, fun w hw => (h2 w hw).same (bz_nst_on hw) hv, h3, h4, ?_, ?_, ?_, ?_⟩
  · rw [← hh]; exact h5.moved ha
  · rw [← hh]; exact h6.moved ha
  · rw [← hh]; exact h7.moved ha
  · rw [← hh]; exact h8.moved ha
theorem bz_G_move {ad : Nat → Nat} {K : bz_K} {n : Nat} {A : Nat → Prop} {s U : State} {H : Heap} {locs : List Loc} (h : bz_G ad K n A s) (hS : va_S A s.heap H locs) (hU : U.heap = H) (hW : s.WarmedH U.vm) : bz_G ad K n (bz_Af ad n) U := by
  obtain ⟨h1, h2, h3, h4, h5, h6, h7, h8⟩ := h
  have hA : ∀ q, bz_Af ad n q → A q := fun q ⟨k, hk, e⟩ => by rw [e]; exact h4 k hk
  refine ⟨va_K.moved hW.alike h1, fun w hw => bz_nst_warm hw hW (h2 w hw), h3, fun k hk => ⟨k, hk, rfl⟩, ?_, ?_, ?_, ?_⟩
  · rw [hU]; exact ((h5.moved hW.alike).kept hS.2.1).narrow hA
  · rw [hU]; exact ((h6.moved hW.alike).kept hS.2.1).narrow hA
  · rw [hU]; exact ((h7.moved hW.alike).kept hS.2.1).narrow hA
  · rw [hU]; exact ((h8.moved hW.alike).kept hS.2.1).narrow hA
/-- what the tables say of a method -/
def bz_mv (M : bz_M) (N : Nat) : Prop := M.2.2.1 = M.1.cls ∧ plainName M.1.cls = true ∧ Cond.code M.1 M.2.1 M.2.2.2.1 M.2.2.2.2 ∈ bz_tbl ∧ Cond.initialized M.1.cls ∈ bz_tbl ∧ (M.1.cls ≠ "java/lang/invoke/MethodHandle" ∧ M.1.cls ≠ "java/lang/invoke/VarHandle" ∧ (parseMethodDescriptor M.1.desc).map (fun d => d.parameters.length) = some N) ∧ M.2.2.2.1 ≤ 19
def bz_mi (M : bz_M) : Prop := Cond.instanceMethod M.1 ∈ bz_tbl ∧ Cond.selects M.1.cls M.1 M.1 ∈ bz_tbl
theorem bz_tbl_good : GoodIn bz_tbl bz_tbl := fun _ h => ⟨h, good_of_word (List.mem_filter.mp h).2⟩
theorem bz_w_good {M : bz_M} {N : Nat} (h : bz_mv M N) : GoodIn bz_tbl (bz_w M) := fun w hw => (List.mem_cons.mp hw).elim (fun q => by rw [q]; exact bz_tbl_good _ h.2.2.1) (fun q => bz_tbl_good _ q)
theorem bz_met {l : Launch} {ad : Nat → Nat} {K : bz_K} {n : Nat} {M : bz_M} {N d z : Nat} {r : Option Value} {σ σ' : bz_S} {ls : List (Option Value)} {av : List Value} (hm : bz_mv M N) (hent : bz_arg av ++ List.replicate z none = ls) (hle : (lg_sl av).length ≤ M.2.2.2.1) (hV : bz_V l ad K n M d r σ' 0 ls [] σ) : Met l M.1 (bz_w M) (bz_rm d) (va_Pc av (bz_B ad K n σ)) (bz_Q ad K n r σ') 0 0 (bz_Af ad n) := by
  refine Met.ofW (cc := M.2.1) (maxL := M.2.2.2.1) (ret := M.2.2.2.2) hm.2.1 rfl ?_
  intro p e s m args below meth c s₁ B hml hv
  obtain ⟨rfl, hP, hG⟩ := hv
  have hts := atoms_spec (ws := bz_w M) B.pre
  have hown : s.vm.findClass M.1.cls = some m.cls := findClass_of_methodNamed B.named
  have hlocks := B.notSynchronized
  have hl := lv_entry av (n := M.2.2.2.1) hle
  rw [lg_entry_eq]
  refine hV p e (bz_rm d) s m av.toArray below meth c (bz_Af ad n) _ 0 0 ⟨B.exec, B.bytes, B.returns, hml, by rw [hm.1]; exact hown, fun w hw => hts w (List.mem_cons_of_mem _ hw), hG⟩ ⟨Nat.le_refl _, Nat.le_refl _, Nat.le_refl _, Nat.le_refl _⟩ ?_ s.heap [] _ hP va_S.rf ⟨hl.1, hl.2.1, fun i v h => ?_⟩
  · intro pc' H' locs' LS' hret hP' hS' hsz
    have hq : ∀ t : State, t.heap = H' → s.WarmedH t.vm → bz_Q ad K n r σ' av.toArray s (.returned r) t := fun t ht hW => ⟨rfl, by rw [ht]; exact hP', hS'.F ht⟩
    match r, hret, hq with
    | some (.int x), hret, hq =>
      rcases hret.2 with hr | ⟨hr, hn⟩
      · exact W.iret B.exec B.bytes (B.returns.trans hr) hq hS'.2.2 hret.1
      · exact W.zret B.exec B.bytes (B.returns.trans hr) hn hq hS'.2.2 hret.1
    | some (.long x), hret, hq => exact W.lret B.exec B.bytes (B.returns.trans hret.2) hq hS'.2.2 hret.1
    | none, hret, hq => exact W.vret B.exec B.bytes (B.returns.trans hret.2) hq hS'.2.2 hret.1
  · have hi : (bz_arg av)[i]? = some (some v) := by
      rw [← hent] at h
      by_cases hlt : i < (bz_arg av).length
      · rw [List.getElem?_append_left hlt] at h
        exact h
      · rw [List.getElem?_append_right (by omega)] at h
        have := List.mem_of_getElem? h
        rw [List.mem_replicate] at this
        cases this.2
    have := hl.2.2 _ (bz_arg_in av 0 i v hi)
    simpa using this
section BZ3
variable {l : Launch} {ad : Nat → Nat} {K : bz_K} {n : Nat} {M M' : bz_M} {d d' : Nat} {r r1 : Option Value} {σ σ' σ1 : bz_S} {pc idx N z : Nat} {ls ls' : List (Option Value)} {av st : List Value}
variable {p : Program} {e : Env} {R : Room} {s : State} {m : MethodId} {args : Array Value} {below : List Frame} {meth : Method} {c : Code} {A : Nat → Prop} {Q : State → Prop} {mc ms : Nat} {H : Heap} {locs : List Loc} {LS : Array Slot}
theorem bz_blind {av : List Value} : FrameBlind (va_Pc av (bz_B ad K n σ)) := fun a U g mk q => ⟨q.1, q.2.1, bz_G_same q.2.2 rfl rfl⟩
theorem bz_goes {st0 : List Value} {a : Array Value} (hr : va_Run p l e R s m args below meth c H locs mc ms 0 0 (F0 m pc LS st0) st (bz_Q ad K n r1 σ1 a) (bz_Af ad n)) (hA : ∀ k : Nat, k < n → A (ad k)) (hS : va_S A s.heap H locs)
    (kk : ∀ (H1 : Heap) (locs1 : List Loc), va_P K.1 vwCl (bz_ws ad K σ1 n) H1 → va_S A s.heap H1 locs1 → W p l e R s m args below meth c H1 locs1 mc ms Q (F0 m (pc + 3) LS (r1.toList ++ st))) : W p l e R s m args below meth c H locs mc ms Q (F0 m pc LS st0) := by
  have hAf : ∀ q, bz_Af ad n q → A q := fun q ⟨k, hk, e⟩ => by rw [e]; exact hA k hk
  intro T hT X
  obtain ⟨v, st₀, t, T', L, h0, X', hL, e1, e2, ⟨hv, hp, hz, hk⟩, go⟩ := hr T hT X
  cases hv
  rw [h0] at hz hk
  obtain ⟨t2, a1, b1⟩ := kk T'.heap (locs ++ L) (by rw [e1]; exact hp)
    ⟨Nat.le_trans hS.1 (by rw [e1]; exact hz), fun q h1 h2 => by rw [e1, hk q (Nat.lt_of_lt_of_le h1 hS.1) (fun w => h2 (hAf q w))]; exact hS.2.1 q h1 h2, fun q hq => by
      rcases List.mem_append.mp hq with h | h
      · exact hS.2.2 q h
      · exact hAf _ (hL q h)⟩ T' rfl X'
  exact ⟨t2, go t2 a1, b1⟩
theorem bz_callV {k ci b : Nat} {fl : List (Option Nat)} {qc : vw_C} (hm : bz_mv M' N) (hi : bz_mi M') (hlk : Cond.methodLink M.2.2.1 idx M'.1 ∈ bz_tbl) (hd : decode M.2.1 pc = .ok (.invokevirtual idx, 3)) (hdd : d' < d) (hs : bz_sh k = (4, ci, b, fl)) (hk : k < n) (hc : vwCl[ci]? = some qc) (hcn : qc.1 = M'.1.cls) (hN : av.length = N) (hent : bz_arg (.ref (ad k) :: av) ++ List.replicate z none = ls') (hle : (lg_sl (.ref (ad k) :: av)).length ≤ M'.2.2.2.1) (hrest : (st.map fun v => v.category).sum ≤ 8) (hV : bz_V l ad K n M' d' r1 σ1 0 ls' [] σ) (kk : bz_V l ad K n M d r σ' (pc + 3) ls (r1.toList ++ st) σ1) : bz_V l ad K n M d r σ' pc ls (av.reverse ++ .ref (ad k) :: st) σ := by
  intro p e R s m args below meth c A Q mc ms C hR hQ H locs LS hP hS hl
  have he : (bz_ws ad K σ n)[k]? = some (ad k, .inr (ci, fl.map (bz_fv ad σ))) := by rw [bz_ws_at hk, bz_ent4 hs]
  have hrc := va_recv C.2.2.2.2.2.2.1 hP hc he
  rw [hcn] at hrc
  have hG : GoodIn bz_tbl (wsV M.2.2.1 idx M'.1.cls M'.1 (bz_w M')) := fun w hw => by
    rcases List.mem_append.mp hw with h | h
    · refine bz_tbl_good _ ?_
      simp only [List.mem_cons, List.not_mem_nil, or_false] at h
      rcases h with rfl | rfl | rfl | rfl
      · exact hlk
      · exact hi.1
      · exact hi.2
      · exact hm.2.2.2.1
    · exact bz_w_good hm w h
  refine bz_goes (r1 := r1) (σ1 := σ1) (ad := ad) (K := K) (n := n) (va_runV (As := av) (rest := st) ⟨C.1, C.2.1, C.2.2.2.1, C.2.2.2.2.1, C.2.2.2.2.2.1⟩ (bz_met hm hent hle hV) (cwV N C.2.2.2.2.2.1 hG rfl rfl rfl ⟨rfl, hm.2.2.2.2.1⟩ ⟨by show d' + 1 ≤ _; omega, by show 8 + (M'.2.2.2.1 + 11) + 38 * d' ≤ _; have := hm.2.2.2.2.2; omega⟩) ⟨bz_blind, hrc, fun U hU hW => ⟨rfl, by rw [hU]; exact hP, bz_G_move C.2.2.2.2.2.2 hS hU hW⟩⟩ rfl hN hl.1 rfl (lv_room hrest) hd ⟨hR.2.2.1, hR.2.2.2⟩) C.2.2.2.2.2.2.2.2.2.1 hS (fun H1 locs1 hP1 hS1 => kk p e R s m args below meth c A Q mc ms C hR hQ H1 locs1 LS hP1 hS1 hl)
theorem bz_callVN {k ci b : Nat} {fl : List (Option Nat)} {qc : vw_C} {host : String} (hm : bz_mv M' N) (hi : bz_mi M') (hlk : Cond.methodLinkNest M.2.2.1 idx M'.1 host ∈ bz_nst) (hd : decode M.2.1 pc = .ok (.invokevirtual idx, 3)) (hdd : d' < d) (hs : bz_sh k = (4, ci, b, fl)) (hk : k < n) (hc : vwCl[ci]? = some qc) (hcn : qc.1 = M'.1.cls) (hN : av.length = N) (hent : bz_arg (.ref (ad k) :: av) ++ List.replicate z none = ls') (hle : (lg_sl (.ref (ad k) :: av)).length ≤ M'.2.2.2.1) (hrest : (st.map fun v => v.category).sum ≤ 8) (hV : bz_V l ad K n M' d' r1 σ1 0 ls' [] σ) (kk : bz_V l ad K n M d r σ' (pc + 3) ls (r1.toList ++ st) σ1) : bz_V l ad K n M d r σ' pc ls (av.reverse ++ .ref (ad k) :: st) σ := by
  intro p e R s m args below meth c A Q mc ms C hR hQ H locs LS hP hS hl
  have he : (bz_ws ad K σ n)[k]? = some (ad k, .inr (ci, fl.map (bz_fv ad σ))) := by rw [bz_ws_at hk, bz_ent4 hs]
  have hrc := va_recv C.2.2.2.2.2.2.1 hP hc he
  rw [hcn] at hrc
  have hts := C.2.2.2.2.2.1
  refine bz_goes (r1 := r1) (σ1 := σ1) (ad := ad) (K := K) (n := n) (va_runVN (As := av) (rest := st) ⟨C.1, C.2.1, C.2.2.2.1, C.2.2.2.2.1, C.2.2.2.2.2.1⟩ (bz_met hm hent hle hV) ⟨va_cnB N C.2.2.2.2.2.1 (bz_w_good hm) rfl rfl rfl (C.2.2.2.2.2.2.2.1 _ hlk) (hts _ hm.2.2.2.1) hm.2.2.2.2.1 ⟨by show d' + 1 ≤ _; omega, by show 8 + (M'.2.2.2.1 + 11) + 38 * d' ≤ _; have := hm.2.2.2.2.2; omega⟩, hts _ hi.1, hts _ hi.2⟩ ⟨bz_blind, hrc, fun U hU hW => ⟨rfl, by rw [hU]; exact hP, bz_G_move C.2.2.2.2.2.2 hS hU hW⟩⟩ rfl hN hl.1 rfl (lv_room hrest) hd ⟨hR.2.2.1, hR.2.2.2⟩) C.2.2.2.2.2.2.2.2.2.1 hS (fun H1 locs1 hP1 hS1 => kk p e R s m args below meth c A Q mc ms C hR hQ H1 locs1 LS hP1 hS1 hl)
theorem bz_callS (hm : bz_mv M' N) (hi : Cond.static M'.1 ∈ bz_tbl) (hlk : Cond.methodLink M.2.2.1 idx M'.1 ∈ bz_tbl) (hd : decode M.2.1 pc = .ok (.invokestatic idx, 3)) (hdd : d' < d) (hN : av.length = N) (hent : bz_arg av ++ List.replicate z none = ls') (hle : (lg_sl av).length ≤ M'.2.2.2.1) (hrest : (st.map fun v => v.category).sum ≤ 8) (hV : bz_V l ad K n M' d' r1 σ1 0 ls' [] σ) (kk : bz_V l ad K n M d r σ' (pc + 3) ls (r1.toList ++ st) σ1) : bz_V l ad K n M d r σ' pc ls (av.reverse ++ st) σ := by
  intro p e R s m args below meth c A Q mc ms C hR hQ H locs LS hP hS hl
  have hG : GoodIn bz_tbl (va_wsS M.2.2.1 idx M'.1 (bz_w M')) := fun w hw => by
    rcases List.mem_append.mp hw with h | h
    · refine bz_tbl_good _ ?_
      simp only [List.mem_cons, List.not_mem_nil, or_false] at h
      rcases h with rfl | rfl | rfl
      · exact hlk
      · exact hi
      · exact hm.2.2.2.1
    · exact bz_w_good hm w h
  refine bz_goes (r1 := r1) (σ1 := σ1) (ad := ad) (K := K) (n := n) (va_runS (As := av) (rest := st) ⟨C.1, C.2.1, C.2.2.2.1, C.2.2.2.2.1, C.2.2.2.2.2.1⟩ (bz_met hm hent hle hV) (va_cwS N C.2.2.2.2.2.1 hG rfl rfl rfl hm.2.2.2.2.1 ⟨by show d' + 1 ≤ _; omega, by show 8 + (M'.2.2.2.1 + 11) + 38 * d' ≤ _; have := hm.2.2.2.2.2; omega⟩) ⟨bz_blind, fun U hU hW => ⟨rfl, by rw [hU]; exact hP, bz_G_move C.2.2.2.2.2.2 hS hU hW⟩⟩ rfl hN hl.1 rfl (lv_room hrest) hd ⟨hR.2.2.1, hR.2.2.2⟩) C.2.2.2.2.2.2.2.2.2.1 hS (fun H1 locs1 hP1 hS1 => kk p e R s m args below meth c A Q mc ms C hR hQ H1 locs1 LS hP1 hS1 hl)
theorem bz_callSN {host : String} (hm : bz_mv M' N) (hi : Cond.static M'.1 ∈ bz_tbl) (hlk : Cond.methodLinkNest M.2.2.1 idx M'.1 host ∈ bz_nst) (hd : decode M.2.1 pc = .ok (.invokestatic idx, 3)) (hdd : d' < d) (hN : av.length = N) (hent : bz_arg av ++ List.replicate z none = ls') (hle : (lg_sl av).length ≤ M'.2.2.2.1) (hrest : (st.map fun v => v.category).sum ≤ 8) (hV : bz_V l ad K n M' d' r1 σ1 0 ls' [] σ) (kk : bz_V l ad K n M d r σ' (pc + 3) ls (r1.toList ++ st) σ1) : bz_V l ad K n M d r σ' pc ls (av.reverse ++ st) σ := by
  intro p e R s m args below meth c A Q mc ms C hR hQ H locs LS hP hS hl
  have hts := C.2.2.2.2.2.1
  refine bz_goes (r1 := r1) (σ1 := σ1) (ad := ad) (K := K) (n := n) (va_runSN (As := av) (rest := st) ⟨C.1, C.2.1, C.2.2.2.1, C.2.2.2.2.1, C.2.2.2.2.2.1⟩ (bz_met hm hent hle hV) ⟨va_cnB N C.2.2.2.2.2.1 (bz_w_good hm) rfl rfl rfl (C.2.2.2.2.2.2.2.1 _ hlk) (hts _ hm.2.2.2.1) hm.2.2.2.2.1 ⟨by show d' + 1 ≤ _; omega, by show 8 + (M'.2.2.2.1 + 11) + 38 * d' ≤ _; have := hm.2.2.2.2.2; omega⟩, hts _ hi, trivial⟩ ⟨bz_blind, fun U hU hW => ⟨rfl, by rw [hU]; exact hP, bz_G_move C.2.2.2.2.2.2 hS hU hW⟩⟩ rfl hN hl.1 rfl (lv_room hrest) hd ⟨hR.2.2.1, hR.2.2.2⟩) C.2.2.2.2.2.2.2.2.2.1 hS (fun H1 locs1 hP1 hS1 => kk p e R s m args below meth c A Q mc ms C hR hQ H1 locs1 LS hP1 hS1 hl)
end BZ3
