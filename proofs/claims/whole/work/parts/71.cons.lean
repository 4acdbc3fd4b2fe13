/-! constructors: allocation -/
def bz_rmc (d mc ms : Nat) : Room := { frames := d, cells := mc, slots := ms, locals := 38 * d }
/-- what the tables and the static arrays say, A being what may change -/
def bz_G0 (K : bz_K) (A : Nat → Prop) (U : State) : Prop :=
  va_K K.1 vwCl (bz_tys K) U ∧ (∀ w ∈ bz_nst, va_Nw w U) ∧ va_AOA .long U ∧
  va_Z RX1 "STARTS" "[I" (.ref K.2.2.2.2.2.1) A U U.heap ∧ va_T .int K.2.2.2.2.2.1 8 (fun j => .int (bz_STARTS j)) A U U.heap ∧
  va_Z RX1 "PARTS" "[I" (.ref K.2.2.2.2.2.2) A U U.heap ∧ va_T .int K.2.2.2.2.2.2 180 (fun j => .int (bz_PARTS j)) A U U.heap
theorem bz_G0_same {K : bz_K} {A : Nat → Prop} {U U' : State} (h : bz_G0 K A U) (hv : U.vm = U'.vm) (hh : U.heap = U'.heap) : bz_G0 K A U' := by
  obtain ⟨h1, h2, h3, h5, h6, h7, h8⟩ := h
  have ha : U.vm.Alike U'.vm := by rw [← hv]; exact Vm.Alike.refl U.vm
  refine ⟨va_K.moved ha h1, fun w hw => (h2 w hw).same (bz_nst_on hw) hv, over_moved ha h3, ?_, ?_, ?_, ?_⟩
  · rw [← hh]; exact h5.moved ha
  · rw [← hh]; exact h6.moved ha
  · rw [← hh]; exact h7.moved ha
  · rw [← hh]; exact h8.moved ha
theorem bz_G0_move {K : bz_K} {A B : Nat → Prop} {s U : State} {H : Heap} {locs : List Loc} (h : bz_G0 K A s) (hS : va_S A s.heap H locs) (hU : U.heap = H) (hW : s.WarmedH U.vm) (hA : ∀ q, B q → A q) : bz_G0 K B U := by
  obtain ⟨h1, h2, h3, h5, h6, h7, h8⟩ := h
  refine ⟨va_K.moved hW.alike h1, fun w hw => bz_nst_warm hw hW (h2 w hw), over_moved hW.alike h3, ?_, ?_, ?_, ?_⟩
  · rw [hU]; exact ((h5.moved hW.alike).kept hS.2.1).narrow hA
  · rw [hU]; exact ((h6.moved hW.alike).kept hS.2.1).narrow hA
  · rw [hU]; exact ((h7.moved hW.alike).kept hS.2.1).narrow hA
  · rw [hU]; exact ((h8.moved hW.alike).kept hS.2.1).narrow hA
theorem bz_G0_G {K : bz_K} {A : Nat → Prop} {U : State} (h : bz_G0 K A U) {ad : Nat → Nat} {n : Nat} {σ : bz_S} (hD : va_D A (bz_ws ad K σ n)) : bz_G ad K n A U := by
  obtain ⟨h1, h2, h3, h5, h6, h7, h8⟩ := h
  exact ⟨h1, h2, fun i j hi hj e => hD.1 i j _ _ (bz_ws_at hi) (bz_ws_at hj) e, fun k hk => hD.2 k _ (bz_ws_at hk), h5, h6, h7, h8⟩
def bz_Bc (K : bz_K) (ws : va_W) (sz : Nat) (U : State) : Prop := U.heap.size = sz ∧ va_P K.1 vwCl ws U.heap ∧ va_D (fun _ => True) ws ∧ bz_G0 K (va_A ws sz) U
def bz_Qc (K : bz_K) (A : Nat → Prop) (F : va_W → Prop) : Array Value → State → Outcome → State → Prop := fun _ st oc t => oc = .returned none ∧ (∃ w1 : va_W, F w1 ∧ va_P K.1 vwCl w1 t.heap ∧ va_D A w1) ∧ va_F A st t
theorem bz_blindC {K : bz_K} {ws : va_W} {sz : Nat} {av : List Value} : FrameBlind (va_Pc av (bz_Bc K ws sz)) := fun a U g mk q => ⟨q.1, q.2.1, q.2.2.1, q.2.2.2.1, bz_G0_same q.2.2.2.2 rfl rfl⟩
theorem bz_joinX {A0 : Nat → Prop} {D : va_G} {cl : List vw_C} {X wc w1 : va_W} {H H1 : Heap} (hP : va_P D cl (X ++ wc) H) (hD : va_D A0 (X ++ wc)) (hk : ∀ q : Nat, q < H.size → ¬ va_A wc H.size q → H1[q]? = H[q]?) (hF : ∀ q, va_A wc H.size q → A0 q) (hP1 : va_P D cl w1 H1) (hD1 : va_D (va_A wc H.size) w1) : va_P D cl (X ++ w1) H1 ∧ va_D A0 (X ++ w1) := by
  have hx : ∀ (i : Nat) (q : Nat × va_E), X[i]? = some q → (X ++ wc)[i]? = some q := fun i q h => by
    rw [List.getElem?_append_left (List.getElem?_eq_some_iff.mp h).1]; exact h
  have ap : ∀ (i : Nat) (q : Nat × va_E), X[i]? = some q → q.1 < H.size ∧ ¬ va_A wc H.size q.1 := fun i q h => by
    have hlt := (hP i q (hx i q h)).lt
    refine ⟨hlt, fun z => ?_⟩
    rcases z with ⟨k, e, z⟩ | z
    · have h1 := hD.1 i (X.length + k) q (q.1, e) (hx i q h) (by rw [List.getElem?_append_right (by omega), show X.length + k - X.length = k by omega]; exact z) rfl
      have h2 := (List.getElem?_eq_some_iff.mp h).1
      omega
    · omega
  refine ⟨va_P.app (fun i q h => (hP i q (hx i q h)).kept (hk q.1 (ap i q h).1 (ap i q h).2)) hP1, fun i j x y hi hj hxy => ?_, fun k q hq => ?_⟩
  · by_cases h1 : i < X.length <;> by_cases h2 : j < X.length
    · rw [List.getElem?_append_left h1] at hi
      rw [List.getElem?_append_left h2] at hj
      exact hD.1 i j x y (hx i x hi) (hx j y hj) hxy
    · rw [List.getElem?_append_left h1] at hi
      rw [List.getElem?_append_right (by omega)] at hj
      have h3 := hD1.2 _ _ hj
      rw [← hxy] at h3
      exact absurd h3 (ap i x hi).2
    · rw [List.getElem?_append_right (by omega)] at hi
      rw [List.getElem?_append_left h2] at hj
      have h3 := hD1.2 _ _ hi
      rw [hxy] at h3
      exact absurd h3 (ap j y hj).2
    · rw [List.getElem?_append_right (by omega)] at hi hj
      have := hD1.1 _ _ x y hi hj hxy
      omega
  · by_cases h1 : k < X.length
    · rw [List.getElem?_append_left h1] at hq
      exact hD.2 k q (hx k q hq)
    · rw [List.getElem?_append_right (by omega)] at hq
      exact hF _ (hD1.2 _ q hq)
theorem bz_freeX {A0 : Nat → Prop} {X wc : va_W} {H0 H : Heap} {locs : List Loc} (hD : va_D A0 (X ++ wc)) (hS : va_S A0 H0 H locs) (hA : ∀ q, H0.size ≤ q → A0 q) : ∀ q, va_A wc H.size q → A0 q := by
  intro q h
  rcases h with ⟨k, e, h⟩ | h
  · exact hD.2 (X.length + k) (q, e) (by rw [List.getElem?_append_right (by omega), show X.length + k - X.length = k by omega]; exact h)
  · exact hA q (Nat.le_trans hS.1 h)
/-- the list of cells by their numbers, in any order -/
theorem bz_permP {D : va_G} {cl : List vw_C} {f : Nat → Nat × va_E} {L : List Nat} {n : Nat} {H : Heap} (hL : ∀ k, k < n → k ∈ L) (h : va_P D cl (L.map f) H) : va_P D cl ((List.range n).map f) H := by
  intro k q hq
  obtain ⟨j, hj, rfl⟩ := List.mem_map.mp (List.mem_of_getElem? hq)
  obtain ⟨i, hi⟩ := List.getElem?_of_mem (hL j (List.mem_range.mp hj))
  exact h i (f j) (by rw [List.getElem?_map, hi]; rfl)
theorem bz_permD {A : Nat → Prop} {f : Nat → Nat × va_E} {L : List Nat} {n : Nat} (hL : ∀ k, k < n → k ∈ L) (h : va_D A (L.map f)) : va_D A ((List.range n).map f) := by
  have key : ∀ (i : Nat) (x : Nat × va_E), ((List.range n).map f)[i]? = some x → i < n ∧ x = f i := fun i x hx => by
    have hi : i < n := by
      have := (List.getElem?_eq_some_iff.mp hx).1
      rw [List.length_map, List.length_range] at this
      exact this
    rw [List.getElem?_map, List.getElem?_range hi] at hx
    exact ⟨hi, (Option.some.inj hx).symm⟩
  refine ⟨fun i j x y hi hj hxy => ?_, fun k q hq => ?_⟩
  · obtain ⟨i1, rfl⟩ := key i x hi
    obtain ⟨j1, rfl⟩ := key j y hj
    obtain ⟨a, ha⟩ := List.getElem?_of_mem (hL i i1)
    obtain ⟨b, hb⟩ := List.getElem?_of_mem (hL j j1)
    have := h.1 a b (f i) (f j) (by rw [List.getElem?_map, ha]; rfl) (by rw [List.getElem?_map, hb]; rfl) hxy
    rw [this, hb] at ha
    exact (Option.some.inj ha).symm
  · obtain ⟨k1, rfl⟩ := key k q hq
    obtain ⟨a, ha⟩ := List.getElem?_of_mem (hL k k1)
    exact h.2 a (f k) (by rw [List.getElem?_map, ha]; rfl)
theorem wa_int : Cond.arrayClass .int ∈ bz_tbl := bz_one 179 (by decide +kernel) rfl
theorem wa_long : Cond.arrayClass .long ∈ bz_tbl := bz_one 196 (by decide +kernel) rfl
theorem wa_boolean : Cond.arrayClass .boolean ∈ bz_tbl := bz_one 247 (by decide +kernel) rfl
section CN
variable {p : Program} {l : Launch} {e : Env} {R : Room} {s : State} {m : MethodId} {args : Array Value} {below : List Frame} {meth : Method} {c : Code} {H : Heap} {locs : List Loc} {cells slots : Nat} {Q : State → Prop}
variable {cc : ByteArray} {pc : Nat} {ls : Array Slot} {rest : List Value} {A : Nat → Prop} {a : Nat} {ws : va_W} {H0 : Heap} {K : bz_K}
theorem bz_RA {ty : FieldType} {c1 c2 : ClassId} {U : State} (hty : ∀ C, ty ≠ .object C) (h1 : va_RA U c1 ty) (h2 : va_RA U c2 ty) : c1 = c2 := by
  have e : ∀ c, va_RA U c ty → U.vm.findClass ("[" ++ ty.toString) = some c := fun c h => by
    cases ty with
    | object C => exact absurd rfl (hty C)
    | _ => exact h
  exact Option.some.inj ((e _ h1).symm.trans (e _ h2))
theorem bz_nI (hx : p.tables.exec = Jvm.exec) (hb : c.code = cc) (hts : ∀ w ∈ bz_tbl, w.before args s = true) (hK : va_K K.1 vwCl (bz_tys K) s) (hP : va_P K.1 vwCl ws H) (hD : va_D A ws) (hS : va_S A H0 H locs) (hA : ∀ q, H0.size ≤ q → A q) {n : Nat} (hn : n < 100000) (hcells : cells + 1 ≤ R.cells) (hslots : slots + n ≤ R.slots) (hdg : decode cc pc = .ok (.newarray .int, 2))
    (kk : ∀ (q : Nat) (H1 : Heap), va_P K.1 vwCl (ws ++ [(q, .inl (K.2.1, n, .inl (fun _ => 0)))]) H1 → va_D A (ws ++ [(q, .inl (K.2.1, n, .inl (fun _ => 0)))]) → va_S A H0 H1 locs → W p l e R s m args below meth c H1 locs (cells + 1) (slots + n) Q (F0 m (pc + 2) ls (.ref q :: rest))) : W p l e R s m args below meth c H locs cells slots Q (F0 m pc ls (.int (nI n) :: rest)) := by
  refine va_newa (atype := .int) (ty := .int) (N' := n) (a0 := (n, .inl (fun _ => 0))) hx hb (hts _ wa_int) rfl hK hP hD hS hA (fun cA => rfl) (nI_pos (by omega)) (nI_clamp (by omega)) (by show n * 4 ≤ _; omega) hcells hslots hdg (fun q cA H1 hK1 hP1 hD1 hS1 => ?_)
  have ec : cA = K.2.1 := bz_RA (U := s) (ty := .int) (fun C q => by cases q) (hK1.2 4 (cA, .int) rfl).2 (hK.2 0 (K.2.1, .int) rfl).2
  subst ec
  exact kk q H1 hP1 hD1 hS1
theorem bz_nJ (hx : p.tables.exec = Jvm.exec) (hb : c.code = cc) (hts : ∀ w ∈ bz_tbl, w.before args s = true) (hK : va_K K.1 vwCl (bz_tys K) s) (hP : va_P K.1 vwCl ws H) (hD : va_D A ws) (hS : va_S A H0 H locs) (hA : ∀ q, H0.size ≤ q → A q) {n : Nat} (hn : n < 100000) (hcells : cells + 1 ≤ R.cells) (hslots : slots + n ≤ R.slots) (hdg : decode cc pc = .ok (.newarray .long, 2))
    (kk : ∀ (q : Nat) (H1 : Heap), va_P K.1 vwCl (ws ++ [(q, .inl (K.2.2.1, n, .inr (.inl (fun _ => 0))))]) H1 → va_D A (ws ++ [(q, .inl (K.2.2.1, n, .inr (.inl (fun _ => 0))))]) → va_S A H0 H1 locs → W p l e R s m args below meth c H1 locs (cells + 1) (slots + n) Q (F0 m (pc + 2) ls (.ref q :: rest))) : W p l e R s m args below meth c H locs cells slots Q (F0 m pc ls (.int (nI n) :: rest)) := by
  refine va_newa (atype := .long) (ty := .long) (N' := n) (a0 := (n, .inr (.inl (fun _ => 0)))) hx hb (hts _ wa_long) rfl hK hP hD hS hA (fun cA => rfl) (nI_pos (by omega)) (nI_clamp (by omega)) (by show n * 8 ≤ _; omega) hcells hslots hdg (fun q cA H1 hK1 hP1 hD1 hS1 => ?_)
  have ec : cA = K.2.2.1 := bz_RA (U := s) (ty := .long) (fun C q => by cases q) (hK1.2 4 (cA, .long) rfl).2 (hK.2 1 (K.2.2.1, .long) rfl).2
  subst ec
  exact kk q H1 hP1 hD1 hS1
theorem bz_nB (hx : p.tables.exec = Jvm.exec) (hb : c.code = cc) (hts : ∀ w ∈ bz_tbl, w.before args s = true) (hK : va_K K.1 vwCl (bz_tys K) s) (hP : va_P K.1 vwCl ws H) (hD : va_D A ws) (hS : va_S A H0 H locs) (hA : ∀ q, H0.size ≤ q → A q) {n : Nat} (hn : n < 100000) (hcells : cells + 1 ≤ R.cells) (hslots : slots + n ≤ R.slots) (hdg : decode cc pc = .ok (.newarray .boolean, 2))
    (kk : ∀ (q : Nat) (H1 : Heap), va_P K.1 vwCl (ws ++ [(q, .inl (K.2.2.2.1, n, .inl (fun _ => 0)))]) H1 → va_D A (ws ++ [(q, .inl (K.2.2.2.1, n, .inl (fun _ => 0)))]) → va_S A H0 H1 locs → W p l e R s m args below meth c H1 locs (cells + 1) (slots + n) Q (F0 m (pc + 2) ls (.ref q :: rest))) : W p l e R s m args below meth c H locs cells slots Q (F0 m pc ls (.int (nI n) :: rest)) := by
  refine va_newa (atype := .boolean) (ty := .boolean) (N' := n) (a0 := (n, .inl (fun _ => 0))) hx hb (hts _ wa_boolean) rfl hK hP hD hS hA (fun cA => rfl) (nI_pos (by omega)) (nI_clamp (by omega)) (by show n * 1 ≤ _; omega) hcells hslots hdg (fun q cA H1 hK1 hP1 hD1 hS1 => ?_)
  have ec : cA = K.2.2.2.1 := bz_RA (U := s) (ty := .boolean) (fun C q => by cases q) (hK1.2 4 (cA, .boolean) rfl).2 (hK.2 2 (K.2.2.2.1, .boolean) rfl).2
  subst ec
  exact kk q H1 hP1 hD1 hS1
/-- new long[n][30] -/
theorem bz_nJJ (hx : p.tables.exec = Jvm.exec) (hb : c.code = cc) {own : String} {index : Nat} (hown : s.vm.findClass own = some m.cls) (hts : ∀ w ∈ bz_tbl, w.before args s = true) (hcl : Cond.classLink own index "[[J" ∈ bz_tbl) (hO : va_AOA .long s) (hK : va_K K.1 vwCl (bz_tys K) s) (hP : va_P K.1 vwCl ws H) (hD : va_D A ws) (hS : va_S A H0 H locs) (hA : ∀ q, H0.size ≤ q → A q) {n : Nat} (hn : n < 100) (hcells : cells + (1 + n) ≤ R.cells) (hslots : slots + (n + n * 30) ≤ R.slots) (hdg : decode cc pc = .ok (.multianewarray index 2, 4))
    (kk : ∀ (q : Nat) (r : Nat → Nat) (H1 : Heap), va_P K.1 vwCl (ws ++ ((q, .inl (K.2.2.2.2.1, n, .inr (.inr (.inr (.inr (fun i => if i < n then some (r i) else none)))))) :: (List.range n).map (fun i => (r i, .inl (K.2.2.1, 30, .inr (.inl (fun _ => 0))))))) H1 → va_D A (ws ++ ((q, .inl (K.2.2.2.2.1, n, .inr (.inr (.inr (.inr (fun i => if i < n then some (r i) else none)))))) :: (List.range n).map (fun i => (r i, .inl (K.2.2.1, 30, .inr (.inl (fun _ => 0))))))) → va_S A H0 H1 locs →
      W p l e R s m args below meth c H1 locs (cells + 1 + n) (slots + n + n * 30) Q (F0 m (pc + 4) ls (.ref q :: rest))) : W p l e R s m args below meth c H locs cells slots Q (F0 m pc ls (.int (nI 30) :: .int (nI n) :: rest)) := by
  have hcy : s.vm.findClass (FieldType.array FieldType.long).toString = some K.2.2.1 := (hK.2 1 (K.2.2.1, .long) rfl).2
  refine va_mna (X := ws) (L := []) (f := fun _ => .inr (0, [])) (ty := .long) (N' := n) (K' := 30) (z := (30, .inr (.inl (fun _ => 0)))) hx hb hown (hts _ hcl) hO (hts _ wa_long) hcy hK (by rw [show va_pl [] (fun _ => (.inr (0, []) : va_E)) = [] from rfl, List.append_nil]; exact hP) (by rw [show va_pl [] (fun _ => (.inr (0, []) : va_E)) = [] from rfl, List.append_nil]; exact hD) hS hA (nI_pos (by omega)) (nI_pos (by omega)) (nI_clamp (by omega)) (nI_clamp (by omega)) (by omega) (by decide) (by decide) rfl rfl hcells hslots (fun c => ?_) hdg (fun q r cA H1 hr hrL hK1 hP1 hD1 hS1 => ?_)
  · show ({ cls := c, slots := Array.replicate 30 (.long 0), vm := .none } : Cell) = _
    rw [arrV_new]
    rfl
  · have ec : cA = K.2.2.2.2.1 := bz_RA (U := s) (ty := .array .long) (fun C q => by cases q) (hK1.2 4 (cA, .array .long) rfl).2 (hK.2 3 (K.2.2.2.2.1, .array .long) rfl).2
    subst ec
    have ew : va_pl ([] ++ (List.range n).map r) (vr_up (fun _ => .inr (0, [])) ((List.range n).map r) (.inl (K.2.2.1, 30, .inr (.inl (fun _ => 0))))) = (List.range n).map (fun i => (r i, .inl (K.2.2.1, 30, .inr (.inl (fun _ => 0))))) := by
      unfold va_pl
      rw [List.nil_append, List.map_map]
      refine List.map_congr_left (fun i hi => ?_)
      show (r i, vr_up _ _ _ (r i)) = _
      rw [vr_up_in (List.mem_map.mpr ⟨i, hi, rfl⟩)]
    rw [ew, List.append_assoc, List.singleton_append] at hP1 hD1
    exact kk q r H1 hP1 hD1 hS1
theorem bz_rightP {X wc : va_W} {D : va_G} {cl : List vw_C} (h : va_P D cl (X ++ wc) H) : va_P D cl wc H := fun k q hq => h (X.length + k) q (by rw [List.getElem?_append_right (by omega), show X.length + k - X.length = k by omega]; exact hq)
theorem bz_rightD {X wc : va_W} (h : va_D A (X ++ wc)) : va_D (fun _ => True) wc := ⟨fun i j x y hi hj hxy => by
  have := h.1 (X.length + i) (X.length + j) x y (by rw [List.getElem?_append_right (by omega), show X.length + i - X.length = i by omega]; exact hi) (by rw [List.getElem?_append_right (by omega), show X.length + j - X.length = j by omega]; exact hj) hxy
  omega, fun _ _ _ => trivial⟩
theorem bz_goC {st0 : List Value} {av : Array Value} {F : va_W → Prop} {mc ms : Nat} {X wc : va_W} (hr : va_Run p l e R s m args below meth c H locs cells slots mc ms (F0 m pc ls st0) rest (bz_Qc K (va_A wc H.size) F av) (va_A wc H.size)) (hP : va_P K.1 vwCl (X ++ wc) H) (hD : va_D A (X ++ wc)) (hS : va_S A s.heap H locs) (hA : ∀ q, s.heap.size ≤ q → A q)
    (kk : ∀ (w1 : va_W) (H1 : Heap) (locs1 : List Loc), F w1 → va_P K.1 vwCl (X ++ w1) H1 → va_D A (X ++ w1) → va_S A s.heap H1 locs1 → W p l e R s m args below meth c H1 locs1 (cells + mc) (slots + ms) Q (F0 m (pc + 3) ls rest)) : W p l e R s m args below meth c H locs cells slots Q (F0 m pc ls st0) := by
  have hF := bz_freeX hD hS hA
  intro T hT Xs
  obtain ⟨v, st₀, t, T', L, h0, X', hL, e1, e2, ⟨hv, ⟨w1, f1, p1, d1⟩, hz, hk⟩, go⟩ := hr T hT Xs
  cases hv
  rw [h0] at hz hk
  obtain ⟨j1, j2⟩ := bz_joinX hP hD (H1 := T'.heap) (fun q h1 h2 => by rw [e1]; exact hk q h1 h2) hF (by rw [e1]; exact p1) d1
  obtain ⟨t2, a1, b1⟩ := kk w1 T'.heap (locs ++ L) f1 j1 j2 ⟨Nat.le_trans hS.1 (by rw [e1]; exact hz), fun q h1 h2 => by rw [e1, hk q (Nat.lt_of_lt_of_le h1 hS.1) (fun w => h2 (hF q w))]; exact hS.2.1 q h1 h2, fun q hq => by
    rcases List.mem_append.mp hq with h | h
    · exact hS.2.2 q h
    · exact hF _ (hL q h)⟩ T' rfl X'
  exact ⟨t2, go t2 a1, b1⟩
theorem bz_cIN {M' : bz_M} {N d mc ms idx nL b : Nat} {own host : String} {As : List Value} {F : va_W → Prop} {X wc : va_W} (hx : p.tables.exec = Jvm.exec) (hb : c.code = cc) (hml : c.maxLocals = nL) (hsz : ls.size = nL) (hown : s.vm.findClass own = some m.cls) (hts : ∀ w ∈ bz_tbl, w.before args s = true) (hG : bz_G0 K A s) (hm : bz_mv M' N) (hret : M'.2.2.2.2 = none) (hi : Cond.instanceMethod M'.1 ∈ bz_tbl) (hnm : M'.1.name = "<init>") (hlk : Cond.methodLinkNest own idx M'.1 host ∈ bz_nst) (hd : decode cc pc = .ok (.invokespecial idx, 3)) (hN : As.length = N)
    (hM : ∀ sz, Met l M'.1 (bz_w M') (bz_rmc d mc ms) (va_Pc (.ref b :: As) (bz_Bc K wc sz)) (bz_Qc K (va_A wc sz) F) mc ms (va_A wc sz)) (hR : d + 1 ≤ R.frames ∧ 8 + (M'.2.2.2.1 + 11) + 38 * d ≤ R.locals) (hc : cells + mc ≤ R.cells ∧ slots + ms ≤ R.slots) (hrest : (rest.map fun v => v.category).sum ≤ 8) (hP : va_P K.1 vwCl (X ++ wc) H) (hD : va_D A (X ++ wc)) (hS : va_S A s.heap H locs) (hA : ∀ q, s.heap.size ≤ q → A q)
    (kk : ∀ (w1 : va_W) (H1 : Heap) (locs1 : List Loc), F w1 → va_P K.1 vwCl (X ++ w1) H1 → va_D A (X ++ w1) → va_S A s.heap H1 locs1 → W p l e R s m args below meth c H1 locs1 (cells + mc) (slots + ms) Q (F0 m (pc + 3) ls rest)) : W p l e R s m args below meth c H locs cells slots Q (F0 m pc ls (As.reverse ++ .ref b :: rest)) := by
  obtain ⟨y, by1, ow, nl, rt⟩ := M'
  obtain rfl : rt = none := hret
  exact bz_goC (va_runIN (As := As) (rest := rest) ⟨hx, hb, hml, hown, hts⟩ (hM H.size) ⟨va_cnB N hts (bz_w_good hm) rfl rfl rfl (hG.2.1 _ hlk) (hts _ hm.2.2.2.1) hm.2.2.2.2.1 hR, hnm, hts _ hi⟩ ⟨bz_blindC, fun U hU hW => ⟨rfl, by rw [hU], by rw [hU]; exact bz_rightP hP, bz_rightD hD, bz_G0_move hG hS hU hW (bz_freeX hD hS hA)⟩⟩ rfl hN hsz rfl (lv_room hrest) hd hc) hP hD hS hA kk
theorem bz_cI {M' : bz_M} {N d mc ms idx nL b : Nat} {own : String} {As : List Value} {F : va_W → Prop} {X wc : va_W} (hx : p.tables.exec = Jvm.exec) (hb : c.code = cc) (hml : c.maxLocals = nL) (hsz : ls.size = nL) (hown : s.vm.findClass own = some m.cls) (hts : ∀ w ∈ bz_tbl, w.before args s = true) (hG : bz_G0 K A s) (hm : bz_mv M' N) (hret : M'.2.2.2.2 = none) (hi : Cond.instanceMethod M'.1 ∈ bz_tbl) (hnm : M'.1.name = "<init>") (hlk : Cond.methodLink own idx M'.1 ∈ bz_tbl) (hd : decode cc pc = .ok (.invokespecial idx, 3)) (hN : As.length = N)
    (hM : ∀ sz, Met l M'.1 (bz_w M') (bz_rmc d mc ms) (va_Pc (.ref b :: As) (bz_Bc K wc sz)) (bz_Qc K (va_A wc sz) F) mc ms (va_A wc sz)) (hR : d + 1 ≤ R.frames ∧ 8 + (M'.2.2.2.1 + 11) + 38 * d ≤ R.locals) (hc : cells + mc ≤ R.cells ∧ slots + ms ≤ R.slots) (hrest : (rest.map fun v => v.category).sum ≤ 8) (hP : va_P K.1 vwCl (X ++ wc) H) (hD : va_D A (X ++ wc)) (hS : va_S A s.heap H locs) (hA : ∀ q, s.heap.size ≤ q → A q)
    (kk : ∀ (w1 : va_W) (H1 : Heap) (locs1 : List Loc), F w1 → va_P K.1 vwCl (X ++ w1) H1 → va_D A (X ++ w1) → va_S A s.heap H1 locs1 → W p l e R s m args below meth c H1 locs1 (cells + mc) (slots + ms) Q (F0 m (pc + 3) ls rest)) : W p l e R s m args below meth c H locs cells slots Q (F0 m pc ls (As.reverse ++ .ref b :: rest)) := by
  obtain ⟨y, by1, ow, nl, rt⟩ := M'
  obtain rfl : rt = none := hret
  exact bz_goC (va_runI (As := As) (rest := rest) ⟨hx, hb, hml, hown, hts⟩ (hM H.size) (cwI N hts (bz_w_good hm) rfl rfl rfl (hts _ hm.2.2.2.1) (hts _ hlk) (hts _ hi) hnm hm.2.2.2.2.1 hR) ⟨bz_blindC, fun U hU hW => ⟨rfl, by rw [hU], by rw [hU]; exact bz_rightP hP, bz_rightD hD, bz_G0_move hG hS hU hW (bz_freeX hD hS hA)⟩⟩ rfl hN hsz rfl (lv_room hrest) hd hc) hP hD hS hA kk
end CN
