/-! THE CLAIM OUT OF ONE WALK OF THE LAW'S BODY. Your part is whole_start (and what it stands on); all else here is the same for every law, but numbers. -/
def R_law : String := "BasisMovesLaw"
def lw_P (b : Addr) (xs : List Int32) (args : Array Value) (s : State) : Prop := args = #[.ref b] ∧ s.IntsAt b xs ∧ xs.length ≤ 2560 ∧ (Jvm.Cond.and given_1 narrow_1).before args s = true
def lw_Q (_ : Array Value) (s : State) (o : Outcome) (t : State) : Prop := o = .returned (some (.int 1)) ∧ Framed s o t [] 600000 7302250
def lw_Z (below : List Frame) (a : Array Value) (s : State) : State → Prop := fun t => ∃ o, t.status = .running ∧ Ended t below o ∧ lw_Q a s o t
/-- the law's own end, with 1 on the stack, nothing written that was there before, its room as the claim has it -/
theorem lw_ret {p : Program} {l : Launch} {e : Env} {s : State} {m : MethodId} {below : List Frame} {meth : Method} {c : Code} {b : Nat} (hx : p.tables.exec = Jvm.exec) (hb : c.code = code) (hr : meth.sig.returnType = ret) (hlocks : meth.locks = false) {pc : Nat} {H : Heap} {ls : Array Slot} (hdg : decode code pc = .ok (.ireturn, 1)) : W p l e room_1 s m #[Value.ref b] below meth c H [] 600000 7302250 (lw_Z below #[Value.ref b] s) (F0 m pc ls [.int 1]) := by
  intro T hT X
  obtain ⟨fs, hret, hrun, hended, hW, hframe⟩ := X.leave (v := some (.int 1)) (hlocks := hlocks) (fun h => by rw [hr] at h; cases h)
  have hmeth' : T.vm.method? m = some meth := X.method'
  refine ⟨T.setFrames fs, ?_, .returned (some (.int 1)), hrun, hended, rfl, ⟨_, rfl⟩, hW, hframe⟩
  jvm_step X.here [X.here.top, hx, hb, hdg, hmeth', hr, ret, narrow_b1]
  (try refine ⟨rfl, ?_⟩); (try refine ⟨rfl, ?_⟩)
  first | (intro acts; rw [hret _ acts rfl rfl rfl]) | rw [hret _ _ rfl rfl rfl]
  exact Steps.refl _
/-- what holds at the law's entry: the machine, the code, the tables' words (any of lw_tbl by 'hts w (by decide +kernel)'), the script of L ints xs at the cell b, what the Statement gives of the start (any of its parts by flat_of_before) -/
def lw_At (p : Program) (s : State) (m : MethodId) (meth : Method) (c : Code) (b L : Nat) (xs : Nat → Int32) : Prop :=
  p.tables.exec = Jvm.exec ∧ c.code = code ∧ meth.sig.returnType = ret ∧ c.maxLocals = 4 ∧ s.vm.findClass R_law = some m.cls ∧ (∀ w ∈ lw_tbl, w.before #[Value.ref b] s = true) ∧ va_X b L xs s s.heap ∧ b < s.heap.size ∧ meth.locks = false ∧ (Jvm.Cond.and given_1 narrow_1).before #[Value.ref b] s = true
/-- what stands through the law's loop -/
def lw_C (p : Program) (s : State) (m : MethodId) (args : Array Value) (meth : Method) (c : Code) (b L : Nat) (xs : Nat → Int32) (ad : Nat → Nat) (K : bz_K) (A : Nat → Prop) : Prop :=
  p.tables.exec = Jvm.exec ∧ c.code = code ∧ c.maxLocals = 4 ∧ s.vm.findClass R_law = some m.cls ∧ (∀ w ∈ bz_tbl, w.before args s = true) ∧ bz_G ad K 73 A s ∧ va_X b L xs s s.heap ∧ b < s.heap.size ∧ ¬ A b ∧ L ≤ 2560
abbrev lw_l (b : Nat) (ad : Nat → Nat) (i : Nat) : List (Nat × Value) := [(0, .ref b), (1, .ref (ad 23)), (2, .ref (ad 54)), (3, .int (nI i))]
section LW
variable {p : Program} {l : Launch} {e : Env} {s : State} {m : MethodId} {args : Array Value} {below : List Frame} {meth : Method} {c : Code} {H : Heap} {locs : List Loc} {cells slots : Nat} {Q : State → Prop} {b L i : Nat} {xs : Nat → Int32} {ad : Nat → Nat} {K : bz_K} {A : Nat → Prop} {ls : Array Slot} {σ : bz_S}
theorem lw_arg {pc k : Nat} {z : Int} {rest : List Value} (C : lw_C p s m args meth c b L xs ad K A) (hS : va_S A s.heap H locs) (hl : lv_has ls 4 (lw_l b ad i)) (hi : i + 5 ≤ L) (hk : k < 5) (hz : Int32.ofInt z = nI k) (d0 : decode code pc = .ok (.aload_n 0, 1)) (d1 : decode code (pc + 1) = .ok (.iload_n 3, 1)) (d2 : decode code (pc + 2) = .ok (.iconst z, 1)) (d3 : decode code (pc + 3) = .ok (.iadd, 1)) (d4 : decode code (pc + 4) = .ok (.iaload, 1))
    (kk : W p l e room_1 s m args below meth c H locs cells slots Q (F0 m (pc + 5) ls (.int (xs (i + k)) :: rest))) : W p l e room_1 s m args below meth c H locs cells slots Q (F0 m pc ls rest) := by
  obtain ⟨hx, hb, hml, hown, hts, hG, hX, hbl, hbA, hL⟩ := C
  refine lv_aload_n hx hb d0 rfl (lv_at hl 0 rfl) ?_
  refine lv_iload_n hx hb d1 rfl (lv_at hl 3 rfl) ?_
  refine lv_iconst hx hb d2 hz ?_
  refine lv_iadd hx hb d3 ?_
  rw [nI_add]
  refine va_sld hx hb hX hbl hbA hS (vp_in_nI (by omega) (by omega)) d4 ?_
  rw [nI_clamp (by omega)]
  exact kk
theorem lw_call {pc idx N k ci b0 z : Nat} {fl : List (Option Nat)} {qc : vw_C} {M : bz_M} {av st : List Value} {lv : List (Option Value)} {r1 : Option Value} {σ1 : bz_S} (C : lw_C p s m args meth c b L xs ad K A) (hm : bz_mv M N) (hi : bz_mi M) (hlk : Cond.methodLink R_law idx M.1 ∈ bz_tbl) (hd : decode code pc = .ok (.invokevirtual idx, 3)) (hs : bz_sh k = (4, ci, b0, fl)) (hk : k < 73) (hc : vwCl[ci]? = some qc) (hcn : qc.1 = M.1.cls) (hN : av.length = N) (hent : bz_arg (.ref (ad k) :: av) ++ List.replicate z none = lv) (hle : (lg_sl (.ref (ad k) :: av)).length ≤ M.2.2.2.1) (hrest : (st.map fun v => v.category).sum ≤ 8) (hV : bz_V l ad K 73 M 6 r1 σ1 0 lv [] σ) (hcs : cells ≤ 600000 ∧ slots ≤ 7302250) (hP : va_P K.1 vwCl (bz_ws ad K σ 73) H) (hS : va_S A s.heap H locs) (hsz : ls.size = 4)
    (kk : ∀ (H1 : Heap) (locs1 : List Loc), va_P K.1 vwCl (bz_ws ad K σ1 73) H1 → va_S A s.heap H1 locs1 → W p l e room_1 s m args below meth c H1 locs1 cells slots Q (F0 m (pc + 3) ls (r1.toList ++ st))) : W p l e room_1 s m args below meth c H locs cells slots Q (F0 m pc ls (av.reverse ++ .ref (ad k) :: st)) := by
  obtain ⟨hx, hb, hml, hown, hts, hG, hX, hbl, hbA, hL⟩ := C
  have he : (bz_ws ad K σ 73)[k]? = some (ad k, .inr (ci, fl.map (bz_fv ad σ))) := by rw [bz_ws_at hk, bz_ent4 hs]
  have hrc := va_recv hG.1 hP hc he
  rw [hcn] at hrc
  have hGd : GoodIn bz_tbl (wsV R_law idx M.1.cls M.1 (bz_w M)) := fun w hw => by
    rcases List.mem_append.mp hw with h | h
    · refine bz_tbl_good _ ?_
      simp only [List.mem_cons, List.not_mem_nil, or_false] at h
      rcases h with rfl | rfl | rfl | rfl
      · exact hlk
      · exact hi.1
      · exact hi.2
      · exact hm.2.2.2.1
    · exact bz_w_good hm w h
  refine bz_goes (r1 := r1) (σ1 := σ1) (ad := ad) (K := K) (n := 73) (va_runV (As := av) (rest := st) ⟨hx, hb, hml, hown, hts⟩ (bz_met hm hent hle hV) (cwV N hts hGd rfl rfl rfl ⟨rfl, hm.2.2.2.2.1⟩ ⟨Nat.le_of_ble_eq_true rfl, by show 8 + (M.2.2.2.1 + 11) + 38 * 6 ≤ 346; have := hm.2.2.2.2.2; omega⟩) ⟨bz_blind, hrc, fun U hU hW => ⟨rfl, by rw [hU]; exact hP, bz_G_move hG hS hU hW⟩⟩ rfl hN hsz rfl (lv_room hrest) hd hcs) hG.2.2.2.1 hS kk
theorem lg_cmp_self (x : Int64) : lg_cmp x x = 0 := by
  unfold lg_cmp
  rw [if_neg (by rw [gt_iff_lt, Int64.lt_iff_toInt_lt]; omega), if_pos rfl]
theorem lw_c0 (C : lw_C p s m args meth c b L xs ad K A) (hi : i + 5 ≤ L) (h : bI σ) (hcs : cells ≤ 600000 ∧ slots ≤ 7302250) (hP : va_P K.1 vwCl (bz_ws ad K σ 73) H) (hS : va_S A s.heap H locs) (hl : lv_has ls 4 (lw_l b ad i)) (kk : ∀ (σ2 : bz_S) (H1 : Heap) (locs1 : List Loc), bI σ2 → va_P K.1 vwCl (bz_ws ad K σ2 73) H1 → va_S A s.heap H1 locs1 → W p l e room_1 s m args below meth c H1 locs1 cells slots Q (F0 m 871 ls [])) : W p l e room_1 s m args below meth c H locs cells slots Q (F0 m 128 ls []) := by
  obtain ⟨r, σ1, σ2, v1, v2, h2⟩ := b_part (l := l) (ad := ad) (K := K) h (xs (i + 1)) (xs (i + 2))
  have C0 := C
  obtain ⟨hx, hb, -⟩ := C0
  refine lv_aload_n hx hb dL_law_128 rfl (lv_at hl 1 rfl) ?_
  refine lw_arg C hS hl hi (k := 1) (by decide) (by decide) dL_law_129 dL_law_130 dL_law_131 dL_law_132 dL_law_133 ?_
  refine lw_arg C hS hl hi (k := 2) (by decide) (by decide) dL_law_134 dL_law_135 dL_law_136 dL_law_137 dL_law_138 ?_
  refine lw_call (k := 23) (ci := 3) (z := 0) (av := [.int (xs (i + 1)), .int (xs (i + 2))]) (st := []) (r1 := some (.int r)) C mv_X3_part mi_X3_part lk_L_13 dL_law_139 rfl (by decide) rfl rfl rfl rfl (Nat.le_of_ble_eq_true rfl) (Nat.le_of_ble_eq_true rfl) v1 hcs hP hS hl.1 (fun H locs hP hS => ?_)
  refine lv_aload_n hx hb dL_law_142 rfl (lv_at hl 2 rfl) ?_
  refine lw_arg C hS hl hi (k := 1) (by decide) (by decide) dL_law_143 dL_law_144 dL_law_145 dL_law_146 dL_law_147 ?_
  refine lw_arg C hS hl hi (k := 2) (by decide) (by decide) dL_law_148 dL_law_149 dL_law_150 dL_law_151 dL_law_152 ?_
  refine lw_call (k := 54) (ci := 4) (z := 0) (av := [.int (xs (i + 1)), .int (xs (i + 2))]) (st := [.int r]) (r1 := some (.int r)) C mv_X4_part mi_X4_part lk_L_17 dL_law_153 rfl (by decide) rfl rfl rfl rfl (Nat.le_of_ble_eq_true rfl) (Nat.le_of_ble_eq_true rfl) v2 hcs hP hS hl.1 (fun H locs hP hS => ?_)
  exact lv_icmp_eq (tgt := 871) hx hb dL_law_156 rfl (fun _ => kk σ2 H locs h2 hP hS) (fun q => absurd rfl q)
theorem lw_c1 (C : lw_C p s m args meth c b L xs ad K A) (hi : i + 5 ≤ L) (h : bI σ) (hcs : cells ≤ 600000 ∧ slots ≤ 7302250) (hP : va_P K.1 vwCl (bz_ws ad K σ 73) H) (hS : va_S A s.heap H locs) (hl : lv_has ls 4 (lw_l b ad i)) (kk : ∀ (σ2 : bz_S) (H1 : Heap) (locs1 : List Loc), bI σ2 → va_P K.1 vwCl (bz_ws ad K σ2 73) H1 → va_S A s.heap H1 locs1 → W p l e room_1 s m args below meth c H1 locs1 cells slots Q (F0 m 871 ls [])) : W p l e room_1 s m args below meth c H locs cells slots Q (F0 m 161 ls []) := by
  obtain ⟨r, σ1, σ2, v1, v2, h2⟩ := b_about (l := l) (ad := ad) (K := K) h (xs (i + 1)) (xs (i + 2))
  have C0 := C
  obtain ⟨hx, hb, -⟩ := C0
  refine lv_aload_n hx hb dL_law_161 rfl (lv_at hl 1 rfl) ?_
  refine lw_arg C hS hl hi (k := 1) (by decide) (by decide) dL_law_162 dL_law_163 dL_law_164 dL_law_165 dL_law_166 ?_
  refine lw_arg C hS hl hi (k := 2) (by decide) (by decide) dL_law_167 dL_law_168 dL_law_169 dL_law_170 dL_law_171 ?_
  refine lw_call (k := 23) (ci := 3) (z := 0) (av := [.int (xs (i + 1)), .int (xs (i + 2))]) (st := []) (r1 := some (.int r)) C mv_X3_about mi_X3_about lk_L_18 dL_law_172 rfl (by decide) rfl rfl rfl rfl (Nat.le_of_ble_eq_true rfl) (Nat.le_of_ble_eq_true rfl) v1 hcs hP hS hl.1 (fun H locs hP hS => ?_)
  refine lv_aload_n hx hb dL_law_175 rfl (lv_at hl 2 rfl) ?_
  refine lw_arg C hS hl hi (k := 1) (by decide) (by decide) dL_law_176 dL_law_177 dL_law_178 dL_law_179 dL_law_180 ?_
  refine lw_arg C hS hl hi (k := 2) (by decide) (by decide) dL_law_181 dL_law_182 dL_law_183 dL_law_184 dL_law_185 ?_
  refine lw_call (k := 54) (ci := 4) (z := 0) (av := [.int (xs (i + 1)), .int (xs (i + 2))]) (st := [.int r]) (r1 := some (.int r)) C mv_X4_about mi_X4_about lk_L_21 dL_law_186 rfl (by decide) rfl rfl rfl rfl (Nat.le_of_ble_eq_true rfl) (Nat.le_of_ble_eq_true rfl) v2 hcs hP hS hl.1 (fun H locs hP hS => ?_)
  exact lv_icmp_eq (tgt := 871) hx hb dL_law_189 rfl (fun _ => kk σ2 H locs h2 hP hS) (fun q => absurd rfl q)
theorem lw_c2 (C : lw_C p s m args meth c b L xs ad K A) (hi : i + 5 ≤ L) (h : bI σ) (hcs : cells ≤ 600000 ∧ slots ≤ 7302250) (hP : va_P K.1 vwCl (bz_ws ad K σ 73) H) (hS : va_S A s.heap H locs) (hl : lv_has ls 4 (lw_l b ad i)) (kk : ∀ (σ2 : bz_S) (H1 : Heap) (locs1 : List Loc), bI σ2 → va_P K.1 vwCl (bz_ws ad K σ2 73) H1 → va_S A s.heap H1 locs1 → W p l e room_1 s m args below meth c H1 locs1 cells slots Q (F0 m 871 ls [])) : W p l e room_1 s m args below meth c H locs cells slots Q (F0 m 194 ls []) := by
  obtain ⟨r, σ1, σ2, v1, v2, h2⟩ := b_kostka (l := l) (ad := ad) (K := K) h (xs (i + 1)) (xs (i + 2))
  have C0 := C
  obtain ⟨hx, hb, -⟩ := C0
  refine lv_aload_n hx hb dL_law_194 rfl (lv_at hl 1 rfl) ?_
  refine lw_arg C hS hl hi (k := 1) (by decide) (by decide) dL_law_195 dL_law_196 dL_law_197 dL_law_198 dL_law_199 ?_
  refine lw_arg C hS hl hi (k := 2) (by decide) (by decide) dL_law_200 dL_law_201 dL_law_202 dL_law_203 dL_law_204 ?_
  refine lw_call (k := 23) (ci := 3) (z := 0) (av := [.int (xs (i + 1)), .int (xs (i + 2))]) (st := []) (r1 := some (.int r)) C mv_X3_kostka mi_X3_kostka lk_L_22 dL_law_205 rfl (by decide) rfl rfl rfl rfl (Nat.le_of_ble_eq_true rfl) (Nat.le_of_ble_eq_true rfl) v1 hcs hP hS hl.1 (fun H locs hP hS => ?_)
  refine lv_aload_n hx hb dL_law_208 rfl (lv_at hl 2 rfl) ?_
  refine lw_arg C hS hl hi (k := 1) (by decide) (by decide) dL_law_209 dL_law_210 dL_law_211 dL_law_212 dL_law_213 ?_
  refine lw_arg C hS hl hi (k := 2) (by decide) (by decide) dL_law_214 dL_law_215 dL_law_216 dL_law_217 dL_law_218 ?_
  refine lw_call (k := 54) (ci := 4) (z := 0) (av := [.int (xs (i + 1)), .int (xs (i + 2))]) (st := [.int r]) (r1 := some (.int r)) C mv_X4_kostka mi_X4_kostka lk_L_25 dL_law_219 rfl (by decide) rfl rfl rfl rfl (Nat.le_of_ble_eq_true rfl) (Nat.le_of_ble_eq_true rfl) v2 hcs hP hS hl.1 (fun H locs hP hS => ?_)
  exact lv_icmp_eq (tgt := 871) hx hb dL_law_222 rfl (fun _ => kk σ2 H locs h2 hP hS) (fun q => absurd rfl q)
theorem lw_c3 (C : lw_C p s m args meth c b L xs ad K A) (hi : i + 5 ≤ L) (h : bI σ) (hcs : cells ≤ 600000 ∧ slots ≤ 7302250) (hP : va_P K.1 vwCl (bz_ws ad K σ 73) H) (hS : va_S A s.heap H locs) (hl : lv_has ls 4 (lw_l b ad i)) (kk : ∀ (σ2 : bz_S) (H1 : Heap) (locs1 : List Loc), bI σ2 → va_P K.1 vwCl (bz_ws ad K σ2 73) H1 → va_S A s.heap H1 locs1 → W p l e room_1 s m args below meth c H1 locs1 cells slots Q (F0 m 871 ls [])) : W p l e room_1 s m args below meth c H locs cells slots Q (F0 m 227 ls []) := by
  obtain ⟨r, σ1, σ2, v1, v2, h2⟩ := b_character (l := l) (ad := ad) (K := K) h (xs (i + 1)) (xs (i + 2))
  have C0 := C
  obtain ⟨hx, hb, -⟩ := C0
  refine lv_aload_n hx hb dL_law_227 rfl (lv_at hl 1 rfl) ?_
  refine lw_arg C hS hl hi (k := 1) (by decide) (by decide) dL_law_228 dL_law_229 dL_law_230 dL_law_231 dL_law_232 ?_
  refine lw_arg C hS hl hi (k := 2) (by decide) (by decide) dL_law_233 dL_law_234 dL_law_235 dL_law_236 dL_law_237 ?_
  refine lw_call (k := 23) (ci := 3) (z := 0) (av := [.int (xs (i + 1)), .int (xs (i + 2))]) (st := []) (r1 := some (.int r)) C mv_X3_character mi_X3_character lk_L_26 dL_law_238 rfl (by decide) rfl rfl rfl rfl (Nat.le_of_ble_eq_true rfl) (Nat.le_of_ble_eq_true rfl) v1 hcs hP hS hl.1 (fun H locs hP hS => ?_)
  refine lv_aload_n hx hb dL_law_241 rfl (lv_at hl 2 rfl) ?_
  refine lw_arg C hS hl hi (k := 1) (by decide) (by decide) dL_law_242 dL_law_243 dL_law_244 dL_law_245 dL_law_246 ?_
  refine lw_arg C hS hl hi (k := 2) (by decide) (by decide) dL_law_247 dL_law_248 dL_law_249 dL_law_250 dL_law_251 ?_
  refine lw_call (k := 54) (ci := 4) (z := 0) (av := [.int (xs (i + 1)), .int (xs (i + 2))]) (st := [.int r]) (r1 := some (.int r)) C mv_X4_character mi_X4_character lk_L_29 dL_law_252 rfl (by decide) rfl rfl rfl rfl (Nat.le_of_ble_eq_true rfl) (Nat.le_of_ble_eq_true rfl) v2 hcs hP hS hl.1 (fun H locs hP hS => ?_)
  exact lv_icmp_eq (tgt := 871) hx hb dL_law_255 rfl (fun _ => kk σ2 H locs h2 hP hS) (fun q => absurd rfl q)
theorem lw_c4 (C : lw_C p s m args meth c b L xs ad K A) (hi : i + 5 ≤ L) (h : bI σ) (hcs : cells ≤ 600000 ∧ slots ≤ 7302250) (hP : va_P K.1 vwCl (bz_ws ad K σ 73) H) (hS : va_S A s.heap H locs) (hl : lv_has ls 4 (lw_l b ad i)) (kk : ∀ (σ2 : bz_S) (H1 : Heap) (locs1 : List Loc), bI σ2 → va_P K.1 vwCl (bz_ws ad K σ2 73) H1 → va_S A s.heap H1 locs1 → W p l e room_1 s m args below meth c H1 locs1 cells slots Q (F0 m 871 ls [])) : W p l e room_1 s m args below meth c H locs cells slots Q (F0 m 260 ls []) := by
  obtain ⟨r, σ1, σ2, v1, v2, h2⟩ := b_above (l := l) (ad := ad) (K := K) h (xs (i + 1)) (xs (i + 2))
  have C0 := C
  obtain ⟨hx, hb, -⟩ := C0
  refine lv_aload_n hx hb dL_law_260 rfl (lv_at hl 1 rfl) ?_
  refine lw_arg C hS hl hi (k := 1) (by decide) (by decide) dL_law_261 dL_law_262 dL_law_263 dL_law_264 dL_law_265 ?_
  refine lw_arg C hS hl hi (k := 2) (by decide) (by decide) dL_law_266 dL_law_267 dL_law_268 dL_law_269 dL_law_270 ?_
  refine lw_call (k := 23) (ci := 3) (z := 0) (av := [.int (xs (i + 1)), .int (xs (i + 2))]) (st := []) (r1 := some (.int r)) C mv_X3_above mi_X3_above lk_L_30 dL_law_271 rfl (by decide) rfl rfl rfl rfl (Nat.le_of_ble_eq_true rfl) (Nat.le_of_ble_eq_true rfl) v1 hcs hP hS hl.1 (fun H locs hP hS => ?_)
  refine lv_aload_n hx hb dL_law_274 rfl (lv_at hl 2 rfl) ?_
  refine lw_arg C hS hl hi (k := 1) (by decide) (by decide) dL_law_275 dL_law_276 dL_law_277 dL_law_278 dL_law_279 ?_
  refine lw_arg C hS hl hi (k := 2) (by decide) (by decide) dL_law_280 dL_law_281 dL_law_282 dL_law_283 dL_law_284 ?_
  refine lw_call (k := 54) (ci := 4) (z := 3) (av := [.int (xs (i + 1)), .int (xs (i + 2))]) (st := [.int r]) (r1 := some (.int r)) C mv_X4_above mi_X4_above lk_L_33 dL_law_285 rfl (by decide) rfl rfl rfl rfl (Nat.le_of_ble_eq_true rfl) (Nat.le_of_ble_eq_true rfl) v2 hcs hP hS hl.1 (fun H locs hP hS => ?_)
  exact lv_icmp_eq (tgt := 871) hx hb dL_law_288 rfl (fun _ => kk σ2 H locs h2 hP hS) (fun q => absurd rfl q)
theorem lw_c5 (C : lw_C p s m args meth c b L xs ad K A) (hi : i + 5 ≤ L) (h : bI σ) (hcs : cells ≤ 600000 ∧ slots ≤ 7302250) (hP : va_P K.1 vwCl (bz_ws ad K σ 73) H) (hS : va_S A s.heap H locs) (hl : lv_has ls 4 (lw_l b ad i)) (kk : ∀ (σ2 : bz_S) (H1 : Heap) (locs1 : List Loc), bI σ2 → va_P K.1 vwCl (bz_ws ad K σ2 73) H1 → va_S A s.heap H1 locs1 → W p l e room_1 s m args below meth c H1 locs1 cells slots Q (F0 m 871 ls [])) : W p l e room_1 s m args below meth c H locs cells slots Q (F0 m 293 ls []) := by
  obtain ⟨r, σ1, σ2, v1, v2, h2⟩ := b_put (l := l) (ad := ad) (K := K) h (xs (i + 1)) (xs (i + 2)) (xs (i + 3)) (xs (i + 4))
  have C0 := C
  obtain ⟨hx, hb, -⟩ := C0
  refine lv_aload_n hx hb dL_law_293 rfl (lv_at hl 1 rfl) ?_
  refine lw_arg C hS hl hi (k := 1) (by decide) (by decide) dL_law_294 dL_law_295 dL_law_296 dL_law_297 dL_law_298 ?_
  refine lw_arg C hS hl hi (k := 2) (by decide) (by decide) dL_law_299 dL_law_300 dL_law_301 dL_law_302 dL_law_303 ?_
  refine lw_arg C hS hl hi (k := 3) (by decide) (by decide) dL_law_304 dL_law_305 dL_law_306 dL_law_307 dL_law_308 ?_
  refine lw_arg C hS hl hi (k := 4) (by decide) (by decide) dL_law_309 dL_law_310 dL_law_311 dL_law_312 dL_law_313 ?_
  refine lw_call (k := 23) (ci := 3) (z := 0) (av := [.int (xs (i + 1)), .int (xs (i + 2)), .int (xs (i + 3)), .int (xs (i + 4))]) (st := []) (r1 := some (.int r)) C mv_X3_put mi_X3_put lk_L_34 dL_law_314 rfl (by decide) rfl rfl rfl rfl (Nat.le_of_ble_eq_true rfl) (Nat.le_of_ble_eq_true rfl) v1 hcs hP hS hl.1 (fun H locs hP hS => ?_)
  refine lv_aload_n hx hb dL_law_317 rfl (lv_at hl 2 rfl) ?_
  refine lw_arg C hS hl hi (k := 1) (by decide) (by decide) dL_law_318 dL_law_319 dL_law_320 dL_law_321 dL_law_322 ?_
  refine lw_arg C hS hl hi (k := 2) (by decide) (by decide) dL_law_323 dL_law_324 dL_law_325 dL_law_326 dL_law_327 ?_
  refine lw_arg C hS hl hi (k := 3) (by decide) (by decide) dL_law_328 dL_law_329 dL_law_330 dL_law_331 dL_law_332 ?_
  refine lw_arg C hS hl hi (k := 4) (by decide) (by decide) dL_law_333 dL_law_334 dL_law_335 dL_law_336 dL_law_337 ?_
  refine lw_call (k := 54) (ci := 4) (z := 0) (av := [.int (xs (i + 1)), .int (xs (i + 2)), .int (xs (i + 3)), .int (xs (i + 4))]) (st := [.int r]) (r1 := some (.int r)) C mv_X4_put mi_X4_put lk_L_38 dL_law_338 rfl (by decide) rfl rfl rfl rfl (Nat.le_of_ble_eq_true rfl) (Nat.le_of_ble_eq_true rfl) v2 hcs hP hS hl.1 (fun H locs hP hS => ?_)
  exact lv_icmp_eq (tgt := 871) hx hb dL_law_341 rfl (fun _ => kk σ2 H locs h2 hP hS) (fun q => absurd rfl q)
theorem lw_c6 (C : lw_C p s m args meth c b L xs ad K A) (hi : i + 5 ≤ L) (h : bI σ) (hcs : cells ≤ 600000 ∧ slots ≤ 7302250) (hP : va_P K.1 vwCl (bz_ws ad K σ 73) H) (hS : va_S A s.heap H locs) (hl : lv_has ls 4 (lw_l b ad i)) (kk : ∀ (σ2 : bz_S) (H1 : Heap) (locs1 : List Loc), bI σ2 → va_P K.1 vwCl (bz_ws ad K σ2 73) H1 → va_S A s.heap H1 locs1 → W p l e room_1 s m args below meth c H1 locs1 cells slots Q (F0 m 871 ls [])) : W p l e room_1 s m args below meth c H locs cells slots Q (F0 m 346 ls []) := by
  obtain ⟨r, σ1, σ2, v1, v2, h2⟩ := b_add (l := l) (ad := ad) (K := K) h (xs (i + 1)) (xs (i + 2)) (xs (i + 3))
  have C0 := C
  obtain ⟨hx, hb, -⟩ := C0
  refine lv_aload_n hx hb dL_law_346 rfl (lv_at hl 1 rfl) ?_
  refine lw_arg C hS hl hi (k := 1) (by decide) (by decide) dL_law_347 dL_law_348 dL_law_349 dL_law_350 dL_law_351 ?_
  refine lw_arg C hS hl hi (k := 2) (by decide) (by decide) dL_law_352 dL_law_353 dL_law_354 dL_law_355 dL_law_356 ?_
  refine lw_arg C hS hl hi (k := 3) (by decide) (by decide) dL_law_357 dL_law_358 dL_law_359 dL_law_360 dL_law_361 ?_
  refine lw_call (k := 23) (ci := 3) (z := 1) (av := [.int (xs (i + 1)), .int (xs (i + 2)), .int (xs (i + 3))]) (st := []) (r1 := some (.int r)) C mv_X3_add mi_X3_add lk_L_39 dL_law_362 rfl (by decide) rfl rfl rfl rfl (Nat.le_of_ble_eq_true rfl) (Nat.le_of_ble_eq_true rfl) v1 hcs hP hS hl.1 (fun H locs hP hS => ?_)
  refine lv_aload_n hx hb dL_law_365 rfl (lv_at hl 2 rfl) ?_
  refine lw_arg C hS hl hi (k := 1) (by decide) (by decide) dL_law_366 dL_law_367 dL_law_368 dL_law_369 dL_law_370 ?_
  refine lw_arg C hS hl hi (k := 2) (by decide) (by decide) dL_law_371 dL_law_372 dL_law_373 dL_law_374 dL_law_375 ?_
  refine lw_arg C hS hl hi (k := 3) (by decide) (by decide) dL_law_376 dL_law_377 dL_law_378 dL_law_379 dL_law_380 ?_
  refine lw_call (k := 54) (ci := 4) (z := 1) (av := [.int (xs (i + 1)), .int (xs (i + 2)), .int (xs (i + 3))]) (st := [.int r]) (r1 := some (.int r)) C mv_X4_add mi_X4_add lk_L_43 dL_law_381 rfl (by decide) rfl rfl rfl rfl (Nat.le_of_ble_eq_true rfl) (Nat.le_of_ble_eq_true rfl) v2 hcs hP hS hl.1 (fun H locs hP hS => ?_)
  exact lv_icmp_eq (tgt := 871) hx hb dL_law_384 rfl (fun _ => kk σ2 H locs h2 hP hS) (fun q => absurd rfl q)
theorem lw_c7 (C : lw_C p s m args meth c b L xs ad K A) (hi : i + 5 ≤ L) (h : bI σ) (hcs : cells ≤ 600000 ∧ slots ≤ 7302250) (hP : va_P K.1 vwCl (bz_ws ad K σ 73) H) (hS : va_S A s.heap H locs) (hl : lv_has ls 4 (lw_l b ad i)) (kk : ∀ (σ2 : bz_S) (H1 : Heap) (locs1 : List Loc), bI σ2 → va_P K.1 vwCl (bz_ws ad K σ2 73) H1 → va_S A s.heap H1 locs1 → W p l e room_1 s m args below meth c H1 locs1 cells slots Q (F0 m 871 ls [])) : W p l e room_1 s m args below meth c H locs cells slots Q (F0 m 389 ls []) := by
  obtain ⟨r, σ1, σ2, v1, v2, h2⟩ := b_degree (l := l) (ad := ad) (K := K) h (xs (i + 1))
  have C0 := C
  obtain ⟨hx, hb, -⟩ := C0
  refine lv_aload_n hx hb dL_law_389 rfl (lv_at hl 1 rfl) ?_
  refine lw_arg C hS hl hi (k := 1) (by decide) (by decide) dL_law_390 dL_law_391 dL_law_392 dL_law_393 dL_law_394 ?_
  refine lw_call (k := 23) (ci := 3) (z := 0) (av := [.int (xs (i + 1))]) (st := []) (r1 := some (.int r)) C mv_X3_degree mi_X3_degree lk_L_44 dL_law_395 rfl (by decide) rfl rfl rfl rfl (Nat.le_of_ble_eq_true rfl) (Nat.le_of_ble_eq_true rfl) v1 hcs hP hS hl.1 (fun H locs hP hS => ?_)
  refine lv_aload_n hx hb dL_law_398 rfl (lv_at hl 2 rfl) ?_
  refine lw_arg C hS hl hi (k := 1) (by decide) (by decide) dL_law_399 dL_law_400 dL_law_401 dL_law_402 dL_law_403 ?_
  refine lw_call (k := 54) (ci := 4) (z := 0) (av := [.int (xs (i + 1))]) (st := [.int r]) (r1 := some (.int r)) C mv_X4_degree mi_X4_degree lk_L_48 dL_law_404 rfl (by decide) rfl rfl rfl rfl (Nat.le_of_ble_eq_true rfl) (Nat.le_of_ble_eq_true rfl) v2 hcs hP hS hl.1 (fun H locs hP hS => ?_)
  exact lv_icmp_eq (tgt := 871) hx hb dL_law_407 rfl (fun _ => kk σ2 H locs h2 hP hS) (fun q => absurd rfl q)
theorem lw_c8 (C : lw_C p s m args meth c b L xs ad K A) (hi : i + 5 ≤ L) (h : bI σ) (hcs : cells ≤ 600000 ∧ slots ≤ 7302250) (hP : va_P K.1 vwCl (bz_ws ad K σ 73) H) (hS : va_S A s.heap H locs) (hl : lv_has ls 4 (lw_l b ad i)) (kk : ∀ (σ2 : bz_S) (H1 : Heap) (locs1 : List Loc), bI σ2 → va_P K.1 vwCl (bz_ws ad K σ2 73) H1 → va_S A s.heap H1 locs1 → W p l e room_1 s m args below meth c H1 locs1 cells slots Q (F0 m 871 ls [])) : W p l e room_1 s m args below meth c H locs cells slots Q (F0 m 412 ls []) := by
  obtain ⟨r, σ1, σ2, v1, v2, h2⟩ := b_coefficient (l := l) (ad := ad) (K := K) h (xs (i + 1)) (xs (i + 2)) (xs (i + 3)) (xs (i + 4))
  have C0 := C
  obtain ⟨hx, hb, -⟩ := C0
  refine lv_aload_n hx hb dL_law_412 rfl (lv_at hl 1 rfl) ?_
  refine lw_arg C hS hl hi (k := 1) (by decide) (by decide) dL_law_413 dL_law_414 dL_law_415 dL_law_416 dL_law_417 ?_
  refine lw_arg C hS hl hi (k := 2) (by decide) (by decide) dL_law_418 dL_law_419 dL_law_420 dL_law_421 dL_law_422 ?_
  refine lw_arg C hS hl hi (k := 3) (by decide) (by decide) dL_law_423 dL_law_424 dL_law_425 dL_law_426 dL_law_427 ?_
  refine lw_arg C hS hl hi (k := 4) (by decide) (by decide) dL_law_428 dL_law_429 dL_law_430 dL_law_431 dL_law_432 ?_
  refine lw_call (k := 23) (ci := 3) (z := 4) (av := [.int (xs (i + 1)), .int (xs (i + 2)), .int (xs (i + 3)), .int (xs (i + 4))]) (st := []) (r1 := some (.long r)) C mv_X3_coefficient mi_X3_coefficient lk_L_49 dL_law_433 rfl (by decide) rfl rfl rfl rfl (Nat.le_of_ble_eq_true rfl) (Nat.le_of_ble_eq_true rfl) v1 hcs hP hS hl.1 (fun H locs hP hS => ?_)
  refine lv_aload_n hx hb dL_law_436 rfl (lv_at hl 2 rfl) ?_
  refine lw_arg C hS hl hi (k := 1) (by decide) (by decide) dL_law_437 dL_law_438 dL_law_439 dL_law_440 dL_law_441 ?_
  refine lw_arg C hS hl hi (k := 2) (by decide) (by decide) dL_law_442 dL_law_443 dL_law_444 dL_law_445 dL_law_446 ?_
  refine lw_arg C hS hl hi (k := 3) (by decide) (by decide) dL_law_447 dL_law_448 dL_law_449 dL_law_450 dL_law_451 ?_
  refine lw_arg C hS hl hi (k := 4) (by decide) (by decide) dL_law_452 dL_law_453 dL_law_454 dL_law_455 dL_law_456 ?_
  refine lw_call (k := 54) (ci := 4) (z := 4) (av := [.int (xs (i + 1)), .int (xs (i + 2)), .int (xs (i + 3)), .int (xs (i + 4))]) (st := [.long r]) (r1 := some (.long r)) C mv_X4_coefficient mi_X4_coefficient lk_L_53 dL_law_457 rfl (by decide) rfl rfl rfl rfl (Nat.le_of_ble_eq_true rfl) (Nat.le_of_ble_eq_true rfl) v2 hcs hP hS hl.1 (fun H locs hP hS => ?_)
  refine W.lcmp hx hb dL_law_460 ?_
  rw [lg_cmp_self]
  exact lv_if_eq (tgt := 871) hx hb dL_law_461 rfl (fun _ => kk σ2 H locs h2 hP hS) (fun q => absurd rfl q)
theorem lw_c9 (C : lw_C p s m args meth c b L xs ad K A) (hi : i + 5 ≤ L) (h : bI σ) (hcs : cells ≤ 600000 ∧ slots ≤ 7302250) (hP : va_P K.1 vwCl (bz_ws ad K σ 73) H) (hS : va_S A s.heap H locs) (hl : lv_has ls 4 (lw_l b ad i)) (kk : ∀ (σ2 : bz_S) (H1 : Heap) (locs1 : List Loc), bI σ2 → va_P K.1 vwCl (bz_ws ad K σ2 73) H1 → va_S A s.heap H1 locs1 → W p l e room_1 s m args below meth c H1 locs1 cells slots Q (F0 m 871 ls [])) : W p l e room_1 s m args below meth c H locs cells slots Q (F0 m 466 ls []) := by
  obtain ⟨r, σ1, σ2, v1, v2, h2⟩ := b_next (l := l) (ad := ad) (K := K) h (xs (i + 1)) (xs (i + 2)) (xs (i + 3))
  have C0 := C
  obtain ⟨hx, hb, -⟩ := C0
  refine lv_aload_n hx hb dL_law_466 rfl (lv_at hl 1 rfl) ?_
  refine lw_arg C hS hl hi (k := 1) (by decide) (by decide) dL_law_467 dL_law_468 dL_law_469 dL_law_470 dL_law_471 ?_
  refine lw_arg C hS hl hi (k := 2) (by decide) (by decide) dL_law_472 dL_law_473 dL_law_474 dL_law_475 dL_law_476 ?_
  refine lw_arg C hS hl hi (k := 3) (by decide) (by decide) dL_law_477 dL_law_478 dL_law_479 dL_law_480 dL_law_481 ?_
  refine lw_call (k := 23) (ci := 3) (z := 1) (av := [.int (xs (i + 1)), .int (xs (i + 2)), .int (xs (i + 3))]) (st := []) (r1 := some (.int r)) C mv_X3_next mi_X3_next lk_L_54 dL_law_482 rfl (by decide) rfl rfl rfl rfl (Nat.le_of_ble_eq_true rfl) (Nat.le_of_ble_eq_true rfl) v1 hcs hP hS hl.1 (fun H locs hP hS => ?_)
  refine lv_aload_n hx hb dL_law_485 rfl (lv_at hl 2 rfl) ?_
  refine lw_arg C hS hl hi (k := 1) (by decide) (by decide) dL_law_486 dL_law_487 dL_law_488 dL_law_489 dL_law_490 ?_
  refine lw_arg C hS hl hi (k := 2) (by decide) (by decide) dL_law_491 dL_law_492 dL_law_493 dL_law_494 dL_law_495 ?_
  refine lw_arg C hS hl hi (k := 3) (by decide) (by decide) dL_law_496 dL_law_497 dL_law_498 dL_law_499 dL_law_500 ?_
  refine lw_call (k := 54) (ci := 4) (z := 2) (av := [.int (xs (i + 1)), .int (xs (i + 2)), .int (xs (i + 3))]) (st := [.int r]) (r1 := some (.int r)) C mv_X4_next mi_X4_next lk_L_57 dL_law_501 rfl (by decide) rfl rfl rfl rfl (Nat.le_of_ble_eq_true rfl) (Nat.le_of_ble_eq_true rfl) v2 hcs hP hS hl.1 (fun H locs hP hS => ?_)
  exact lv_icmp_eq (tgt := 871) hx hb dL_law_504 rfl (fun _ => kk σ2 H locs h2 hP hS) (fun q => absurd rfl q)
theorem lw_c10 (C : lw_C p s m args meth c b L xs ad K A) (hi : i + 5 ≤ L) (h : bI σ) (hcs : cells ≤ 600000 ∧ slots ≤ 7302250) (hP : va_P K.1 vwCl (bz_ws ad K σ 73) H) (hS : va_S A s.heap H locs) (hl : lv_has ls 4 (lw_l b ad i)) (kk : ∀ (σ2 : bz_S) (H1 : Heap) (locs1 : List Loc), bI σ2 → va_P K.1 vwCl (bz_ws ad K σ2 73) H1 → va_S A s.heap H1 locs1 → W p l e room_1 s m args below meth c H1 locs1 cells slots Q (F0 m 871 ls [])) : W p l e room_1 s m args below meth c H locs cells slots Q (F0 m 509 ls []) := by
  obtain ⟨r, σ1, σ2, v1, v2, h2⟩ := b_value (l := l) (ad := ad) (K := K) h (xs (i + 1)) (xs (i + 2)) (xs (i + 3)) (xs (i + 4))
  have C0 := C
  obtain ⟨hx, hb, -⟩ := C0
  refine lv_aload_n hx hb dL_law_509 rfl (lv_at hl 1 rfl) ?_
  refine lw_arg C hS hl hi (k := 1) (by decide) (by decide) dL_law_510 dL_law_511 dL_law_512 dL_law_513 dL_law_514 ?_
  refine lw_arg C hS hl hi (k := 2) (by decide) (by decide) dL_law_515 dL_law_516 dL_law_517 dL_law_518 dL_law_519 ?_
  refine lw_arg C hS hl hi (k := 3) (by decide) (by decide) dL_law_520 dL_law_521 dL_law_522 dL_law_523 dL_law_524 ?_
  refine lw_arg C hS hl hi (k := 4) (by decide) (by decide) dL_law_525 dL_law_526 dL_law_527 dL_law_528 dL_law_529 ?_
  refine lw_call (k := 23) (ci := 3) (z := 0) (av := [.int (xs (i + 1)), .int (xs (i + 2)), .int (xs (i + 3)), .int (xs (i + 4))]) (st := []) (r1 := some (.long r)) C mv_X3_value mi_X3_value lk_L_58 dL_law_530 rfl (by decide) rfl rfl rfl rfl (Nat.le_of_ble_eq_true rfl) (Nat.le_of_ble_eq_true rfl) v1 hcs hP hS hl.1 (fun H locs hP hS => ?_)
  refine lv_aload_n hx hb dL_law_533 rfl (lv_at hl 2 rfl) ?_
  refine lw_arg C hS hl hi (k := 1) (by decide) (by decide) dL_law_534 dL_law_535 dL_law_536 dL_law_537 dL_law_538 ?_
  refine lw_arg C hS hl hi (k := 2) (by decide) (by decide) dL_law_539 dL_law_540 dL_law_541 dL_law_542 dL_law_543 ?_
  refine lw_arg C hS hl hi (k := 3) (by decide) (by decide) dL_law_544 dL_law_545 dL_law_546 dL_law_547 dL_law_548 ?_
  refine lw_arg C hS hl hi (k := 4) (by decide) (by decide) dL_law_549 dL_law_550 dL_law_551 dL_law_552 dL_law_553 ?_
  refine lw_call (k := 54) (ci := 4) (z := 7) (av := [.int (xs (i + 1)), .int (xs (i + 2)), .int (xs (i + 3)), .int (xs (i + 4))]) (st := [.long r]) (r1 := some (.long r)) C mv_X4_value mi_X4_value lk_L_61 dL_law_554 rfl (by decide) rfl rfl rfl rfl (Nat.le_of_ble_eq_true rfl) (Nat.le_of_ble_eq_true rfl) v2 hcs hP hS hl.1 (fun H locs hP hS => ?_)
  refine W.lcmp hx hb dL_law_557 ?_
  rw [lg_cmp_self]
  exact lv_if_eq (tgt := 871) hx hb dL_law_558 rfl (fun _ => kk σ2 H locs h2 hP hS) (fun q => absurd rfl q)
theorem lw_c11 (C : lw_C p s m args meth c b L xs ad K A) (hi : i + 5 ≤ L) (h : bI σ) (hcs : cells ≤ 600000 ∧ slots ≤ 7302250) (hP : va_P K.1 vwCl (bz_ws ad K σ 73) H) (hS : va_S A s.heap H locs) (hl : lv_has ls 4 (lw_l b ad i)) (kk : ∀ (σ2 : bz_S) (H1 : Heap) (locs1 : List Loc), bI σ2 → va_P K.1 vwCl (bz_ws ad K σ2 73) H1 → va_S A s.heap H1 locs1 → W p l e room_1 s m args below meth c H1 locs1 cells slots Q (F0 m 871 ls [])) : W p l e room_1 s m args below meth c H locs cells slots Q (F0 m 563 ls []) := by
  obtain ⟨r, σ1, σ2, v1, v2, h2⟩ := b_scalar (l := l) (ad := ad) (K := K) h (xs (i + 1)) (xs (i + 2))
  have C0 := C
  obtain ⟨hx, hb, -⟩ := C0
  refine lv_aload_n hx hb dL_law_563 rfl (lv_at hl 1 rfl) ?_
  refine lw_arg C hS hl hi (k := 1) (by decide) (by decide) dL_law_564 dL_law_565 dL_law_566 dL_law_567 dL_law_568 ?_
  refine lw_arg C hS hl hi (k := 2) (by decide) (by decide) dL_law_569 dL_law_570 dL_law_571 dL_law_572 dL_law_573 ?_
  refine lw_call (k := 23) (ci := 3) (z := 0) (av := [.int (xs (i + 1)), .int (xs (i + 2))]) (st := []) (r1 := some (.long r)) C mv_X3_scalar mi_X3_scalar lk_L_62 dL_law_574 rfl (by decide) rfl rfl rfl rfl (Nat.le_of_ble_eq_true rfl) (Nat.le_of_ble_eq_true rfl) v1 hcs hP hS hl.1 (fun H locs hP hS => ?_)
  refine lv_aload_n hx hb dL_law_577 rfl (lv_at hl 2 rfl) ?_
  refine lw_arg C hS hl hi (k := 1) (by decide) (by decide) dL_law_578 dL_law_579 dL_law_580 dL_law_581 dL_law_582 ?_
  refine lw_arg C hS hl hi (k := 2) (by decide) (by decide) dL_law_583 dL_law_584 dL_law_585 dL_law_586 dL_law_587 ?_
  refine lw_call (k := 54) (ci := 4) (z := 0) (av := [.int (xs (i + 1)), .int (xs (i + 2))]) (st := [.long r]) (r1 := some (.long r)) C mv_X4_scalar mi_X4_scalar lk_L_66 dL_law_588 rfl (by decide) rfl rfl rfl rfl (Nat.le_of_ble_eq_true rfl) (Nat.le_of_ble_eq_true rfl) v2 hcs hP hS hl.1 (fun H locs hP hS => ?_)
  refine W.lcmp hx hb dL_law_591 ?_
  rw [lg_cmp_self]
  exact lv_if_eq (tgt := 871) hx hb dL_law_592 rfl (fun _ => kk σ2 H locs h2 hP hS) (fun q => absurd rfl q)
theorem lw_c12 (C : lw_C p s m args meth c b L xs ad K A) (hi : i + 5 ≤ L) (h : bI σ) (hcs : cells ≤ 600000 ∧ slots ≤ 7302250) (hP : va_P K.1 vwCl (bz_ws ad K σ 73) H) (hS : va_S A s.heap H locs) (hl : lv_has ls 4 (lw_l b ad i)) (kk : ∀ (σ2 : bz_S) (H1 : Heap) (locs1 : List Loc), bI σ2 → va_P K.1 vwCl (bz_ws ad K σ2 73) H1 → va_S A s.heap H1 locs1 → W p l e room_1 s m args below meth c H1 locs1 cells slots Q (F0 m 871 ls [])) : W p l e room_1 s m args below meth c H locs cells slots Q (F0 m 597 ls []) := by
  obtain ⟨r, σ1, σ2, v1, v2, h2⟩ := b_times (l := l) (ad := ad) (K := K) h (xs (i + 1)) (xs (i + 2)) (xs (i + 3))
  have C0 := C
  obtain ⟨hx, hb, -⟩ := C0
  refine lv_aload_n hx hb dL_law_597 rfl (lv_at hl 1 rfl) ?_
  refine lw_arg C hS hl hi (k := 1) (by decide) (by decide) dL_law_598 dL_law_599 dL_law_600 dL_law_601 dL_law_602 ?_
  refine lw_arg C hS hl hi (k := 2) (by decide) (by decide) dL_law_603 dL_law_604 dL_law_605 dL_law_606 dL_law_607 ?_
  refine lw_arg C hS hl hi (k := 3) (by decide) (by decide) dL_law_608 dL_law_609 dL_law_610 dL_law_611 dL_law_612 ?_
  refine lw_call (k := 23) (ci := 3) (z := 2) (av := [.int (xs (i + 1)), .int (xs (i + 2)), .int (xs (i + 3))]) (st := []) (r1 := some (.int r)) C mv_X3_times mi_X3_times lk_L_67 dL_law_613 rfl (by decide) rfl rfl rfl rfl (Nat.le_of_ble_eq_true rfl) (Nat.le_of_ble_eq_true rfl) v1 hcs hP hS hl.1 (fun H locs hP hS => ?_)
  refine lv_aload_n hx hb dL_law_616 rfl (lv_at hl 2 rfl) ?_
  refine lw_arg C hS hl hi (k := 1) (by decide) (by decide) dL_law_617 dL_law_618 dL_law_619 dL_law_620 dL_law_621 ?_
  refine lw_arg C hS hl hi (k := 2) (by decide) (by decide) dL_law_622 dL_law_623 dL_law_624 dL_law_625 dL_law_626 ?_
  refine lw_arg C hS hl hi (k := 3) (by decide) (by decide) dL_law_627 dL_law_628 dL_law_629 dL_law_630 dL_law_631 ?_
  refine lw_call (k := 54) (ci := 4) (z := 0) (av := [.int (xs (i + 1)), .int (xs (i + 2)), .int (xs (i + 3))]) (st := [.int r]) (r1 := some (.int r)) C mv_X4_times mi_X4_times lk_L_70 dL_law_632 rfl (by decide) rfl rfl rfl rfl (Nat.le_of_ble_eq_true rfl) (Nat.le_of_ble_eq_true rfl) v2 hcs hP hS hl.1 (fun H locs hP hS => ?_)
  exact lv_icmp_eq (tgt := 871) hx hb dL_law_635 rfl (fun _ => kk σ2 H locs h2 hP hS) (fun q => absurd rfl q)
theorem lw_c13 (C : lw_C p s m args meth c b L xs ad K A) (hi : i + 5 ≤ L) (h : bI σ) (hcs : cells ≤ 600000 ∧ slots ≤ 7302250) (hP : va_P K.1 vwCl (bz_ws ad K σ 73) H) (hS : va_S A s.heap H locs) (hl : lv_has ls 4 (lw_l b ad i)) (kk : ∀ (σ2 : bz_S) (H1 : Heap) (locs1 : List Loc), bI σ2 → va_P K.1 vwCl (bz_ws ad K σ2 73) H1 → va_S A s.heap H1 locs1 → W p l e room_1 s m args below meth c H1 locs1 cells slots Q (F0 m 871 ls [])) : W p l e room_1 s m args below meth c H locs cells slots Q (F0 m 640 ls []) := by
  obtain ⟨r, σ1, σ2, v1, v2, h2⟩ := b_turn (l := l) (ad := ad) (K := K) h (xs (i + 1)) (xs (i + 2))
  have C0 := C
  obtain ⟨hx, hb, -⟩ := C0
  refine lv_aload_n hx hb dL_law_640 rfl (lv_at hl 1 rfl) ?_
  refine lw_arg C hS hl hi (k := 1) (by decide) (by decide) dL_law_641 dL_law_642 dL_law_643 dL_law_644 dL_law_645 ?_
  refine lw_arg C hS hl hi (k := 2) (by decide) (by decide) dL_law_646 dL_law_647 dL_law_648 dL_law_649 dL_law_650 ?_
  refine lw_call (k := 23) (ci := 3) (z := 0) (av := [.int (xs (i + 1)), .int (xs (i + 2))]) (st := []) (r1 := some (.int r)) C mv_X3_turn mi_X3_turn lk_L_71 dL_law_651 rfl (by decide) rfl rfl rfl rfl (Nat.le_of_ble_eq_true rfl) (Nat.le_of_ble_eq_true rfl) v1 hcs hP hS hl.1 (fun H locs hP hS => ?_)
  refine lv_aload_n hx hb dL_law_654 rfl (lv_at hl 2 rfl) ?_
  refine lw_arg C hS hl hi (k := 1) (by decide) (by decide) dL_law_655 dL_law_656 dL_law_657 dL_law_658 dL_law_659 ?_
  refine lw_arg C hS hl hi (k := 2) (by decide) (by decide) dL_law_660 dL_law_661 dL_law_662 dL_law_663 dL_law_664 ?_
  refine lw_call (k := 54) (ci := 4) (z := 1) (av := [.int (xs (i + 1)), .int (xs (i + 2))]) (st := [.int r]) (r1 := some (.int r)) C mv_X4_turn mi_X4_turn lk_L_74 dL_law_665 rfl (by decide) rfl rfl rfl rfl (Nat.le_of_ble_eq_true rfl) (Nat.le_of_ble_eq_true rfl) v2 hcs hP hS hl.1 (fun H locs hP hS => ?_)
  exact lv_icmp_eq (tgt := 871) hx hb dL_law_668 rfl (fun _ => kk σ2 H locs h2 hP hS) (fun q => absurd rfl q)
theorem lw_c14 (C : lw_C p s m args meth c b L xs ad K A) (hi : i + 5 ≤ L) (h : bI σ) (hcs : cells ≤ 600000 ∧ slots ≤ 7302250) (hP : va_P K.1 vwCl (bz_ws ad K σ 73) H) (hS : va_S A s.heap H locs) (hl : lv_has ls 4 (lw_l b ad i)) (kk : ∀ (σ2 : bz_S) (H1 : Heap) (locs1 : List Loc), bI σ2 → va_P K.1 vwCl (bz_ws ad K σ2 73) H1 → va_S A s.heap H1 locs1 → W p l e room_1 s m args below meth c H1 locs1 cells slots Q (F0 m 871 ls [])) : W p l e room_1 s m args below meth c H locs cells slots Q (F0 m 673 ls []) := by
  obtain ⟨r, σ1, σ2, v1, v2, h2⟩ := b_strip (l := l) (ad := ad) (K := K) h (xs (i + 1)) (xs (i + 2)) (xs (i + 3))
  have C0 := C
  obtain ⟨hx, hb, -⟩ := C0
  refine lv_aload_n hx hb dL_law_673 rfl (lv_at hl 1 rfl) ?_
  refine lw_arg C hS hl hi (k := 1) (by decide) (by decide) dL_law_674 dL_law_675 dL_law_676 dL_law_677 dL_law_678 ?_
  refine lw_arg C hS hl hi (k := 2) (by decide) (by decide) dL_law_679 dL_law_680 dL_law_681 dL_law_682 dL_law_683 ?_
  refine lw_arg C hS hl hi (k := 3) (by decide) (by decide) dL_law_684 dL_law_685 dL_law_686 dL_law_687 dL_law_688 ?_
  refine lw_call (k := 23) (ci := 3) (z := 0) (av := [.int (xs (i + 1)), .int (xs (i + 2)), .int (xs (i + 3))]) (st := []) (r1 := some (.int r)) C mv_X3_strip mi_X3_strip lk_L_75 dL_law_689 rfl (by decide) rfl rfl rfl rfl (Nat.le_of_ble_eq_true rfl) (Nat.le_of_ble_eq_true rfl) v1 hcs hP hS hl.1 (fun H locs hP hS => ?_)
  refine lv_aload_n hx hb dL_law_692 rfl (lv_at hl 2 rfl) ?_
  refine lw_arg C hS hl hi (k := 1) (by decide) (by decide) dL_law_693 dL_law_694 dL_law_695 dL_law_696 dL_law_697 ?_
  refine lw_arg C hS hl hi (k := 2) (by decide) (by decide) dL_law_698 dL_law_699 dL_law_700 dL_law_701 dL_law_702 ?_
  refine lw_arg C hS hl hi (k := 3) (by decide) (by decide) dL_law_703 dL_law_704 dL_law_705 dL_law_706 dL_law_707 ?_
  refine lw_call (k := 54) (ci := 4) (z := 4) (av := [.int (xs (i + 1)), .int (xs (i + 2)), .int (xs (i + 3))]) (st := [.int r]) (r1 := some (.int r)) C mv_X4_strip mi_X4_strip lk_L_78 dL_law_708 rfl (by decide) rfl rfl rfl rfl (Nat.le_of_ble_eq_true rfl) (Nat.le_of_ble_eq_true rfl) v2 hcs hP hS hl.1 (fun H locs hP hS => ?_)
  exact lv_icmp_eq (tgt := 871) hx hb dL_law_711 rfl (fun _ => kk σ2 H locs h2 hP hS) (fun q => absurd rfl q)
theorem lw_c15 (C : lw_C p s m args meth c b L xs ad K A) (hi : i + 5 ≤ L) (h : bI σ) (hcs : cells ≤ 600000 ∧ slots ≤ 7302250) (hP : va_P K.1 vwCl (bz_ws ad K σ 73) H) (hS : va_S A s.heap H locs) (hl : lv_has ls 4 (lw_l b ad i)) (kk : ∀ (σ2 : bz_S) (H1 : Heap) (locs1 : List Loc), bI σ2 → va_P K.1 vwCl (bz_ws ad K σ2 73) H1 → va_S A s.heap H1 locs1 → W p l e room_1 s m args below meth c H1 locs1 cells slots Q (F0 m 871 ls [])) : W p l e room_1 s m args below meth c H locs cells slots Q (F0 m 716 ls []) := by
  obtain ⟨r, σ1, σ2, v1, v2, h2⟩ := b_meet (l := l) (ad := ad) (K := K) h (xs (i + 1)) (xs (i + 2)) (xs (i + 3))
  have C0 := C
  obtain ⟨hx, hb, -⟩ := C0
  refine lv_aload_n hx hb dL_law_716 rfl (lv_at hl 1 rfl) ?_
  refine lw_arg C hS hl hi (k := 1) (by decide) (by decide) dL_law_717 dL_law_718 dL_law_719 dL_law_720 dL_law_721 ?_
  refine lw_arg C hS hl hi (k := 2) (by decide) (by decide) dL_law_722 dL_law_723 dL_law_724 dL_law_725 dL_law_726 ?_
  refine lw_arg C hS hl hi (k := 3) (by decide) (by decide) dL_law_727 dL_law_728 dL_law_729 dL_law_730 dL_law_731 ?_
  refine lw_call (k := 23) (ci := 3) (z := 0) (av := [.int (xs (i + 1)), .int (xs (i + 2)), .int (xs (i + 3))]) (st := []) (r1 := some (.int r)) C mv_X3_meet mi_X3_meet lk_L_79 dL_law_732 rfl (by decide) rfl rfl rfl rfl (Nat.le_of_ble_eq_true rfl) (Nat.le_of_ble_eq_true rfl) v1 hcs hP hS hl.1 (fun H locs hP hS => ?_)
  refine lv_aload_n hx hb dL_law_735 rfl (lv_at hl 2 rfl) ?_
  refine lw_arg C hS hl hi (k := 1) (by decide) (by decide) dL_law_736 dL_law_737 dL_law_738 dL_law_739 dL_law_740 ?_
  refine lw_arg C hS hl hi (k := 2) (by decide) (by decide) dL_law_741 dL_law_742 dL_law_743 dL_law_744 dL_law_745 ?_
  refine lw_arg C hS hl hi (k := 3) (by decide) (by decide) dL_law_746 dL_law_747 dL_law_748 dL_law_749 dL_law_750 ?_
  refine lw_call (k := 54) (ci := 4) (z := 1) (av := [.int (xs (i + 1)), .int (xs (i + 2)), .int (xs (i + 3))]) (st := [.int r]) (r1 := some (.int r)) C mv_X4_meet mi_X4_meet lk_L_82 dL_law_751 rfl (by decide) rfl rfl rfl rfl (Nat.le_of_ble_eq_true rfl) (Nat.le_of_ble_eq_true rfl) v2 hcs hP hS hl.1 (fun H locs hP hS => ?_)
  exact lv_icmp_eq (tgt := 871) hx hb dL_law_754 rfl (fun _ => kk σ2 H locs h2 hP hS) (fun q => absurd rfl q)
theorem lw_c16 (C : lw_C p s m args meth c b L xs ad K A) (hi : i + 5 ≤ L) (h : bI σ) (hcs : cells ≤ 600000 ∧ slots ≤ 7302250) (hP : va_P K.1 vwCl (bz_ws ad K σ 73) H) (hS : va_S A s.heap H locs) (hl : lv_has ls 4 (lw_l b ad i)) (kk : ∀ (σ2 : bz_S) (H1 : Heap) (locs1 : List Loc), bI σ2 → va_P K.1 vwCl (bz_ws ad K σ2 73) H1 → va_S A s.heap H1 locs1 → W p l e room_1 s m args below meth c H1 locs1 cells slots Q (F0 m 871 ls [])) : W p l e room_1 s m args below meth c H locs cells slots Q (F0 m 759 ls []) := by
  obtain ⟨r, σ1, σ2, v1, v2, h2⟩ := b_plug (l := l) (ad := ad) (K := K) h (xs (i + 1)) (xs (i + 2)) (xs (i + 3))
  have C0 := C
  obtain ⟨hx, hb, -⟩ := C0
  refine lv_aload_n hx hb dL_law_759 rfl (lv_at hl 1 rfl) ?_
  refine lw_arg C hS hl hi (k := 1) (by decide) (by decide) dL_law_760 dL_law_761 dL_law_762 dL_law_763 dL_law_764 ?_
  refine lw_arg C hS hl hi (k := 2) (by decide) (by decide) dL_law_765 dL_law_766 dL_law_767 dL_law_768 dL_law_769 ?_
  refine lw_arg C hS hl hi (k := 3) (by decide) (by decide) dL_law_770 dL_law_771 dL_law_772 dL_law_773 dL_law_774 ?_
  refine lw_call (k := 23) (ci := 3) (z := 2) (av := [.int (xs (i + 1)), .int (xs (i + 2)), .int (xs (i + 3))]) (st := []) (r1 := some (.int r)) C mv_X3_plug mi_X3_plug lk_L_83 dL_law_775 rfl (by decide) rfl rfl rfl rfl (Nat.le_of_ble_eq_true rfl) (Nat.le_of_ble_eq_true rfl) v1 hcs hP hS hl.1 (fun H locs hP hS => ?_)
  refine lv_aload_n hx hb dL_law_778 rfl (lv_at hl 2 rfl) ?_
  refine lw_arg C hS hl hi (k := 1) (by decide) (by decide) dL_law_779 dL_law_780 dL_law_781 dL_law_782 dL_law_783 ?_
  refine lw_arg C hS hl hi (k := 2) (by decide) (by decide) dL_law_784 dL_law_785 dL_law_786 dL_law_787 dL_law_788 ?_
  refine lw_arg C hS hl hi (k := 3) (by decide) (by decide) dL_law_789 dL_law_790 dL_law_791 dL_law_792 dL_law_793 ?_
  refine lw_call (k := 54) (ci := 4) (z := 2) (av := [.int (xs (i + 1)), .int (xs (i + 2)), .int (xs (i + 3))]) (st := [.int r]) (r1 := some (.int r)) C mv_X4_plug mi_X4_plug lk_L_86 dL_law_794 rfl (by decide) rfl rfl rfl rfl (Nat.le_of_ble_eq_true rfl) (Nat.le_of_ble_eq_true rfl) v2 hcs hP hS hl.1 (fun H locs hP hS => ?_)
  exact lv_icmp_eq (tgt := 871) hx hb dL_law_797 rfl (fun _ => kk σ2 H locs h2 hP hS) (fun q => absurd rfl q)
theorem lw_c17 (C : lw_C p s m args meth c b L xs ad K A) (hi : i + 5 ≤ L) (h : bI σ) (hcs : cells ≤ 600000 ∧ slots ≤ 7302250) (hP : va_P K.1 vwCl (bz_ws ad K σ 73) H) (hS : va_S A s.heap H locs) (hl : lv_has ls 4 (lw_l b ad i)) (kk : ∀ (σ2 : bz_S) (H1 : Heap) (locs1 : List Loc), bI σ2 → va_P K.1 vwCl (bz_ws ad K σ2 73) H1 → va_S A s.heap H1 locs1 → W p l e room_1 s m args below meth c H1 locs1 cells slots Q (F0 m 871 ls [])) : W p l e room_1 s m args below meth c H locs cells slots Q (F0 m 802 ls []) := by
  obtain ⟨r, σ1, σ2, v1, v2, h2⟩ := b_image (l := l) (ad := ad) (K := K) h (xs (i + 1))
  have C0 := C
  obtain ⟨hx, hb, -⟩ := C0
  refine lv_aload_n hx hb dL_law_802 rfl (lv_at hl 1 rfl) ?_
  refine lw_arg C hS hl hi (k := 1) (by decide) (by decide) dL_law_803 dL_law_804 dL_law_805 dL_law_806 dL_law_807 ?_
  refine lw_call (k := 23) (ci := 3) (z := 1) (av := [.int (xs (i + 1))]) (st := []) (r1 := some (.int r)) C mv_X3_image mi_X3_image lk_L_87 dL_law_808 rfl (by decide) rfl rfl rfl rfl (Nat.le_of_ble_eq_true rfl) (Nat.le_of_ble_eq_true rfl) v1 hcs hP hS hl.1 (fun H locs hP hS => ?_)
  refine lv_aload_n hx hb dL_law_811 rfl (lv_at hl 2 rfl) ?_
  refine lw_arg C hS hl hi (k := 1) (by decide) (by decide) dL_law_812 dL_law_813 dL_law_814 dL_law_815 dL_law_816 ?_
  refine lw_call (k := 54) (ci := 4) (z := 1) (av := [.int (xs (i + 1))]) (st := [.int r]) (r1 := some (.int r)) C mv_X4_image mi_X4_image lk_L_90 dL_law_817 rfl (by decide) rfl rfl rfl rfl (Nat.le_of_ble_eq_true rfl) (Nat.le_of_ble_eq_true rfl) v2 hcs hP hS hl.1 (fun H locs hP hS => ?_)
  exact lv_icmp_eq (tgt := 871) hx hb dL_law_820 rfl (fun _ => kk σ2 H locs h2 hP hS) (fun q => absurd rfl q)
theorem lw_c18 (C : lw_C p s m args meth c b L xs ad K A) (hi : i + 5 ≤ L) (h : bI σ) (hcs : cells ≤ 600000 ∧ slots ≤ 7302250) (hP : va_P K.1 vwCl (bz_ws ad K σ 73) H) (hS : va_S A s.heap H locs) (hl : lv_has ls 4 (lw_l b ad i)) (kk : ∀ (σ2 : bz_S) (H1 : Heap) (locs1 : List Loc), bI σ2 → va_P K.1 vwCl (bz_ws ad K σ2 73) H1 → va_S A s.heap H1 locs1 → W p l e room_1 s m args below meth c H1 locs1 cells slots Q (F0 m 871 ls [])) : W p l e room_1 s m args below meth c H locs cells slots Q (F0 m 825 ls []) := by
  obtain ⟨r, σ1, σ2, v1, v2, h2⟩ := b_restore (l := l) (ad := ad) (K := K) h (xs (i + 1))
  have C0 := C
  obtain ⟨hx, hb, -⟩ := C0
  refine lv_aload_n hx hb dL_law_825 rfl (lv_at hl 1 rfl) ?_
  refine lw_arg C hS hl hi (k := 1) (by decide) (by decide) dL_law_826 dL_law_827 dL_law_828 dL_law_829 dL_law_830 ?_
  refine lw_call (k := 23) (ci := 3) (z := 1) (av := [.int (xs (i + 1))]) (st := []) (r1 := some (.int r)) C mv_X3_restore mi_X3_restore lk_L_91 dL_law_831 rfl (by decide) rfl rfl rfl rfl (Nat.le_of_ble_eq_true rfl) (Nat.le_of_ble_eq_true rfl) v1 hcs hP hS hl.1 (fun H locs hP hS => ?_)
  refine lv_aload_n hx hb dL_law_834 rfl (lv_at hl 2 rfl) ?_
  refine lw_arg C hS hl hi (k := 1) (by decide) (by decide) dL_law_835 dL_law_836 dL_law_837 dL_law_838 dL_law_839 ?_
  refine lw_call (k := 54) (ci := 4) (z := 1) (av := [.int (xs (i + 1))]) (st := [.int r]) (r1 := some (.int r)) C mv_X4_restore mi_X4_restore lk_L_94 dL_law_840 rfl (by decide) rfl rfl rfl rfl (Nat.le_of_ble_eq_true rfl) (Nat.le_of_ble_eq_true rfl) v2 hcs hP hS hl.1 (fun H locs hP hS => ?_)
  exact lv_icmp_eq (tgt := 871) hx hb dL_law_843 rfl (fun _ => kk σ2 H locs h2 hP hS) (fun q => absurd rfl q)
theorem lw_c19 (C : lw_C p s m args meth c b L xs ad K A) (hi : i + 5 ≤ L) (h : bI σ) (hcs : cells ≤ 600000 ∧ slots ≤ 7302250) (hP : va_P K.1 vwCl (bz_ws ad K σ 73) H) (hS : va_S A s.heap H locs) (hl : lv_has ls 4 (lw_l b ad i)) (kk : ∀ (σ2 : bz_S) (H1 : Heap) (locs1 : List Loc), bI σ2 → va_P K.1 vwCl (bz_ws ad K σ2 73) H1 → va_S A s.heap H1 locs1 → W p l e room_1 s m args below meth c H1 locs1 cells slots Q (F0 m 871 ls [])) : W p l e room_1 s m args below meth c H locs cells slots Q (F0 m 848 ls []) := by
  obtain ⟨r, σ1, σ2, v1, v2, h2⟩ := b_count (l := l) (ad := ad) (K := K) h (xs (i + 1))
  have C0 := C
  obtain ⟨hx, hb, -⟩ := C0
  refine lv_aload_n hx hb dL_law_848 rfl (lv_at hl 1 rfl) ?_
  refine lw_arg C hS hl hi (k := 1) (by decide) (by decide) dL_law_849 dL_law_850 dL_law_851 dL_law_852 dL_law_853 ?_
  refine lw_call (k := 23) (ci := 3) (z := 0) (av := [.int (xs (i + 1))]) (st := []) (r1 := some (.int r)) C mv_X3_count mi_X3_count lk_L_95 dL_law_854 rfl (by decide) rfl rfl rfl rfl (Nat.le_of_ble_eq_true rfl) (Nat.le_of_ble_eq_true rfl) v1 hcs hP hS hl.1 (fun H locs hP hS => ?_)
  refine lv_aload_n hx hb dL_law_857 rfl (lv_at hl 2 rfl) ?_
  refine lw_arg C hS hl hi (k := 1) (by decide) (by decide) dL_law_858 dL_law_859 dL_law_860 dL_law_861 dL_law_862 ?_
  refine lw_call (k := 54) (ci := 4) (z := 2) (av := [.int (xs (i + 1))]) (st := [.int r]) (r1 := some (.int r)) C mv_X4_count mi_X4_count lk_L_98 dL_law_863 rfl (by decide) rfl rfl rfl rfl (Nat.le_of_ble_eq_true rfl) (Nat.le_of_ble_eq_true rfl) v2 hcs hP hS hl.1 (fun H locs hP hS => ?_)
  exact lv_icmp_eq (tgt := 871) hx hb dL_law_866 rfl (fun _ => kk σ2 H locs h2 hP hS) (fun q => absurd rfl q)
theorem lw_le {L i : Nat} (hL : L ≤ 2560) (hi : i ≤ 2560) (h : ¬ nI L - nI 5 < nI i) : i + 5 ≤ L := by
  rw [Int32.lt_iff_toInt_lt, Int32.toInt_sub, nI_toInt (by omega), nI_toInt (by omega), nI_toInt (by omega), Int.bmod_eq_of_le (by omega) (by omega)] at h
  omega
theorem lw_turn (C : lw_C p s m args meth c b L xs ad K A) (hi : i + 5 ≤ L) (h : bI σ) (hcs : cells ≤ 600000 ∧ slots ≤ 7302250) (hP : va_P K.1 vwCl (bz_ws ad K σ 73) H) (hS : va_S A s.heap H locs) (hl : lv_has ls 4 (lw_l b ad i)) (kk : ∀ (σ2 : bz_S) (H1 : Heap) (locs1 : List Loc), bI σ2 → va_P K.1 vwCl (bz_ws ad K σ2 73) H1 → va_S A s.heap H1 locs1 → W p l e room_1 s m args below meth c H1 locs1 cells slots Q (F0 m 871 ls [])) : W p l e room_1 s m args below meth c H locs cells slots Q (F0 m 26 ls []) := by
  have C0 := C
  obtain ⟨hx, hb, hml, hown, hts, hG, hX, hbl, hbA, hL⟩ := C0
  refine lv_aload_n hx hb dL_law_26 rfl (lv_at hl 0 rfl) ?_
  refine lv_iload_n hx hb dL_law_27 rfl (lv_at hl 3 rfl) ?_
  refine va_sld hx hb hX hbl hbA hS (vp_in_nI (by omega) (by omega)) dL_law_28 ?_
  refine lv_bipush hx hb dL_law_29 (v := nI 31) (by decide) ?_
  refine lv_iand hx hb dL_law_31 ?_
  generalize xs (nI i).toNatClampNeg &&& nI 31 = v
  by_cases hv : v.toInt < 0 ∨ 19 < v.toInt
  · exact lv_tableOut (tgt := 871) hx hb dL_law_32 hv rfl (kk σ H locs h hP hS)
  · obtain ⟨t, ht, e⟩ : ∃ t : Nat, t < 20 ∧ v.toInt = (t : Int) := ⟨v.toInt.toNat, by omega, by omega⟩
    have h1 : ¬ v.toInt < 0 := by omega
    have h2 : ¬ (19 : Int) < v.toInt := by omega
    match t, ht with
    | 0, _ => exact lv_tableIn (tgt := 128) (off := 96) hx hb dL_law_32 h1 h2 (by rw [e]; rfl) rfl (lw_c0 C hi h hcs hP hS hl kk)
    | 1, _ => exact lv_tableIn (tgt := 161) (off := 129) hx hb dL_law_32 h1 h2 (by rw [e]; rfl) rfl (lw_c1 C hi h hcs hP hS hl kk)
    | 2, _ => exact lv_tableIn (tgt := 194) (off := 162) hx hb dL_law_32 h1 h2 (by rw [e]; rfl) rfl (lw_c2 C hi h hcs hP hS hl kk)
    | 3, _ => exact lv_tableIn (tgt := 227) (off := 195) hx hb dL_law_32 h1 h2 (by rw [e]; rfl) rfl (lw_c3 C hi h hcs hP hS hl kk)
    | 4, _ => exact lv_tableIn (tgt := 260) (off := 228) hx hb dL_law_32 h1 h2 (by rw [e]; rfl) rfl (lw_c4 C hi h hcs hP hS hl kk)
    | 5, _ => exact lv_tableIn (tgt := 293) (off := 261) hx hb dL_law_32 h1 h2 (by rw [e]; rfl) rfl (lw_c5 C hi h hcs hP hS hl kk)
    | 6, _ => exact lv_tableIn (tgt := 346) (off := 314) hx hb dL_law_32 h1 h2 (by rw [e]; rfl) rfl (lw_c6 C hi h hcs hP hS hl kk)
    | 7, _ => exact lv_tableIn (tgt := 389) (off := 357) hx hb dL_law_32 h1 h2 (by rw [e]; rfl) rfl (lw_c7 C hi h hcs hP hS hl kk)
    | 8, _ => exact lv_tableIn (tgt := 412) (off := 380) hx hb dL_law_32 h1 h2 (by rw [e]; rfl) rfl (lw_c8 C hi h hcs hP hS hl kk)
    | 9, _ => exact lv_tableIn (tgt := 466) (off := 434) hx hb dL_law_32 h1 h2 (by rw [e]; rfl) rfl (lw_c9 C hi h hcs hP hS hl kk)
    | 10, _ => exact lv_tableIn (tgt := 509) (off := 477) hx hb dL_law_32 h1 h2 (by rw [e]; rfl) rfl (lw_c10 C hi h hcs hP hS hl kk)
    | 11, _ => exact lv_tableIn (tgt := 563) (off := 531) hx hb dL_law_32 h1 h2 (by rw [e]; rfl) rfl (lw_c11 C hi h hcs hP hS hl kk)
    | 12, _ => exact lv_tableIn (tgt := 597) (off := 565) hx hb dL_law_32 h1 h2 (by rw [e]; rfl) rfl (lw_c12 C hi h hcs hP hS hl kk)
    | 13, _ => exact lv_tableIn (tgt := 640) (off := 608) hx hb dL_law_32 h1 h2 (by rw [e]; rfl) rfl (lw_c13 C hi h hcs hP hS hl kk)
    | 14, _ => exact lv_tableIn (tgt := 673) (off := 641) hx hb dL_law_32 h1 h2 (by rw [e]; rfl) rfl (lw_c14 C hi h hcs hP hS hl kk)
    | 15, _ => exact lv_tableIn (tgt := 716) (off := 684) hx hb dL_law_32 h1 h2 (by rw [e]; rfl) rfl (lw_c15 C hi h hcs hP hS hl kk)
    | 16, _ => exact lv_tableIn (tgt := 759) (off := 727) hx hb dL_law_32 h1 h2 (by rw [e]; rfl) rfl (lw_c16 C hi h hcs hP hS hl kk)
    | 17, _ => exact lv_tableIn (tgt := 802) (off := 770) hx hb dL_law_32 h1 h2 (by rw [e]; rfl) rfl (lw_c17 C hi h hcs hP hS hl kk)
    | 18, _ => exact lv_tableIn (tgt := 825) (off := 793) hx hb dL_law_32 h1 h2 (by rw [e]; rfl) rfl (lw_c18 C hi h hcs hP hS hl kk)
    | 19, _ => exact lv_tableIn (tgt := 848) (off := 816) hx hb dL_law_32 h1 h2 (by rw [e]; rfl) rfl (lw_c19 C hi h hcs hP hS hl kk)
    | n + 20, hn => exact absurd hn (by omega)
end LW
theorem lw_loop {p : Program} {l : Launch} {e : Env} {s : State} {m : MethodId} {below : List Frame} {meth : Method} {c : Code} {cells slots b L : Nat} {xs : Nat → Int32} {ad : Nat → Nat} {K : bz_K} (C : lw_C p s m #[Value.ref b] meth c b L xs ad K (fun q => s.heap.size ≤ q)) (hr : meth.sig.returnType = ret) (hlocks : meth.locks = false) (hcs : cells ≤ 600000 ∧ slots ≤ 7302250) :
    ∀ (n i : Nat) (σ : bz_S) (H : Heap) (locs : List Loc) (ls : Array Slot), L < i + n → i ≤ L → bI σ → va_P K.1 vwCl (bz_ws ad K σ 73) H → va_S (fun q => s.heap.size ≤ q) s.heap H locs → lv_has ls 4 (lw_l b ad i) → W p l e room_1 s m #[Value.ref b] below meth c H locs cells slots (lw_Z below #[Value.ref b] s) (F0 m 18 ls []) := by
  intro n
  induction n with
  | zero => intro i σ H locs ls h1 h2; omega
  | succ n ih =>
    intro i σ H locs ls hn hiL h hP hS hl
    have C0 := C
    obtain ⟨hx, hb, hml, hown, hts, hG, hX, hbl, hbA, hL⟩ := C0
    refine lv_iload_n hx hb dL_law_18 rfl (lv_at hl 3 rfl) ?_
    refine lv_aload_n hx hb dL_law_19 rfl (lv_at hl 0 rfl) ?_
    refine va_slen hx hb hX hbl hbA hS dL_law_20 ?_
    refine lv_iconst hx hb dL_law_21 (v := nI 5) (by decide) ?_
    refine lv_isub hx hb dL_law_22 ?_
    refine lv_icmp_gt (tgt := 877) hx hb dL_law_23 rfl (fun _ => ?_) (fun q => ?_)
    · refine lv_iconst hx hb dL_law_877 (v := 1) (by decide) ?_
      refine va_forget hS.2.2 ?_
      refine W.widen (k := 600000) (n := 7302250) hcs.1 hcs.2 ?_
      exact lw_ret hx hb hr hlocks dL_law_878
    · have hi : i + 5 ≤ L := lw_le hL (by omega) q
      refine lw_turn C hi h hcs hP hS hl (fun σ2 H locs h hP hS => ?_)
      refine lv_iinc (v := nI (i + 5)) (lv' := [(3, .int (nI (i + 5))), (0, .ref b), (1, .ref (ad 23)), (2, .ref (ad 54))]) hx hb dL_law_871 hl (k := 3) rfl (by rw [show Int32.ofInt 5 = nI 5 by decide, nI_add]) (by decide) rfl (fun ls hl => ?_)
      refine lv_goto (tgt := 18) hx hb dL_law_874 rfl ?_
      exact ih (i + 5) σ2 H locs ls (by omega) hi h hP hS (lv_sub hl [1, 2, 3, 0] rfl)
