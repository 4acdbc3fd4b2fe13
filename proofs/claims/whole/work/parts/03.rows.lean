/-! the state that both objects have once they are made: long arrays, int and boolean arrays, the reference's one flag, by numbers of cells -/
abbrev bz_S : Type := (Nat → Nat → Int64) × (Nat → Nat → Int32) × Int32
/-- class numbers: of the classes, of int[], long[], boolean[], long[][]; the cells of STARTS and PARTS -/
abbrev bz_K : Type := va_G × ClassId × ClassId × ClassId × ClassId × Nat × Nat
abbrev bz_M : Type := MethodName × ByteArray × String × Nat × Option FieldType
/-- the shape of each cell: kind (0 int[], 1 long[], 2 boolean[], 3 long[][], 4 object), length or class, first row, fields -/
def bz_shl : List (Nat × Nat × Nat × List (Option Nat)) :=
  [(4, 1, 0, [some 1, some 2, some 3, some 4, some 5, some 6, some 7, some 8]),
   (0, 30, 0, []), (0, 30, 0, []), (0, 30, 0, []), (0, 30, 0, []), (0, 30, 0, []), (0, 900, 0, []), (0, 900, 0, []), (0, 900, 0, []),
   (4, 0, 0, [some 0, some 10, some 11]), (1, 30, 0, []), (1, 30, 0, []),
   (4, 2, 0, [some 0, some 13, some 21, some 22]), (3, 7, 14, []), (1, 30, 0, []), (1, 30, 0, []), (1, 30, 0, []), (1, 30, 0, []), (1, 30, 0, []), (1, 30, 0, []), (1, 30, 0, []),
   (1, 30, 0, []), (1, 30, 0, []),
   (4, 3, 0, [some 0, some 9, some 12, some 24, some 33, some 50, some 51, some 52, some 53]), (3, 8, 25, []),
   (1, 30, 0, []), (1, 30, 0, []), (1, 30, 0, []), (1, 30, 0, []), (1, 30, 0, []), (1, 30, 0, []), (1, 30, 0, []), (1, 30, 0, []),
   (3, 16, 34, []),
   (1, 30, 0, []), (1, 30, 0, []), (1, 30, 0, []), (1, 30, 0, []), (1, 30, 0, []), (1, 30, 0, []), (1, 30, 0, []), (1, 30, 0, []),
   (1, 30, 0, []), (1, 30, 0, []), (1, 30, 0, []), (1, 30, 0, []), (1, 30, 0, []), (1, 30, 0, []), (1, 30, 0, []), (1, 30, 0, []),
   (2, 2, 0, []), (1, 30, 0, []), (1, 30, 0, []), (1, 30, 0, []),
   (4, 4, 0, [some 55, some 56, some 57, some 58, none, some 59, some 60, some 61, some 62, some 63, some 64, some 65, some 66, some 67, some 68, some 69, some 70, some 71, some 72]),
   (0, 180, 0, []), (0, 30, 0, []), (0, 672, 0, []), (1, 4500, 0, []), (1, 240, 0, []), (1, 30, 0, []), (0, 6, 0, []), (0, 6, 0, []), (1, 30, 0, []), (1, 30, 0, []), (1, 30, 0, []), (1, 30, 0, []), (1, 30, 0, []), (1, 30, 0, []), (1, 30, 0, []), (1, 30, 0, []), (1, 480, 0, []), (2, 2, 0, [])]
def bz_sh (k : Nat) : Nat × Nat × Nat × List (Option Nat) := bz_shl.getD k (9, 0, 0, [])
def bz_fv (ad : Nat → Nat) (σ : bz_S) : Option Nat → Value
  | some q => .ref (ad q)
  | none => .int σ.2.2
def bz_ent (ad : Nat → Nat) (K : bz_K) (σ : bz_S) (k : Nat) : va_E := match bz_sh k with
  | (0, n, _, _) => .inl (K.2.1, n, .inl (σ.2.1 k))
  | (1, n, _, _) => .inl (K.2.2.1, n, .inr (.inl (σ.1 k)))
  | (2, n, _, _) => .inl (K.2.2.2.1, n, .inl (σ.2.1 k))
  | (3, n, b, _) => .inl (K.2.2.2.2.1, n, .inr (.inr (.inr (.inr (fun i => if i < n then some (ad (b + i)) else none)))))
  | (_, ci, _, fl) => .inr (ci, fl.map (bz_fv ad σ))
def bz_ws (ad : Nat → Nat) (K : bz_K) (σ : bz_S) (n : Nat) : va_W := (List.range n).map (fun k => (ad k, bz_ent ad K σ k))
theorem bz_ws_at {ad : Nat → Nat} {K : bz_K} {σ : bz_S} {n k : Nat} (h : k < n) : (bz_ws ad K σ n)[k]? = some (ad k, bz_ent ad K σ k) := by
  unfold bz_ws
  rw [List.getElem?_map, List.getElem?_range h]
  rfl
theorem bz_ws_len {ad : Nat → Nat} {K : bz_K} {σ : bz_S} {n : Nat} : (bz_ws ad K σ n).length = n := by
  unfold bz_ws
  rw [List.length_map, List.length_range]
theorem bz_ws_get {ad : Nat → Nat} {K : bz_K} {σ : bz_S} {n k : Nat} {q : Nat × va_E} (h : (bz_ws ad K σ n)[k]? = some q) : k < n ∧ q = (ad k, bz_ent ad K σ k) := by
  have hk : k < n := by
    have := (List.getElem?_eq_some_iff.mp h).1
    rw [bz_ws_len] at this
    exact this
  rw [bz_ws_at hk] at h
  exact ⟨hk, (Option.some.inj h).symm⟩
def bz_tys (K : bz_K) : List (ClassId × FieldType) := [(K.2.1, .int), (K.2.2.1, .long), (K.2.2.2.1, .boolean), (K.2.2.2.2.1, .array .long)]
def bz_upJ (σ : bz_S) (k i : Nat) (x : Int64) : bz_S := (fun a => if a = k then vp_updL (σ.1 k) i x else σ.1 a, σ.2)
def bz_upI (σ : bz_S) (k i : Nat) (x : Int32) : bz_S := (σ.1, fun a => if a = k then upd (σ.2.1 k) i x else σ.2.1 a, σ.2.2)
def bz_upB (σ : bz_S) (x : Int32) : bz_S := (σ.1, σ.2.1, x)
def bz_setJ (σ : bz_S) (k : Nat) (f : Nat → Int64) : bz_S := (fun a => if a = k then f else σ.1 a, σ.2)
def bz_setI (σ : bz_S) (k : Nat) (f : Nat → Int32) : bz_S := (σ.1, fun a => if a = k then f else σ.2.1 a, σ.2.2)
def bz_isNest : Cond → Bool
  | .fieldLinkNest .. => true
  | .methodLinkNest .. => true
  | _ => false
def bz_tbl : List Cond := lw_tbl.filter goodWord
def bz_nst : List Cond := lw_tbl.filter bz_isNest
theorem bz_nst_on {w : Cond} (h : w ∈ bz_nst) : w.onTables = true := by
  have h2 := (List.mem_filter.mp h).2
  cases w <;> first | rfl | (simp [bz_isNest] at h2)
theorem bz_nst_warm {w : Cond} (h : w ∈ bz_nst) {s U : State} (hW : s.WarmedH U.vm) (hZ : va_Nw w s) : va_Nw w U := by
  have h2 := (List.mem_filter.mp h).2
  cases w with
  | fieldLinkNest a i b n d h => exact va_Nw.warmF hW hZ
  | methodLinkNest a i x h => exact va_Nw.warmM hW hZ
  | _ => simp [bz_isNest] at h2
def bz_STARTS (j : Nat) : Int32 := nI ([0, 1, 2, 4, 7, 12, 19, 30].getD j 0)
def bz_parts : List Nat := [0,0,0,0,0,0, 1,0,0,0,0,0, 2,0,0,0,0,0, 1,1,0,0,0,0, 3,0,0,0,0,0, 2,1,0,0,0,0, 1,1,1,0,0,0, 4,0,0,0,0,0, 3,1,0,0,0,0, 2,2,0,0,0,0, 2,1,1,0,0,0, 1,1,1,1,0,0, 5,0,0,0,0,0, 4,1,0,0,0,0, 3,2,0,0,0,0, 3,1,1,0,0,0, 2,2,1,0,0,0, 2,1,1,1,0,0, 1,1,1,1,1,0, 6,0,0,0,0,0, 5,1,0,0,0,0, 4,2,0,0,0,0, 4,1,1,0,0,0, 3,3,0,0,0,0, 3,2,1,0,0,0, 3,1,1,1,0,0, 2,2,2,0,0,0, 2,2,1,1,0,0, 2,1,1,1,1,0, 1,1,1,1,1,1]
def bz_PARTS (j : Nat) : Int32 := nI (bz_parts.getD j 0)
/-- what is so at a state, and stays: tables, the cells' numbers, the two static arrays -/
def bz_G (ad : Nat → Nat) (K : bz_K) (n : Nat) (A : Nat → Prop) (U : State) : Prop :=
  va_K K.1 vwCl (bz_tys K) U ∧ (∀ w ∈ bz_nst, va_Nw w U) ∧ (∀ i j : Nat, i < n → j < n → ad i = ad j → i = j) ∧ (∀ k : Nat, k < n → A (ad k)) ∧
  va_Z RX1 "STARTS" "[I" (.ref K.2.2.2.2.2.1) A U U.heap ∧ va_T .int K.2.2.2.2.2.1 8 (fun j => .int (bz_STARTS j)) A U U.heap ∧
  va_Z RX1 "PARTS" "[I" (.ref K.2.2.2.2.2.2) A U U.heap ∧ va_T .int K.2.2.2.2.2.2 180 (fun j => .int (bz_PARTS j)) A U U.heap
def bz_Af (ad : Nat → Nat) (n : Nat) : Nat → Prop := fun q => ∃ k : Nat, k < n ∧ q = ad k
def bz_C (p : Program) (s : State) (m : MethodId) (args : Array Value) (meth : Method) (c : Code) (ad : Nat → Nat) (K : bz_K) (n : Nat) (A : Nat → Prop) (M : bz_M) : Prop :=
  p.tables.exec = Jvm.exec ∧ c.code = M.2.1 ∧ meth.sig.returnType = M.2.2.2.2 ∧ c.maxLocals = M.2.2.2.1 ∧ s.vm.findClass M.2.2.1 = some m.cls ∧ (∀ w ∈ bz_tbl, w.before args s = true) ∧ bz_G ad K n A s
def bz_l (LS : Array Slot) (nL : Nat) (ls : List (Option Value)) : Prop := LS.size = nL ∧ lv_wf LS ∧ ∀ (i : Nat) (v : Value), ls[i]? = some (some v) → LS[i]? = some (.val v)
def bz_ret (M : bz_M) (pc : Nat) : Option Value → Prop
  | some (.int x) => decode M.2.1 pc = .ok (.ireturn, 1) ∧ (M.2.2.2.2 = some .int ∨ (M.2.2.2.2 = some .boolean ∧ narrow .boolean (.int x) = .int x))
  | some (.long _) => decode M.2.1 pc = .ok (.lreturn, 1) ∧ M.2.2.2.2 = some .long
  | none => decode M.2.1 pc = .ok (.return_, 1) ∧ M.2.2.2.2 = none
  | _ => False
/-- from pc, with these locals, this stack and this state, method M comes to its return, with r on the stack and the state σ'; it nests at most d calls -/
def bz_V (l : Launch) (ad : Nat → Nat) (K : bz_K) (n : Nat) (M : bz_M) (d : Nat) (r : Option Value) (σ' : bz_S) (pc : Nat) (ls : List (Option Value)) (st : List Value) (σ : bz_S) : Prop :=
  ∀ (p : Program) (e : Env) (R : Room) (s : State) (m : MethodId) (args : Array Value) (below : List Frame) (meth : Method) (c : Code) (A : Nat → Prop) (Q : State → Prop) (mc ms : Nat),
    bz_C p s m args meth c ad K n A M → (d ≤ R.frames ∧ 38 * d ≤ R.locals ∧ mc ≤ R.cells ∧ ms ≤ R.slots) →
    (∀ (pc' : Nat) (H' : Heap) (locs' : List Loc) (LS' : Array Slot), bz_ret M pc' r → va_P K.1 vwCl (bz_ws ad K σ' n) H' → va_S A s.heap H' locs' → LS'.size = M.2.2.2.1 → W p l e R s m args below meth c H' locs' mc ms Q (F0 m pc' LS' r.toList)) →
    ∀ (H : Heap) (locs : List Loc) (LS : Array Slot), va_P K.1 vwCl (bz_ws ad K σ n) H → va_S A s.heap H locs → bz_l LS M.2.2.2.1 ls → W p l e R s m args below meth c H locs mc ms Q (F0 m pc LS st)
theorem bz_D {ad : Nat → Nat} {K : bz_K} {σ : bz_S} {n : Nat} {A : Nat → Prop} {U : State} (h : bz_G ad K n A U) : va_D A (bz_ws ad K σ n) := by
  obtain ⟨-, -, h3, h4, -⟩ := h
  refine ⟨fun i j x y hx hy hxy => ?_, fun k q hq => ?_⟩
  · obtain ⟨a1, rfl⟩ := bz_ws_get hx
    obtain ⟨a2, rfl⟩ := bz_ws_get hy
    exact h3 i j a1 a2 hxy
  · obtain ⟨a1, rfl⟩ := bz_ws_get hq
    exact h4 k a1
theorem bz_set_eq {ad : Nat → Nat} {K : bz_K} {σ σ1 : bz_S} {n k : Nat} {e : va_E} (hk : bz_ent ad K σ1 k = e) (ho : ∀ j : Nat, j ≠ k → bz_ent ad K σ1 j = bz_ent ad K σ j) : (bz_ws ad K σ n).set k (ad k, e) = bz_ws ad K σ1 n := by
  apply List.ext_getElem?
  intro i
  by_cases hi : i < n
  · rw [bz_ws_at hi]
    by_cases e1 : k = i
    · subst e1
      rw [List.getElem?_set_self (by rw [bz_ws_len]; exact hi), hk]
    · rw [List.getElem?_set_ne e1, bz_ws_at hi, ho i (fun q => e1 q.symm)]
  · rw [List.getElem?_eq_none (by rw [List.length_set, bz_ws_len]; omega), List.getElem?_eq_none (by rw [bz_ws_len]; omega)]
theorem bz_ent0 {ad : Nat → Nat} {K : bz_K} {σ : bz_S} {k n b : Nat} {fl : List (Option Nat)} (h : bz_sh k = (0, n, b, fl)) : bz_ent ad K σ k = .inl (K.2.1, n, .inl (σ.2.1 k)) := by
  unfold bz_ent
  rw [h]
  rfl
theorem bz_ent1 {ad : Nat → Nat} {K : bz_K} {σ : bz_S} {k n b : Nat} {fl : List (Option Nat)} (h : bz_sh k = (1, n, b, fl)) : bz_ent ad K σ k = .inl (K.2.2.1, n, .inr (.inl (σ.1 k))) := by
  unfold bz_ent
  rw [h]
  rfl
theorem bz_ent2 {ad : Nat → Nat} {K : bz_K} {σ : bz_S} {k n b : Nat} {fl : List (Option Nat)} (h : bz_sh k = (2, n, b, fl)) : bz_ent ad K σ k = .inl (K.2.2.2.1, n, .inl (σ.2.1 k)) := by
  unfold bz_ent
  rw [h]
  rfl
theorem bz_ent3 {ad : Nat → Nat} {K : bz_K} {σ : bz_S} {k n b : Nat} {fl : List (Option Nat)} (h : bz_sh k = (3, n, b, fl)) : bz_ent ad K σ k = .inl (K.2.2.2.2.1, n, .inr (.inr (.inr (.inr (fun i => if i < n then some (ad (b + i)) else none))))) := by
  unfold bz_ent
  rw [h]
  rfl
theorem bz_ent4 {ad : Nat → Nat} {K : bz_K} {σ : bz_S} {k n b : Nat} {fl : List (Option Nat)} (h : bz_sh k = (4, n, b, fl)) : bz_ent ad K σ k = .inr (n, fl.map (bz_fv ad σ)) := by
  unfold bz_ent
  rw [h]
  rfl
theorem bz_ent_congr {ad : Nat → Nat} {K : bz_K} {σ σ1 : bz_S} {j : Nat} (h1 : σ1.1 j = σ.1 j) (h2 : σ1.2.1 j = σ.2.1 j) (h3 : σ1.2.2 = σ.2.2) : bz_ent ad K σ1 j = bz_ent ad K σ j := by
  have e : bz_fv ad σ1 = bz_fv ad σ := by
    funext o
    cases o <;> simp [bz_fv, h3]
  unfold bz_ent
  rw [h1, h2, e]

section BZ1
variable {l : Launch} {ad : Nat → Nat} {K : bz_K} {n : Nat} {M : bz_M} {d : Nat} {r : Option Value} {σ σ' : bz_S} {pc : Nat} {ls : List (Option Value)} {st : List Value}
theorem bz_iconst {z : Int} {x : Int32} (hd : decode M.2.1 pc = .ok (.iconst z, 1)) (hv : Int32.ofInt z = x) (k : bz_V l ad K n M d r σ' (pc + 1) ls (.int x :: st) σ) : bz_V l ad K n M d r σ' pc ls st σ := by
  intro p e R s m args below meth c A Q mc ms C hR hQ H locs LS hP hS hl
  exact lv_iconst C.1 C.2.1 hd hv (k p e R s m args below meth c A Q mc ms C hR hQ H locs LS hP hS hl)
theorem bz_bipush {z : Int} {x : Int32} (hd : decode M.2.1 pc = .ok (.bipush z, 2)) (hv : (Int8.ofInt z).toInt32 = x) (k : bz_V l ad K n M d r σ' (pc + 2) ls (.int x :: st) σ) : bz_V l ad K n M d r σ' pc ls st σ := by
  intro p e R s m args below meth c A Q mc ms C hR hQ H locs LS hP hS hl
  exact lv_bipush C.1 C.2.1 hd hv (k p e R s m args below meth c A Q mc ms C hR hQ H locs LS hP hS hl)
theorem bz_sipush {z : Int} {x : Int32} (hd : decode M.2.1 pc = .ok (.sipush z, 3)) (hv : (Int16.ofInt z).toInt32 = x) (k : bz_V l ad K n M d r σ' (pc + 3) ls (.int x :: st) σ) : bz_V l ad K n M d r σ' pc ls st σ := by
  intro p e R s m args below meth c A Q mc ms C hR hQ H locs LS hP hS hl
  exact lv_sipush C.1 C.2.1 hd hv (k p e R s m args below meth c A Q mc ms C hR hQ H locs LS hP hS hl)
theorem bz_lconst {z : Fin 2} {x : Int64} (hd : decode M.2.1 pc = .ok (.lconst z, 1)) (hv : Int64.ofNat (z : Nat) = x) (k : bz_V l ad K n M d r σ' (pc + 1) ls (.long x :: st) σ) : bz_V l ad K n M d r σ' pc ls st σ := by
  intro p e R s m args below meth c A Q mc ms C hR hQ H locs LS hP hS hl
  exact lv_lconst C.1 C.2.1 hd hv (k p e R s m args below meth c A Q mc ms C hR hQ H locs LS hP hS hl)
theorem bz_iadd {x y : Int32} (hd : decode M.2.1 pc = .ok (.iadd, 1))  (k : bz_V l ad K n M d r σ' (pc + 1) ls (.int (x + y) :: st) σ) : bz_V l ad K n M d r σ' pc ls (.int y :: .int x :: st) σ := by
  intro p e R s m args below meth c A Q mc ms C hR hQ H locs LS hP hS hl
  exact lv_iadd C.1 C.2.1 hd  (k p e R s m args below meth c A Q mc ms C hR hQ H locs LS hP hS hl)
theorem bz_isub {x y : Int32} (hd : decode M.2.1 pc = .ok (.isub, 1))  (k : bz_V l ad K n M d r σ' (pc + 1) ls (.int (x - y) :: st) σ) : bz_V l ad K n M d r σ' pc ls (.int y :: .int x :: st) σ := by
  intro p e R s m args below meth c A Q mc ms C hR hQ H locs LS hP hS hl
  exact lv_isub C.1 C.2.1 hd  (k p e R s m args below meth c A Q mc ms C hR hQ H locs LS hP hS hl)
theorem bz_imul {x y : Int32} (hd : decode M.2.1 pc = .ok (.imul, 1))  (k : bz_V l ad K n M d r σ' (pc + 1) ls (.int (x * y) :: st) σ) : bz_V l ad K n M d r σ' pc ls (.int y :: .int x :: st) σ := by
  intro p e R s m args below meth c A Q mc ms C hR hQ H locs LS hP hS hl
  exact lv_imul C.1 C.2.1 hd  (k p e R s m args below meth c A Q mc ms C hR hQ H locs LS hP hS hl)
theorem bz_iand {x y : Int32} (hd : decode M.2.1 pc = .ok (.iand, 1))  (k : bz_V l ad K n M d r σ' (pc + 1) ls (.int (x &&& y) :: st) σ) : bz_V l ad K n M d r σ' pc ls (.int y :: .int x :: st) σ := by
  intro p e R s m args below meth c A Q mc ms C hR hQ H locs LS hP hS hl
  exact lv_iand C.1 C.2.1 hd  (k p e R s m args below meth c A Q mc ms C hR hQ H locs LS hP hS hl)
theorem bz_ishl {x y : Int32} (hd : decode M.2.1 pc = .ok (.ishl, 1))  (k : bz_V l ad K n M d r σ' (pc + 1) ls (.int (x <<< (y &&& 31)) :: st) σ) : bz_V l ad K n M d r σ' pc ls (.int y :: .int x :: st) σ := by
  intro p e R s m args below meth c A Q mc ms C hR hQ H locs LS hP hS hl
  exact lv_ishl C.1 C.2.1 hd  (k p e R s m args below meth c A Q mc ms C hR hQ H locs LS hP hS hl)
theorem bz_idiv {x y : Int32} (hd : decode M.2.1 pc = .ok (.idiv, 1)) (hne : ¬ y = 0) (k : bz_V l ad K n M d r σ' (pc + 1) ls (.int (x / y) :: st) σ) : bz_V l ad K n M d r σ' pc ls (.int y :: .int x :: st) σ := by
  intro p e R s m args below meth c A Q mc ms C hR hQ H locs LS hP hS hl
  exact lv_idiv C.1 C.2.1 hd hne (k p e R s m args below meth c A Q mc ms C hR hQ H locs LS hP hS hl)
theorem bz_irem {x y : Int32} (hd : decode M.2.1 pc = .ok (.irem, 1)) (hne : ¬ y = 0) (k : bz_V l ad K n M d r σ' (pc + 1) ls (.int (x - x / y * y) :: st) σ) : bz_V l ad K n M d r σ' pc ls (.int y :: .int x :: st) σ := by
  intro p e R s m args below meth c A Q mc ms C hR hQ H locs LS hP hS hl
  exact lv_irem C.1 C.2.1 hd hne (k p e R s m args below meth c A Q mc ms C hR hQ H locs LS hP hS hl)
theorem bz_ineg {x : Int32} (hd : decode M.2.1 pc = .ok (.ineg, 1))  (k : bz_V l ad K n M d r σ' (pc + 1) ls (.int (-x) :: st) σ) : bz_V l ad K n M d r σ' pc ls (.int x :: st) σ := by
  intro p e R s m args below meth c A Q mc ms C hR hQ H locs LS hP hS hl
  exact lv_ineg C.1 C.2.1 hd  (k p e R s m args below meth c A Q mc ms C hR hQ H locs LS hP hS hl)
theorem bz_ladd {x y : Int64} (hd : decode M.2.1 pc = .ok (.ladd, 1))  (k : bz_V l ad K n M d r σ' (pc + 1) ls (.long (x + y) :: st) σ) : bz_V l ad K n M d r σ' pc ls (.long y :: .long x :: st) σ := by
  intro p e R s m args below meth c A Q mc ms C hR hQ H locs LS hP hS hl
  exact lv_ladd C.1 C.2.1 hd  (k p e R s m args below meth c A Q mc ms C hR hQ H locs LS hP hS hl)
theorem bz_lsub {x y : Int64} (hd : decode M.2.1 pc = .ok (.lsub, 1))  (k : bz_V l ad K n M d r σ' (pc + 1) ls (.long (x - y) :: st) σ) : bz_V l ad K n M d r σ' pc ls (.long y :: .long x :: st) σ := by
  intro p e R s m args below meth c A Q mc ms C hR hQ H locs LS hP hS hl
  exact lv_lsub C.1 C.2.1 hd  (k p e R s m args below meth c A Q mc ms C hR hQ H locs LS hP hS hl)
theorem bz_lmul {x y : Int64} (hd : decode M.2.1 pc = .ok (.lmul, 1))  (k : bz_V l ad K n M d r σ' (pc + 1) ls (.long (x * y) :: st) σ) : bz_V l ad K n M d r σ' pc ls (.long y :: .long x :: st) σ := by
  intro p e R s m args below meth c A Q mc ms C hR hQ H locs LS hP hS hl
  exact lv_lmul C.1 C.2.1 hd  (k p e R s m args below meth c A Q mc ms C hR hQ H locs LS hP hS hl)
theorem bz_ldiv {x y : Int64} (hd : decode M.2.1 pc = .ok (.ldiv, 1)) (hne : ¬ y = 0) (k : bz_V l ad K n M d r σ' (pc + 1) ls (.long (x / y) :: st) σ) : bz_V l ad K n M d r σ' pc ls (.long y :: .long x :: st) σ := by
  intro p e R s m args below meth c A Q mc ms C hR hQ H locs LS hP hS hl
  exact lv_ldiv C.1 C.2.1 hd hne (k p e R s m args below meth c A Q mc ms C hR hQ H locs LS hP hS hl)
theorem bz_lrem {x y : Int64} (hd : decode M.2.1 pc = .ok (.lrem, 1)) (hne : ¬ y = 0) (k : bz_V l ad K n M d r σ' (pc + 1) ls (.long (x - x / y * y) :: st) σ) : bz_V l ad K n M d r σ' pc ls (.long y :: .long x :: st) σ := by
  intro p e R s m args below meth c A Q mc ms C hR hQ H locs LS hP hS hl
  exact lv_lrem C.1 C.2.1 hd hne (k p e R s m args below meth c A Q mc ms C hR hQ H locs LS hP hS hl)
theorem bz_lneg {x : Int64} (hd : decode M.2.1 pc = .ok (.lneg, 1))  (k : bz_V l ad K n M d r σ' (pc + 1) ls (.long (-x) :: st) σ) : bz_V l ad K n M d r σ' pc ls (.long x :: st) σ := by
  intro p e R s m args below meth c A Q mc ms C hR hQ H locs LS hP hS hl
  exact lv_lneg C.1 C.2.1 hd  (k p e R s m args below meth c A Q mc ms C hR hQ H locs LS hP hS hl)
theorem bz_lcmp {x y : Int64} (hd : decode M.2.1 pc = .ok (.lcmp, 1))  (k : bz_V l ad K n M d r σ' (pc + 1) ls (.int (lg_cmp x y) :: st) σ) : bz_V l ad K n M d r σ' pc ls (.long y :: .long x :: st) σ := by
  intro p e R s m args below meth c A Q mc ms C hR hQ H locs LS hP hS hl
  exact W.lcmp C.1 C.2.1 hd  (k p e R s m args below meth c A Q mc ms C hR hQ H locs LS hP hS hl)
theorem bz_i2l {x : Int32} (hd : decode M.2.1 pc = .ok (.i2l, 1))  (k : bz_V l ad K n M d r σ' (pc + 1) ls (.long x.toInt64 :: st) σ) : bz_V l ad K n M d r σ' pc ls (.int x :: st) σ := by
  intro p e R s m args below meth c A Q mc ms C hR hQ H locs LS hP hS hl
  exact lv_i2l C.1 C.2.1 hd rfl (k p e R s m args below meth c A Q mc ms C hR hQ H locs LS hP hS hl)
theorem bz_l2i {x : Int64} (hd : decode M.2.1 pc = .ok (.l2i, 1))  (k : bz_V l ad K n M d r σ' (pc + 1) ls (.int x.toInt32 :: st) σ) : bz_V l ad K n M d r σ' pc ls (.long x :: st) σ := by
  intro p e R s m args below meth c A Q mc ms C hR hQ H locs LS hP hS hl
  exact lv_l2i C.1 C.2.1 hd rfl (k p e R s m args below meth c A Q mc ms C hR hQ H locs LS hP hS hl)
theorem bz_dup {v : Value} (hd : decode M.2.1 pc = .ok (.dup, 1)) (hv : v.category = 1) (k : bz_V l ad K n M d r σ' (pc + 1) ls (v :: v :: st) σ) : bz_V l ad K n M d r σ' pc ls (v :: st) σ := by
  intro p e R s m args below meth c A Q mc ms C hR hQ H locs LS hP hS hl
  exact lv_dup C.1 C.2.1 hd hv (k p e R s m args below meth c A Q mc ms C hR hQ H locs LS hP hS hl)
theorem bz_dup2 {v w : Value} (hd : decode M.2.1 pc = .ok (.dup2, 1)) (hv : v.category = 1) (hw : w.category = 1) (k : bz_V l ad K n M d r σ' (pc + 1) ls (v :: w :: v :: w :: st) σ) : bz_V l ad K n M d r σ' pc ls (v :: w :: st) σ := by
  intro p e R s m args below meth c A Q mc ms C hR hQ H locs LS hP hS hl
  exact lv_dup2_11 C.1 C.2.1 hd hv hw (k p e R s m args below meth c A Q mc ms C hR hQ H locs LS hP hS hl)
theorem bz_pop {v : Value} (hd : decode M.2.1 pc = .ok (.pop, 1)) (hv : v.category = 1) (k : bz_V l ad K n M d r σ' (pc + 1) ls st σ) : bz_V l ad K n M d r σ' pc ls (v :: st) σ := by
  intro p e R s m args below meth c A Q mc ms C hR hQ H locs LS hP hS hl
  exact lv_pop C.1 C.2.1 hd hv (k p e R s m args below meth c A Q mc ms C hR hQ H locs LS hP hS hl)
theorem bz_iaddN {a b : Nat} (hd : decode M.2.1 pc = .ok (.iadd, 1)) (k : bz_V l ad K n M d r σ' (pc + 1) ls (.int (nI (a + b)) :: st) σ) : bz_V l ad K n M d r σ' pc ls (.int (nI b) :: .int (nI a) :: st) σ := bz_iadd hd (by rw [nI_add]; exact k)
theorem bz_imulN {a b : Nat} (hd : decode M.2.1 pc = .ok (.imul, 1)) (k : bz_V l ad K n M d r σ' (pc + 1) ls (.int (nI (a * b)) :: st) σ) : bz_V l ad K n M d r σ' pc ls (.int (nI b) :: .int (nI a) :: st) σ := bz_imul hd (by rw [pk_mul]; exact k)
theorem bz_isubN {a b : Nat} (hd : decode M.2.1 pc = .ok (.isub, 1)) (h : b ≤ a) (k : bz_V l ad K n M d r σ' (pc + 1) ls (.int (nI (a - b)) :: st) σ) : bz_V l ad K n M d r σ' pc ls (.int (nI b) :: .int (nI a) :: st) σ := bz_isub hd (by rw [pk_sub h]; exact k)
theorem bz_idivN {a b : Nat} (hd : decode M.2.1 pc = .ok (.idiv, 1)) (ha : a < 2 ^ 31) (h0 : 0 < b) (hb : b < 2 ^ 31) (k : bz_V l ad K n M d r σ' (pc + 1) ls (.int (nI (a / b)) :: st) σ) : bz_V l ad K n M d r σ' pc ls (.int (nI b) :: .int (nI a) :: st) σ := bz_idiv hd (nI_ne0 h0 hb) (by rw [pk_div ha h0 hb]; exact k)
theorem bz_iremN {a b : Nat} (hd : decode M.2.1 pc = .ok (.irem, 1)) (ha : a < 2 ^ 31) (h0 : 0 < b) (hb : b < 2 ^ 31) (k : bz_V l ad K n M d r σ' (pc + 1) ls (.int (nI (a % b)) :: st) σ) : bz_V l ad K n M d r σ' pc ls (.int (nI b) :: .int (nI a) :: st) σ := bz_irem hd (nI_ne0 h0 hb) (by rw [pk_rem ha h0 hb]; exact k)
theorem bz_i2lN {a : Nat} (hd : decode M.2.1 pc = .ok (.i2l, 1)) (h : a < 2 ^ 31) (k : bz_V l ad K n M d r σ' (pc + 1) ls (.long (lN a) :: st) σ) : bz_V l ad K n M d r σ' pc ls (.int (nI a) :: st) σ := bz_i2l hd (by rw [nI_l h]; exact k)
theorem bz_goto {off : Int} {tgt : Nat} (hd : decode M.2.1 pc = .ok (.goto off, 3)) (ht : (pc : Int) + off = (tgt : Int)) (k : bz_V l ad K n M d r σ' tgt ls st σ) : bz_V l ad K n M d r σ' pc ls st σ := by
  intro p e R s m args below meth c A Q mc ms C hR hQ H locs LS hP hS hl
  exact lv_goto C.1 C.2.1 hd ht (k p e R s m args below meth c A Q mc ms C hR hQ H locs LS hP hS hl)
theorem bz_icmp_lt {x y : Int32} {off : Int} {tgt : Nat} (hd : decode M.2.1 pc = .ok (.if_icmp .lt off, 3)) (ht : (pc : Int) + off = (tgt : Int)) (kt : x < y → bz_V l ad K n M d r σ' tgt ls st σ) (kf : ¬ x < y → bz_V l ad K n M d r σ' (pc + 3) ls st σ) : bz_V l ad K n M d r σ' pc ls (.int y :: .int x :: st) σ := by
  intro p e R s m args below meth c A Q mc ms C hR hQ H locs LS hP hS hl
  exact lv_icmp_lt C.1 C.2.1 hd ht (fun h => (kt h p e R s m args below meth c A Q mc ms C hR hQ H locs LS hP hS hl)) (fun h => (kf h p e R s m args below meth c A Q mc ms C hR hQ H locs LS hP hS hl))
theorem bz_icmp_ge {x y : Int32} {off : Int} {tgt : Nat} (hd : decode M.2.1 pc = .ok (.if_icmp .ge off, 3)) (ht : (pc : Int) + off = (tgt : Int)) (kt : y ≤ x → bz_V l ad K n M d r σ' tgt ls st σ) (kf : ¬ y ≤ x → bz_V l ad K n M d r σ' (pc + 3) ls st σ) : bz_V l ad K n M d r σ' pc ls (.int y :: .int x :: st) σ := by
  intro p e R s m args below meth c A Q mc ms C hR hQ H locs LS hP hS hl
  exact lv_icmp_ge C.1 C.2.1 hd ht (fun h => (kt h p e R s m args below meth c A Q mc ms C hR hQ H locs LS hP hS hl)) (fun h => (kf h p e R s m args below meth c A Q mc ms C hR hQ H locs LS hP hS hl))
theorem bz_icmp_gt {x y : Int32} {off : Int} {tgt : Nat} (hd : decode M.2.1 pc = .ok (.if_icmp .gt off, 3)) (ht : (pc : Int) + off = (tgt : Int)) (kt : y < x → bz_V l ad K n M d r σ' tgt ls st σ) (kf : ¬ y < x → bz_V l ad K n M d r σ' (pc + 3) ls st σ) : bz_V l ad K n M d r σ' pc ls (.int y :: .int x :: st) σ := by
  intro p e R s m args below meth c A Q mc ms C hR hQ H locs LS hP hS hl
  exact lv_icmp_gt C.1 C.2.1 hd ht (fun h => (kt h p e R s m args below meth c A Q mc ms C hR hQ H locs LS hP hS hl)) (fun h => (kf h p e R s m args below meth c A Q mc ms C hR hQ H locs LS hP hS hl))
theorem bz_icmp_le {x y : Int32} {off : Int} {tgt : Nat} (hd : decode M.2.1 pc = .ok (.if_icmp .le off, 3)) (ht : (pc : Int) + off = (tgt : Int)) (kt : x ≤ y → bz_V l ad K n M d r σ' tgt ls st σ) (kf : ¬ x ≤ y → bz_V l ad K n M d r σ' (pc + 3) ls st σ) : bz_V l ad K n M d r σ' pc ls (.int y :: .int x :: st) σ := by
  intro p e R s m args below meth c A Q mc ms C hR hQ H locs LS hP hS hl
  exact lv_icmp_le C.1 C.2.1 hd ht (fun h => (kt h p e R s m args below meth c A Q mc ms C hR hQ H locs LS hP hS hl)) (fun h => (kf h p e R s m args below meth c A Q mc ms C hR hQ H locs LS hP hS hl))
theorem bz_icmp_eq {x y : Int32} {off : Int} {tgt : Nat} (hd : decode M.2.1 pc = .ok (.if_icmp .eq off, 3)) (ht : (pc : Int) + off = (tgt : Int)) (kt : x = y → bz_V l ad K n M d r σ' tgt ls st σ) (kf : ¬ x = y → bz_V l ad K n M d r σ' (pc + 3) ls st σ) : bz_V l ad K n M d r σ' pc ls (.int y :: .int x :: st) σ := by
  intro p e R s m args below meth c A Q mc ms C hR hQ H locs LS hP hS hl
  exact lv_icmp_eq C.1 C.2.1 hd ht (fun h => (kt h p e R s m args below meth c A Q mc ms C hR hQ H locs LS hP hS hl)) (fun h => (kf h p e R s m args below meth c A Q mc ms C hR hQ H locs LS hP hS hl))
theorem bz_icmp_ne {x y : Int32} {off : Int} {tgt : Nat} (hd : decode M.2.1 pc = .ok (.if_icmp .ne off, 3)) (ht : (pc : Int) + off = (tgt : Int)) (kt : ¬ x = y → bz_V l ad K n M d r σ' tgt ls st σ) (kf : x = y → bz_V l ad K n M d r σ' (pc + 3) ls st σ) : bz_V l ad K n M d r σ' pc ls (.int y :: .int x :: st) σ := by
  intro p e R s m args below meth c A Q mc ms C hR hQ H locs LS hP hS hl
  exact lv_icmp_ne C.1 C.2.1 hd ht (fun h => (kt h p e R s m args below meth c A Q mc ms C hR hQ H locs LS hP hS hl)) (fun h => (kf h p e R s m args below meth c A Q mc ms C hR hQ H locs LS hP hS hl))
theorem bz_if_lt {x : Int32} {off : Int} {tgt : Nat} (hd : decode M.2.1 pc = .ok (.ifCond .lt off, 3)) (ht : (pc : Int) + off = (tgt : Int)) (kt : x < 0 → bz_V l ad K n M d r σ' tgt ls st σ) (kf : ¬ x < 0 → bz_V l ad K n M d r σ' (pc + 3) ls st σ) : bz_V l ad K n M d r σ' pc ls (.int x :: st) σ := by
  intro p e R s m args below meth c A Q mc ms C hR hQ H locs LS hP hS hl
  exact lv_if_lt C.1 C.2.1 hd ht (fun h => (kt h p e R s m args below meth c A Q mc ms C hR hQ H locs LS hP hS hl)) (fun h => (kf h p e R s m args below meth c A Q mc ms C hR hQ H locs LS hP hS hl))
theorem bz_if_ge {x : Int32} {off : Int} {tgt : Nat} (hd : decode M.2.1 pc = .ok (.ifCond .ge off, 3)) (ht : (pc : Int) + off = (tgt : Int)) (kt : 0 ≤ x → bz_V l ad K n M d r σ' tgt ls st σ) (kf : ¬ 0 ≤ x → bz_V l ad K n M d r σ' (pc + 3) ls st σ) : bz_V l ad K n M d r σ' pc ls (.int x :: st) σ := by
  intro p e R s m args below meth c A Q mc ms C hR hQ H locs LS hP hS hl
  exact lv_if_ge C.1 C.2.1 hd ht (fun h => (kt h p e R s m args below meth c A Q mc ms C hR hQ H locs LS hP hS hl)) (fun h => (kf h p e R s m args below meth c A Q mc ms C hR hQ H locs LS hP hS hl))
theorem bz_if_gt {x : Int32} {off : Int} {tgt : Nat} (hd : decode M.2.1 pc = .ok (.ifCond .gt off, 3)) (ht : (pc : Int) + off = (tgt : Int)) (kt : 0 < x → bz_V l ad K n M d r σ' tgt ls st σ) (kf : ¬ 0 < x → bz_V l ad K n M d r σ' (pc + 3) ls st σ) : bz_V l ad K n M d r σ' pc ls (.int x :: st) σ := by
  intro p e R s m args below meth c A Q mc ms C hR hQ H locs LS hP hS hl
  exact lv_if_gt C.1 C.2.1 hd ht (fun h => (kt h p e R s m args below meth c A Q mc ms C hR hQ H locs LS hP hS hl)) (fun h => (kf h p e R s m args below meth c A Q mc ms C hR hQ H locs LS hP hS hl))
theorem bz_if_le {x : Int32} {off : Int} {tgt : Nat} (hd : decode M.2.1 pc = .ok (.ifCond .le off, 3)) (ht : (pc : Int) + off = (tgt : Int)) (kt : x ≤ 0 → bz_V l ad K n M d r σ' tgt ls st σ) (kf : ¬ x ≤ 0 → bz_V l ad K n M d r σ' (pc + 3) ls st σ) : bz_V l ad K n M d r σ' pc ls (.int x :: st) σ := by
  intro p e R s m args below meth c A Q mc ms C hR hQ H locs LS hP hS hl
  exact lv_if_le C.1 C.2.1 hd ht (fun h => (kt h p e R s m args below meth c A Q mc ms C hR hQ H locs LS hP hS hl)) (fun h => (kf h p e R s m args below meth c A Q mc ms C hR hQ H locs LS hP hS hl))
theorem bz_if_eq {x : Int32} {off : Int} {tgt : Nat} (hd : decode M.2.1 pc = .ok (.ifCond .eq off, 3)) (ht : (pc : Int) + off = (tgt : Int)) (kt : x = 0 → bz_V l ad K n M d r σ' tgt ls st σ) (kf : ¬ x = 0 → bz_V l ad K n M d r σ' (pc + 3) ls st σ) : bz_V l ad K n M d r σ' pc ls (.int x :: st) σ := by
  intro p e R s m args below meth c A Q mc ms C hR hQ H locs LS hP hS hl
  exact lv_if_eq C.1 C.2.1 hd ht (fun h => (kt h p e R s m args below meth c A Q mc ms C hR hQ H locs LS hP hS hl)) (fun h => (kf h p e R s m args below meth c A Q mc ms C hR hQ H locs LS hP hS hl))
theorem bz_if_ne {x : Int32} {off : Int} {tgt : Nat} (hd : decode M.2.1 pc = .ok (.ifCond .ne off, 3)) (ht : (pc : Int) + off = (tgt : Int)) (kt : ¬ x = 0 → bz_V l ad K n M d r σ' tgt ls st σ) (kf : x = 0 → bz_V l ad K n M d r σ' (pc + 3) ls st σ) : bz_V l ad K n M d r σ' pc ls (.int x :: st) σ := by
  intro p e R s m args below meth c A Q mc ms C hR hQ H locs LS hP hS hl
  exact lv_if_ne C.1 C.2.1 hd ht (fun h => (kt h p e R s m args below meth c A Q mc ms C hR hQ H locs LS hP hS hl)) (fun h => (kf h p e R s m args below meth c A Q mc ms C hR hQ H locs LS hP hS hl))
theorem bz_icmp_ltN {a b : Nat} {off : Int} {tgt : Nat} (hd : decode M.2.1 pc = .ok (.if_icmp .lt off, 3)) (ht : (pc : Int) + off = (tgt : Int)) (ha : a < 2 ^ 31) (hb : b < 2 ^ 31) (kt : a < b → bz_V l ad K n M d r σ' tgt ls st σ) (kf : b ≤ a → bz_V l ad K n M d r σ' (pc + 3) ls st σ) : bz_V l ad K n M d r σ' pc ls (.int (nI b) :: .int (nI a) :: st) σ := bz_icmp_lt hd ht (fun h => kt ((nI_ltI ha hb).mp h)) (fun h => kf (Nat.not_lt.mp (fun q => h ((nI_ltI ha hb).mpr q))))
theorem bz_icmp_geN {a b : Nat} {off : Int} {tgt : Nat} (hd : decode M.2.1 pc = .ok (.if_icmp .ge off, 3)) (ht : (pc : Int) + off = (tgt : Int)) (ha : a < 2 ^ 31) (hb : b < 2 ^ 31) (kt : b ≤ a → bz_V l ad K n M d r σ' tgt ls st σ) (kf : a < b → bz_V l ad K n M d r σ' (pc + 3) ls st σ) : bz_V l ad K n M d r σ' pc ls (.int (nI b) :: .int (nI a) :: st) σ := bz_icmp_ge hd ht (fun h => kt ((nI_leI hb ha).mp h)) (fun h => kf (Nat.not_le.mp (fun q => h ((nI_leI hb ha).mpr q))))
theorem bz_icmp_gtN {a b : Nat} {off : Int} {tgt : Nat} (hd : decode M.2.1 pc = .ok (.if_icmp .gt off, 3)) (ht : (pc : Int) + off = (tgt : Int)) (ha : a < 2 ^ 31) (hb : b < 2 ^ 31) (kt : b < a → bz_V l ad K n M d r σ' tgt ls st σ) (kf : a ≤ b → bz_V l ad K n M d r σ' (pc + 3) ls st σ) : bz_V l ad K n M d r σ' pc ls (.int (nI b) :: .int (nI a) :: st) σ := bz_icmp_gt hd ht (fun h => kt ((nI_ltI hb ha).mp h)) (fun h => kf (Nat.not_lt.mp (fun q => h ((nI_ltI hb ha).mpr q))))
theorem bz_icmp_leN {a b : Nat} {off : Int} {tgt : Nat} (hd : decode M.2.1 pc = .ok (.if_icmp .le off, 3)) (ht : (pc : Int) + off = (tgt : Int)) (ha : a < 2 ^ 31) (hb : b < 2 ^ 31) (kt : a ≤ b → bz_V l ad K n M d r σ' tgt ls st σ) (kf : b < a → bz_V l ad K n M d r σ' (pc + 3) ls st σ) : bz_V l ad K n M d r σ' pc ls (.int (nI b) :: .int (nI a) :: st) σ := bz_icmp_le hd ht (fun h => kt ((nI_leI ha hb).mp h)) (fun h => kf (Nat.not_le.mp (fun q => h ((nI_leI ha hb).mpr q))))
theorem bz_icmp_eqN {a b : Nat} {off : Int} {tgt : Nat} (hd : decode M.2.1 pc = .ok (.if_icmp .eq off, 3)) (ht : (pc : Int) + off = (tgt : Int)) (ha : a < 2 ^ 31) (hb : b < 2 ^ 31) (kt : a = b → bz_V l ad K n M d r σ' tgt ls st σ) (kf : a ≠ b → bz_V l ad K n M d r σ' (pc + 3) ls st σ) : bz_V l ad K n M d r σ' pc ls (.int (nI b) :: .int (nI a) :: st) σ := bz_icmp_eq hd ht (fun h => kt ((nI_eq ha hb).mp h)) (fun h => kf (fun q => h ((nI_eq ha hb).mpr q)))
theorem bz_icmp_neN {a b : Nat} {off : Int} {tgt : Nat} (hd : decode M.2.1 pc = .ok (.if_icmp .ne off, 3)) (ht : (pc : Int) + off = (tgt : Int)) (ha : a < 2 ^ 31) (hb : b < 2 ^ 31) (kt : a ≠ b → bz_V l ad K n M d r σ' tgt ls st σ) (kf : a = b → bz_V l ad K n M d r σ' (pc + 3) ls st σ) : bz_V l ad K n M d r σ' pc ls (.int (nI b) :: .int (nI a) :: st) σ := bz_icmp_ne hd ht (fun h => kt (fun q => h ((nI_eq ha hb).mpr q))) (fun h => kf ((nI_eq ha hb).mp h))
theorem bz_iload_n {x : Int32} {i : Fin 4} (hd : decode M.2.1 pc = .ok (.iload_n i, 1)) (h : ls[(i : Nat)]? = some (some (.int x))) (k : bz_V l ad K n M d r σ' (pc + 1) ls (.int x :: st) σ) : bz_V l ad K n M d r σ' pc ls st σ := by
  intro p e R s m args below meth c A Q mc ms C hR hQ H locs LS hP hS hl
  exact lv_iload_n C.1 C.2.1 hd rfl (hl.2.2 _ _ h) (k p e R s m args below meth c A Q mc ms C hR hQ H locs LS hP hS hl)
theorem bz_iload {x : Int32} {i : Nat} (hd : decode M.2.1 pc = .ok (.iload i, 2)) (h : ls[i]? = some (some (.int x))) (k : bz_V l ad K n M d r σ' (pc + 2) ls (.int x :: st) σ) : bz_V l ad K n M d r σ' pc ls st σ := by
  intro p e R s m args below meth c A Q mc ms C hR hQ H locs LS hP hS hl
  exact lv_iload C.1 C.2.1 hd (hl.2.2 _ _ h) (k p e R s m args below meth c A Q mc ms C hR hQ H locs LS hP hS hl)
theorem bz_lload_n {x : Int64} {i : Fin 4} (hd : decode M.2.1 pc = .ok (.lload_n i, 1)) (h : ls[(i : Nat)]? = some (some (.long x))) (k : bz_V l ad K n M d r σ' (pc + 1) ls (.long x :: st) σ) : bz_V l ad K n M d r σ' pc ls st σ := by
  intro p e R s m args below meth c A Q mc ms C hR hQ H locs LS hP hS hl
  exact lv_lload_n C.1 C.2.1 hd rfl (hl.2.2 _ _ h) (k p e R s m args below meth c A Q mc ms C hR hQ H locs LS hP hS hl)
theorem bz_lload {x : Int64} {i : Nat} (hd : decode M.2.1 pc = .ok (.lload i, 2)) (h : ls[i]? = some (some (.long x))) (k : bz_V l ad K n M d r σ' (pc + 2) ls (.long x :: st) σ) : bz_V l ad K n M d r σ' pc ls st σ := by
  intro p e R s m args below meth c A Q mc ms C hR hQ H locs LS hP hS hl
  exact lv_lload C.1 C.2.1 hd (hl.2.2 _ _ h) (k p e R s m args below meth c A Q mc ms C hR hQ H locs LS hP hS hl)
theorem bz_aload_n {x : Nat} {i : Fin 4} (hd : decode M.2.1 pc = .ok (.aload_n i, 1)) (h : ls[(i : Nat)]? = some (some (.ref x))) (k : bz_V l ad K n M d r σ' (pc + 1) ls (.ref x :: st) σ) : bz_V l ad K n M d r σ' pc ls st σ := by
  intro p e R s m args below meth c A Q mc ms C hR hQ H locs LS hP hS hl
  exact lv_aload_n C.1 C.2.1 hd rfl (hl.2.2 _ _ h) (k p e R s m args below meth c A Q mc ms C hR hQ H locs LS hP hS hl)
theorem bz_aload {x : Nat} {i : Nat} (hd : decode M.2.1 pc = .ok (.aload i, 2)) (h : ls[i]? = some (some (.ref x))) (k : bz_V l ad K n M d r σ' (pc + 2) ls (.ref x :: st) σ) : bz_V l ad K n M d r σ' pc ls st σ := by
  intro p e R s m args below meth c A Q mc ms C hR hQ H locs LS hP hS hl
  exact lv_aload C.1 C.2.1 hd (hl.2.2 _ _ h) (k p e R s m args below meth c A Q mc ms C hR hQ H locs LS hP hS hl)
def bz_c2 : Option Value → Bool
  | some v => decide (v.category = 2)
  | none => false
def bz_lv (ls : List (Option Value)) : List (Nat × Value) := (List.range ls.length).filterMap (fun i => (ls.getD i none).map (fun v => (i, v)))
theorem bz_lv_mem {ls : List (Option Value)} {q : Nat × Value} : q ∈ bz_lv ls ↔ ls[q.1]? = some (some q.2) := by
  unfold bz_lv
  rw [List.mem_filterMap]
  constructor
  · rintro ⟨i, -, h⟩
    rw [Option.map_eq_some_iff] at h
    obtain ⟨v, h1, rfl⟩ := h
    simp only [List.getD_eq_getElem?_getD] at h1
    cases h2 : ls[i]? with
    | none => rw [h2] at h1; cases h1
    | some o => rw [h2] at h1; simp at h1; simp [h2, h1]
  · intro h
    have hl := (List.getElem?_eq_some_iff.mp h).1
    refine ⟨q.1, List.mem_range.mpr hl, ?_⟩
    simp [List.getD_eq_getElem?_getD, h]
theorem bz_l_has {LS : Array Slot} {nL : Nat} {ls : List (Option Value)} (h : bz_l LS nL ls) : lv_has LS nL (bz_lv ls) := ⟨h.1, h.2.1, fun q hq => h.2.2 _ _ (bz_lv_mem.mp hq)⟩
theorem bz_l_st1 {LS : Array Slot} {nL i : Nat} {as t : List (Option Value)} {x : Option Value} {v : Value} (hi : as.length = i) (hc : ∀ w, as[i - 1]? = some w → bz_c2 w = false) (h : lv_has LS nL ((i, v) :: (bz_lv (as ++ x :: t)).filter (fun q => !(q.1 == i) && !(q.1 + 1 == i && q.2.category == 2)))) : bz_l LS nL (as ++ some v :: t) := by
  refine ⟨h.1, h.2.1, fun j w hj => ?_⟩
  by_cases e : j = i
  · subst e
    rw [List.getElem?_append_right (by omega), hi, Nat.sub_self] at hj
    cases hj
    exact h.2.2 (j, v) List.mem_cons_self
  · refine h.2.2 (j, w) (List.mem_cons_of_mem _ (List.mem_filter.mpr ⟨bz_lv_mem.mpr ?_, ?_⟩))
    · by_cases hl : j < i
      · rw [List.getElem?_append_left (by omega)] at hj ⊢
        exact hj
      · rw [List.getElem?_append_right (by omega)] at hj ⊢
        have : ∃ z, j - as.length = z + 1 := ⟨j - as.length - 1, by omega⟩
        obtain ⟨z, hz⟩ := this
        rw [hz] at hj ⊢
        exact hj
    · have e1 : (j == i) = false := by simp [e]
      by_cases e2 : j + 1 = i
      · have hw := hc (some w) (by
          rw [List.getElem?_append_left (by omega)] at hj
          rw [show i - 1 = j by omega]
          exact hj)
        simp [bz_c2] at hw
        simp [e, hw]
      · simp [e, e2]
theorem bz_l_st2 {LS : Array Slot} {nL i : Nat} {as t : List (Option Value)} {x y : Option Value} {v : Value} (hi : as.length = i) (hc : ∀ w, as[i - 1]? = some w → bz_c2 w = false) (h : lv_has LS nL ((i, v) :: (bz_lv (as ++ x :: y :: t)).filter (fun q => !(q.1 == i) && (!(q.1 == i + 1) && !(q.1 + 1 == i && q.2.category == 2))))) : bz_l LS nL (as ++ some v :: none :: t) := by
  refine ⟨h.1, h.2.1, fun j w hj => ?_⟩
  by_cases e : j = i
  · subst e
    rw [List.getElem?_append_right (by omega), hi, Nat.sub_self] at hj
    cases hj
    exact h.2.2 (j, v) List.mem_cons_self
  · by_cases e3 : j = i + 1
    · subst e3
      rw [List.getElem?_append_right (by omega), hi, show i + 1 - i = 1 by omega] at hj
      cases hj
    · refine h.2.2 (j, w) (List.mem_cons_of_mem _ (List.mem_filter.mpr ⟨bz_lv_mem.mpr ?_, ?_⟩))
      · by_cases hl : j < i
        · rw [List.getElem?_append_left (by omega)] at hj ⊢
          exact hj
        · rw [List.getElem?_append_right (by omega)] at hj ⊢
          have : ∃ z, j - as.length = z + 2 := ⟨j - as.length - 2, by omega⟩
          obtain ⟨z, hz⟩ := this
          rw [hz] at hj ⊢
          exact hj
      · by_cases e2 : j + 1 = i
        · have hw := hc (some w) (by
            rw [List.getElem?_append_left (by omega)] at hj
            rw [show i - 1 = j by omega]
            exact hj)
          simp [bz_c2] at hw
          simp [e, e3, hw]
        · simp [e, e2, e3]
theorem bz_l_weak {LS : Array Slot} {nL : Nat} {ls ls' : List (Option Value)} (h : bz_l LS nL ls) (hw : ∀ (i : Nat) (v : Value), ls'[i]? = some (some v) → ls[i]? = some (some v)) : bz_l LS nL ls' := ⟨h.1, h.2.1, fun i v q => h.2.2 i v (hw i v q)⟩
theorem bz_istoreG {v : Int32} {i : Nat} {as t : List (Option Value)} {x : Option Value} (hd : decode M.2.1 pc = .ok (.istore i, 2)) (hn : i < M.2.2.2.1) (hi : as.length = i) (hc : ∀ w, as[i - 1]? = some w → bz_c2 w = false) (k : bz_V l ad K n M d r σ' (pc + 2) (as ++ some (.int v) :: t) st σ) : bz_V l ad K n M d r σ' pc (as ++ x :: t) (.int v :: st) σ := by
  intro p e R s m args below meth c A Q mc ms C hR hQ H locs LS hP hS hl
  exact lv_istore C.1 C.2.1 hd (bz_l_has hl) hn rfl (fun LS' h' => k p e R s m args below meth c A Q mc ms C hR hQ H locs LS' hP hS (bz_l_st1 hi hc h'))
theorem bz_istoreGn {v : Int32} {i : Nat} {j : Fin 4} {as t : List (Option Value)} {x : Option Value} (hd : decode M.2.1 pc = .ok (.istore_n j, 1)) (hj : (j : Nat) = i) (hn : i < M.2.2.2.1) (hi : as.length = i) (hc : ∀ w, as[i - 1]? = some w → bz_c2 w = false) (k : bz_V l ad K n M d r σ' (pc + 1) (as ++ some (.int v) :: t) st σ) : bz_V l ad K n M d r σ' pc (as ++ x :: t) (.int v :: st) σ := by
  intro p e R s m args below meth c A Q mc ms C hR hQ H locs LS hP hS hl
  exact lv_istore_n C.1 C.2.1 hd hj (bz_l_has hl) hn rfl (fun LS' h' => k p e R s m args below meth c A Q mc ms C hR hQ H locs LS' hP hS (bz_l_st1 hi hc h'))
theorem bz_astoreG {v : Nat} {i : Nat} {as t : List (Option Value)} {x : Option Value} (hd : decode M.2.1 pc = .ok (.astore i, 2)) (hn : i < M.2.2.2.1) (hi : as.length = i) (hc : ∀ w, as[i - 1]? = some w → bz_c2 w = false) (k : bz_V l ad K n M d r σ' (pc + 2) (as ++ some (.ref v) :: t) st σ) : bz_V l ad K n M d r σ' pc (as ++ x :: t) (.ref v :: st) σ := by
  intro p e R s m args below meth c A Q mc ms C hR hQ H locs LS hP hS hl
  exact lv_astore C.1 C.2.1 hd (bz_l_has hl) hn rfl (fun LS' h' => k p e R s m args below meth c A Q mc ms C hR hQ H locs LS' hP hS (bz_l_st1 hi hc h'))
theorem bz_astoreGn {v : Nat} {i : Nat} {j : Fin 4} {as t : List (Option Value)} {x : Option Value} (hd : decode M.2.1 pc = .ok (.astore_n j, 1)) (hj : (j : Nat) = i) (hn : i < M.2.2.2.1) (hi : as.length = i) (hc : ∀ w, as[i - 1]? = some w → bz_c2 w = false) (k : bz_V l ad K n M d r σ' (pc + 1) (as ++ some (.ref v) :: t) st σ) : bz_V l ad K n M d r σ' pc (as ++ x :: t) (.ref v :: st) σ := by
  intro p e R s m args below meth c A Q mc ms C hR hQ H locs LS hP hS hl
  exact lv_astore_n C.1 C.2.1 hd hj (bz_l_has hl) hn rfl (fun LS' h' => k p e R s m args below meth c A Q mc ms C hR hQ H locs LS' hP hS (bz_l_st1 hi hc h'))
theorem bz_lstoreG {v : Int64} {i : Nat} {as t : List (Option Value)} {x y : Option Value} (hd : decode M.2.1 pc = .ok (.lstore i, 2)) (hn : i + 1 < M.2.2.2.1) (hi : as.length = i) (hc : ∀ w, as[i - 1]? = some w → bz_c2 w = false) (k : bz_V l ad K n M d r σ' (pc + 2) (as ++ some (.long v) :: none :: t) st σ) : bz_V l ad K n M d r σ' pc (as ++ x :: y :: t) (.long v :: st) σ := by
  intro p e R s m args below meth c A Q mc ms C hR hQ H locs LS hP hS hl
  exact lv_lstore C.1 C.2.1 hd (bz_l_has hl) hn rfl (fun LS' h' => k p e R s m args below meth c A Q mc ms C hR hQ H locs LS' hP hS (bz_l_st2 hi hc h'))
theorem bz_lstoreGn {v : Int64} {i : Nat} {j : Fin 4} {as t : List (Option Value)} {x y : Option Value} (hd : decode M.2.1 pc = .ok (.lstore_n j, 1)) (hj : (j : Nat) = i) (hn : i + 1 < M.2.2.2.1) (hi : as.length = i) (hc : ∀ w, as[i - 1]? = some w → bz_c2 w = false) (k : bz_V l ad K n M d r σ' (pc + 1) (as ++ some (.long v) :: none :: t) st σ) : bz_V l ad K n M d r σ' pc (as ++ x :: y :: t) (.long v :: st) σ := by
  intro p e R s m args below meth c A Q mc ms C hR hQ H locs LS hP hS hl
  exact lv_lstore_n C.1 C.2.1 hd hj (bz_l_has hl) hn rfl (fun LS' h' => k p e R s m args below meth c A Q mc ms C hR hQ H locs LS' hP hS (bz_l_st2 hi hc h'))
theorem bz_iincG {u v : Int32} {z : Int} {i : Nat} {as t : List (Option Value)} (hd : decode M.2.1 pc = .ok (.iinc i z, 3)) (hv : u + Int32.ofInt z = v) (hn : i < M.2.2.2.1) (hi : as.length = i) (hc : ∀ w, as[i - 1]? = some w → bz_c2 w = false) (k : bz_V l ad K n M d r σ' (pc + 3) (as ++ some (.int v) :: t) st σ) : bz_V l ad K n M d r σ' pc (as ++ some (.int u) :: t) st σ := by
  intro p e R s m args below meth c A Q mc ms C hR hQ H locs LS hP hS hl
  have hg : (i, Value.int u) ∈ bz_lv (as ++ some (.int u) :: t) := bz_lv_mem.mpr (by show (as ++ some (Value.int u) :: t)[i]? = _; rw [List.getElem?_append_right (by omega), hi, Nat.sub_self]; rfl)
  obtain ⟨j, hj⟩ := List.getElem?_of_mem hg
  exact lv_iinc C.1 C.2.1 hd (bz_l_has hl) hj hv hn rfl (fun LS' h' => k p e R s m args below meth c A Q mc ms C hR hQ H locs LS' hP hS (bz_l_st1 hi hc h'))
theorem bz_weak {ls' : List (Option Value)} (hw : ∀ (i : Nat) (v : Value), ls'[i]? = some (some v) → ls[i]? = some (some v)) (k : bz_V l ad K n M d r σ' pc ls' st σ) : bz_V l ad K n M d r σ' pc ls st σ := by
  intro p e R s m args below meth c A Q mc ms C hR hQ H locs LS hP hS hl
  exact k p e R s m args below meth c A Q mc ms C hR hQ H locs LS hP hS (bz_l_weak hl hw)
theorem bz_ist0 {v : Int32} {x : Option Value} {t : List (Option Value)} (hd : decode M.2.1 pc = .ok (.istore_n 0, 1)) (hn : 0 < M.2.2.2.1) (k : bz_V l ad K n M d r σ' (pc + 1) (some (.int v) :: t) st σ) : bz_V l ad K n M d r σ' pc (x :: t) (.int v :: st) σ := bz_istoreGn (as := []) hd rfl hn rfl (fun w h => by cases h) k
theorem bz_ast0 {v : Nat} {x : Option Value} {t : List (Option Value)} (hd : decode M.2.1 pc = .ok (.astore_n 0, 1)) (hn : 0 < M.2.2.2.1) (k : bz_V l ad K n M d r σ' (pc + 1) (some (.ref v) :: t) st σ) : bz_V l ad K n M d r σ' pc (x :: t) (.ref v :: st) σ := bz_astoreGn (as := []) hd rfl hn rfl (fun w h => by cases h) k
theorem bz_lst0 {v : Int64} {x y : Option Value} {t : List (Option Value)} (hd : decode M.2.1 pc = .ok (.lstore_n 0, 1)) (hn : 1 < M.2.2.2.1) (k : bz_V l ad K n M d r σ' (pc + 1) (some (.long v) :: none :: t) st σ) : bz_V l ad K n M d r σ' pc (x :: y :: t) (.long v :: st) σ := bz_lstoreGn (as := []) hd rfl hn rfl (fun w h => by cases h) k
theorem bz_iinc0 {u v : Int32} {z : Int} {t : List (Option Value)} (hd : decode M.2.1 pc = .ok (.iinc 0 z, 3)) (hv : u + Int32.ofInt z = v) (hn : 0 < M.2.2.2.1) (k : bz_V l ad K n M d r σ' (pc + 3) (some (.int v) :: t) st σ) : bz_V l ad K n M d r σ' pc (some (.int u) :: t) st σ := bz_iincG (as := []) hd hv hn rfl (fun w h => by cases h) k
theorem bz_iinc0N {a : Nat} {t : List (Option Value)} (hd : decode M.2.1 pc = .ok (.iinc 0 1, 3)) (hn : 0 < M.2.2.2.1) (k : bz_V l ad K n M d r σ' (pc + 3) (some (.int (nI (a + 1))) :: t) st σ) : bz_V l ad K n M d r σ' pc (some (.int (nI a)) :: t) st σ := bz_iinc0 hd (by rw [nI_succ]; rfl) hn k
theorem bz_idec0N {a : Nat} {t : List (Option Value)} (hd : decode M.2.1 pc = .ok (.iinc 0 (-1), 3)) (hn : 0 < M.2.2.2.1) (k : bz_V l ad K n M d r σ' (pc + 3) (some (.int (nI a)) :: t) st σ) : bz_V l ad K n M d r σ' pc (some (.int (nI (a + 1))) :: t) st σ := bz_iinc0 hd (pk_m1 a) hn k
theorem bz_ist1 {v : Int32} {x0 : Option Value} {x : Option Value} {t : List (Option Value)} (hd : decode M.2.1 pc = .ok (.istore_n 1, 1)) (hn : 1 < M.2.2.2.1) (hc : bz_c2 x0 = false) (k : bz_V l ad K n M d r σ' (pc + 1) (x0 :: some (.int v) :: t) st σ) : bz_V l ad K n M d r σ' pc (x0 :: x :: t) (.int v :: st) σ := bz_istoreGn (as := [x0]) hd rfl hn rfl (fun w h => by cases h; exact hc) k
theorem bz_ast1 {v : Nat} {x0 : Option Value} {x : Option Value} {t : List (Option Value)} (hd : decode M.2.1 pc = .ok (.astore_n 1, 1)) (hn : 1 < M.2.2.2.1) (hc : bz_c2 x0 = false) (k : bz_V l ad K n M d r σ' (pc + 1) (x0 :: some (.ref v) :: t) st σ) : bz_V l ad K n M d r σ' pc (x0 :: x :: t) (.ref v :: st) σ := bz_astoreGn (as := [x0]) hd rfl hn rfl (fun w h => by cases h; exact hc) k
theorem bz_lst1 {v : Int64} {x0 : Option Value} {x y : Option Value} {t : List (Option Value)} (hd : decode M.2.1 pc = .ok (.lstore_n 1, 1)) (hn : 2 < M.2.2.2.1) (hc : bz_c2 x0 = false) (k : bz_V l ad K n M d r σ' (pc + 1) (x0 :: some (.long v) :: none :: t) st σ) : bz_V l ad K n M d r σ' pc (x0 :: x :: y :: t) (.long v :: st) σ := bz_lstoreGn (as := [x0]) hd rfl hn rfl (fun w h => by cases h; exact hc) k
theorem bz_iinc1 {u v : Int32} {z : Int} {x0 : Option Value} {t : List (Option Value)} (hd : decode M.2.1 pc = .ok (.iinc 1 z, 3)) (hv : u + Int32.ofInt z = v) (hn : 1 < M.2.2.2.1) (hc : bz_c2 x0 = false) (k : bz_V l ad K n M d r σ' (pc + 3) (x0 :: some (.int v) :: t) st σ) : bz_V l ad K n M d r σ' pc (x0 :: some (.int u) :: t) st σ := bz_iincG (as := [x0]) hd hv hn rfl (fun w h => by cases h; exact hc) k
theorem bz_iinc1N {a : Nat} {x0 : Option Value} {t : List (Option Value)} (hd : decode M.2.1 pc = .ok (.iinc 1 1, 3)) (hn : 1 < M.2.2.2.1) (hc : bz_c2 x0 = false) (k : bz_V l ad K n M d r σ' (pc + 3) (x0 :: some (.int (nI (a + 1))) :: t) st σ) : bz_V l ad K n M d r σ' pc (x0 :: some (.int (nI a)) :: t) st σ := bz_iinc1 hd (by rw [nI_succ]; rfl) hn hc k
theorem bz_idec1N {a : Nat} {x0 : Option Value} {t : List (Option Value)} (hd : decode M.2.1 pc = .ok (.iinc 1 (-1), 3)) (hn : 1 < M.2.2.2.1) (hc : bz_c2 x0 = false) (k : bz_V l ad K n M d r σ' (pc + 3) (x0 :: some (.int (nI a)) :: t) st σ) : bz_V l ad K n M d r σ' pc (x0 :: some (.int (nI (a + 1))) :: t) st σ := bz_iinc1 hd (pk_m1 a) hn hc k
theorem bz_ist2 {v : Int32} {x0 x1 : Option Value} {x : Option Value} {t : List (Option Value)} (hd : decode M.2.1 pc = .ok (.istore_n 2, 1)) (hn : 2 < M.2.2.2.1) (hc : bz_c2 x1 = false) (k : bz_V l ad K n M d r σ' (pc + 1) (x0 :: x1 :: some (.int v) :: t) st σ) : bz_V l ad K n M d r σ' pc (x0 :: x1 :: x :: t) (.int v :: st) σ := bz_istoreGn (as := [x0, x1]) hd rfl hn rfl (fun w h => by cases h; exact hc) k
theorem bz_ast2 {v : Nat} {x0 x1 : Option Value} {x : Option Value} {t : List (Option Value)} (hd : decode M.2.1 pc = .ok (.astore_n 2, 1)) (hn : 2 < M.2.2.2.1) (hc : bz_c2 x1 = false) (k : bz_V l ad K n M d r σ' (pc + 1) (x0 :: x1 :: some (.ref v) :: t) st σ) : bz_V l ad K n M d r σ' pc (x0 :: x1 :: x :: t) (.ref v :: st) σ := bz_astoreGn (as := [x0, x1]) hd rfl hn rfl (fun w h => by cases h; exact hc) k
theorem bz_lst2 {v : Int64} {x0 x1 : Option Value} {x y : Option Value} {t : List (Option Value)} (hd : decode M.2.1 pc = .ok (.lstore_n 2, 1)) (hn : 3 < M.2.2.2.1) (hc : bz_c2 x1 = false) (k : bz_V l ad K n M d r σ' (pc + 1) (x0 :: x1 :: some (.long v) :: none :: t) st σ) : bz_V l ad K n M d r σ' pc (x0 :: x1 :: x :: y :: t) (.long v :: st) σ := bz_lstoreGn (as := [x0, x1]) hd rfl hn rfl (fun w h => by cases h; exact hc) k
theorem bz_iinc2 {u v : Int32} {z : Int} {x0 x1 : Option Value} {t : List (Option Value)} (hd : decode M.2.1 pc = .ok (.iinc 2 z, 3)) (hv : u + Int32.ofInt z = v) (hn : 2 < M.2.2.2.1) (hc : bz_c2 x1 = false) (k : bz_V l ad K n M d r σ' (pc + 3) (x0 :: x1 :: some (.int v) :: t) st σ) : bz_V l ad K n M d r σ' pc (x0 :: x1 :: some (.int u) :: t) st σ := bz_iincG (as := [x0, x1]) hd hv hn rfl (fun w h => by cases h; exact hc) k
theorem bz_iinc2N {a : Nat} {x0 x1 : Option Value} {t : List (Option Value)} (hd : decode M.2.1 pc = .ok (.iinc 2 1, 3)) (hn : 2 < M.2.2.2.1) (hc : bz_c2 x1 = false) (k : bz_V l ad K n M d r σ' (pc + 3) (x0 :: x1 :: some (.int (nI (a + 1))) :: t) st σ) : bz_V l ad K n M d r σ' pc (x0 :: x1 :: some (.int (nI a)) :: t) st σ := bz_iinc2 hd (by rw [nI_succ]; rfl) hn hc k
theorem bz_idec2N {a : Nat} {x0 x1 : Option Value} {t : List (Option Value)} (hd : decode M.2.1 pc = .ok (.iinc 2 (-1), 3)) (hn : 2 < M.2.2.2.1) (hc : bz_c2 x1 = false) (k : bz_V l ad K n M d r σ' (pc + 3) (x0 :: x1 :: some (.int (nI a)) :: t) st σ) : bz_V l ad K n M d r σ' pc (x0 :: x1 :: some (.int (nI (a + 1))) :: t) st σ := bz_iinc2 hd (pk_m1 a) hn hc k
theorem bz_ist3 {v : Int32} {x0 x1 x2 : Option Value} {x : Option Value} {t : List (Option Value)} (hd : decode M.2.1 pc = .ok (.istore_n 3, 1)) (hn : 3 < M.2.2.2.1) (hc : bz_c2 x2 = false) (k : bz_V l ad K n M d r σ' (pc + 1) (x0 :: x1 :: x2 :: some (.int v) :: t) st σ) : bz_V l ad K n M d r σ' pc (x0 :: x1 :: x2 :: x :: t) (.int v :: st) σ := bz_istoreGn (as := [x0, x1, x2]) hd rfl hn rfl (fun w h => by cases h; exact hc) k
theorem bz_ast3 {v : Nat} {x0 x1 x2 : Option Value} {x : Option Value} {t : List (Option Value)} (hd : decode M.2.1 pc = .ok (.astore_n 3, 1)) (hn : 3 < M.2.2.2.1) (hc : bz_c2 x2 = false) (k : bz_V l ad K n M d r σ' (pc + 1) (x0 :: x1 :: x2 :: some (.ref v) :: t) st σ) : bz_V l ad K n M d r σ' pc (x0 :: x1 :: x2 :: x :: t) (.ref v :: st) σ := bz_astoreGn (as := [x0, x1, x2]) hd rfl hn rfl (fun w h => by cases h; exact hc) k
theorem bz_lst3 {v : Int64} {x0 x1 x2 : Option Value} {x y : Option Value} {t : List (Option Value)} (hd : decode M.2.1 pc = .ok (.lstore_n 3, 1)) (hn : 4 < M.2.2.2.1) (hc : bz_c2 x2 = false) (k : bz_V l ad K n M d r σ' (pc + 1) (x0 :: x1 :: x2 :: some (.long v) :: none :: t) st σ) : bz_V l ad K n M d r σ' pc (x0 :: x1 :: x2 :: x :: y :: t) (.long v :: st) σ := bz_lstoreGn (as := [x0, x1, x2]) hd rfl hn rfl (fun w h => by cases h; exact hc) k
theorem bz_iinc3 {u v : Int32} {z : Int} {x0 x1 x2 : Option Value} {t : List (Option Value)} (hd : decode M.2.1 pc = .ok (.iinc 3 z, 3)) (hv : u + Int32.ofInt z = v) (hn : 3 < M.2.2.2.1) (hc : bz_c2 x2 = false) (k : bz_V l ad K n M d r σ' (pc + 3) (x0 :: x1 :: x2 :: some (.int v) :: t) st σ) : bz_V l ad K n M d r σ' pc (x0 :: x1 :: x2 :: some (.int u) :: t) st σ := bz_iincG (as := [x0, x1, x2]) hd hv hn rfl (fun w h => by cases h; exact hc) k
theorem bz_iinc3N {a : Nat} {x0 x1 x2 : Option Value} {t : List (Option Value)} (hd : decode M.2.1 pc = .ok (.iinc 3 1, 3)) (hn : 3 < M.2.2.2.1) (hc : bz_c2 x2 = false) (k : bz_V l ad K n M d r σ' (pc + 3) (x0 :: x1 :: x2 :: some (.int (nI (a + 1))) :: t) st σ) : bz_V l ad K n M d r σ' pc (x0 :: x1 :: x2 :: some (.int (nI a)) :: t) st σ := bz_iinc3 hd (by rw [nI_succ]; rfl) hn hc k
theorem bz_idec3N {a : Nat} {x0 x1 x2 : Option Value} {t : List (Option Value)} (hd : decode M.2.1 pc = .ok (.iinc 3 (-1), 3)) (hn : 3 < M.2.2.2.1) (hc : bz_c2 x2 = false) (k : bz_V l ad K n M d r σ' (pc + 3) (x0 :: x1 :: x2 :: some (.int (nI a)) :: t) st σ) : bz_V l ad K n M d r σ' pc (x0 :: x1 :: x2 :: some (.int (nI (a + 1))) :: t) st σ := bz_iinc3 hd (pk_m1 a) hn hc k
theorem bz_ist4 {v : Int32} {x0 x1 x2 x3 : Option Value} {x : Option Value} {t : List (Option Value)} (hd : decode M.2.1 pc = .ok (.istore 4, 2)) (hn : 4 < M.2.2.2.1) (hc : bz_c2 x3 = false) (k : bz_V l ad K n M d r σ' (pc + 2) (x0 :: x1 :: x2 :: x3 :: some (.int v) :: t) st σ) : bz_V l ad K n M d r σ' pc (x0 :: x1 :: x2 :: x3 :: x :: t) (.int v :: st) σ := bz_istoreG (as := [x0, x1, x2, x3]) hd hn rfl (fun w h => by cases h; exact hc) k
theorem bz_ast4 {v : Nat} {x0 x1 x2 x3 : Option Value} {x : Option Value} {t : List (Option Value)} (hd : decode M.2.1 pc = .ok (.astore 4, 2)) (hn : 4 < M.2.2.2.1) (hc : bz_c2 x3 = false) (k : bz_V l ad K n M d r σ' (pc + 2) (x0 :: x1 :: x2 :: x3 :: some (.ref v) :: t) st σ) : bz_V l ad K n M d r σ' pc (x0 :: x1 :: x2 :: x3 :: x :: t) (.ref v :: st) σ := bz_astoreG (as := [x0, x1, x2, x3]) hd hn rfl (fun w h => by cases h; exact hc) k
theorem bz_lst4 {v : Int64} {x0 x1 x2 x3 : Option Value} {x y : Option Value} {t : List (Option Value)} (hd : decode M.2.1 pc = .ok (.lstore 4, 2)) (hn : 5 < M.2.2.2.1) (hc : bz_c2 x3 = false) (k : bz_V l ad K n M d r σ' (pc + 2) (x0 :: x1 :: x2 :: x3 :: some (.long v) :: none :: t) st σ) : bz_V l ad K n M d r σ' pc (x0 :: x1 :: x2 :: x3 :: x :: y :: t) (.long v :: st) σ := bz_lstoreG (as := [x0, x1, x2, x3]) hd hn rfl (fun w h => by cases h; exact hc) k
theorem bz_iinc4 {u v : Int32} {z : Int} {x0 x1 x2 x3 : Option Value} {t : List (Option Value)} (hd : decode M.2.1 pc = .ok (.iinc 4 z, 3)) (hv : u + Int32.ofInt z = v) (hn : 4 < M.2.2.2.1) (hc : bz_c2 x3 = false) (k : bz_V l ad K n M d r σ' (pc + 3) (x0 :: x1 :: x2 :: x3 :: some (.int v) :: t) st σ) : bz_V l ad K n M d r σ' pc (x0 :: x1 :: x2 :: x3 :: some (.int u) :: t) st σ := bz_iincG (as := [x0, x1, x2, x3]) hd hv hn rfl (fun w h => by cases h; exact hc) k
theorem bz_iinc4N {a : Nat} {x0 x1 x2 x3 : Option Value} {t : List (Option Value)} (hd : decode M.2.1 pc = .ok (.iinc 4 1, 3)) (hn : 4 < M.2.2.2.1) (hc : bz_c2 x3 = false) (k : bz_V l ad K n M d r σ' (pc + 3) (x0 :: x1 :: x2 :: x3 :: some (.int (nI (a + 1))) :: t) st σ) : bz_V l ad K n M d r σ' pc (x0 :: x1 :: x2 :: x3 :: some (.int (nI a)) :: t) st σ := bz_iinc4 hd (by rw [nI_succ]; rfl) hn hc k
theorem bz_idec4N {a : Nat} {x0 x1 x2 x3 : Option Value} {t : List (Option Value)} (hd : decode M.2.1 pc = .ok (.iinc 4 (-1), 3)) (hn : 4 < M.2.2.2.1) (hc : bz_c2 x3 = false) (k : bz_V l ad K n M d r σ' (pc + 3) (x0 :: x1 :: x2 :: x3 :: some (.int (nI a)) :: t) st σ) : bz_V l ad K n M d r σ' pc (x0 :: x1 :: x2 :: x3 :: some (.int (nI (a + 1))) :: t) st σ := bz_iinc4 hd (pk_m1 a) hn hc k
theorem bz_ist5 {v : Int32} {x0 x1 x2 x3 x4 : Option Value} {x : Option Value} {t : List (Option Value)} (hd : decode M.2.1 pc = .ok (.istore 5, 2)) (hn : 5 < M.2.2.2.1) (hc : bz_c2 x4 = false) (k : bz_V l ad K n M d r σ' (pc + 2) (x0 :: x1 :: x2 :: x3 :: x4 :: some (.int v) :: t) st σ) : bz_V l ad K n M d r σ' pc (x0 :: x1 :: x2 :: x3 :: x4 :: x :: t) (.int v :: st) σ := bz_istoreG (as := [x0, x1, x2, x3, x4]) hd hn rfl (fun w h => by cases h; exact hc) k
theorem bz_ast5 {v : Nat} {x0 x1 x2 x3 x4 : Option Value} {x : Option Value} {t : List (Option Value)} (hd : decode M.2.1 pc = .ok (.astore 5, 2)) (hn : 5 < M.2.2.2.1) (hc : bz_c2 x4 = false) (k : bz_V l ad K n M d r σ' (pc + 2) (x0 :: x1 :: x2 :: x3 :: x4 :: some (.ref v) :: t) st σ) : bz_V l ad K n M d r σ' pc (x0 :: x1 :: x2 :: x3 :: x4 :: x :: t) (.ref v :: st) σ := bz_astoreG (as := [x0, x1, x2, x3, x4]) hd hn rfl (fun w h => by cases h; exact hc) k
theorem bz_lst5 {v : Int64} {x0 x1 x2 x3 x4 : Option Value} {x y : Option Value} {t : List (Option Value)} (hd : decode M.2.1 pc = .ok (.lstore 5, 2)) (hn : 6 < M.2.2.2.1) (hc : bz_c2 x4 = false) (k : bz_V l ad K n M d r σ' (pc + 2) (x0 :: x1 :: x2 :: x3 :: x4 :: some (.long v) :: none :: t) st σ) : bz_V l ad K n M d r σ' pc (x0 :: x1 :: x2 :: x3 :: x4 :: x :: y :: t) (.long v :: st) σ := bz_lstoreG (as := [x0, x1, x2, x3, x4]) hd hn rfl (fun w h => by cases h; exact hc) k
theorem bz_iinc5 {u v : Int32} {z : Int} {x0 x1 x2 x3 x4 : Option Value} {t : List (Option Value)} (hd : decode M.2.1 pc = .ok (.iinc 5 z, 3)) (hv : u + Int32.ofInt z = v) (hn : 5 < M.2.2.2.1) (hc : bz_c2 x4 = false) (k : bz_V l ad K n M d r σ' (pc + 3) (x0 :: x1 :: x2 :: x3 :: x4 :: some (.int v) :: t) st σ) : bz_V l ad K n M d r σ' pc (x0 :: x1 :: x2 :: x3 :: x4 :: some (.int u) :: t) st σ := bz_iincG (as := [x0, x1, x2, x3, x4]) hd hv hn rfl (fun w h => by cases h; exact hc) k
theorem bz_iinc5N {a : Nat} {x0 x1 x2 x3 x4 : Option Value} {t : List (Option Value)} (hd : decode M.2.1 pc = .ok (.iinc 5 1, 3)) (hn : 5 < M.2.2.2.1) (hc : bz_c2 x4 = false) (k : bz_V l ad K n M d r σ' (pc + 3) (x0 :: x1 :: x2 :: x3 :: x4 :: some (.int (nI (a + 1))) :: t) st σ) : bz_V l ad K n M d r σ' pc (x0 :: x1 :: x2 :: x3 :: x4 :: some (.int (nI a)) :: t) st σ := bz_iinc5 hd (by rw [nI_succ]; rfl) hn hc k
theorem bz_idec5N {a : Nat} {x0 x1 x2 x3 x4 : Option Value} {t : List (Option Value)} (hd : decode M.2.1 pc = .ok (.iinc 5 (-1), 3)) (hn : 5 < M.2.2.2.1) (hc : bz_c2 x4 = false) (k : bz_V l ad K n M d r σ' (pc + 3) (x0 :: x1 :: x2 :: x3 :: x4 :: some (.int (nI a)) :: t) st σ) : bz_V l ad K n M d r σ' pc (x0 :: x1 :: x2 :: x3 :: x4 :: some (.int (nI (a + 1))) :: t) st σ := bz_iinc5 hd (pk_m1 a) hn hc k
theorem bz_ist6 {v : Int32} {x0 x1 x2 x3 x4 x5 : Option Value} {x : Option Value} {t : List (Option Value)} (hd : decode M.2.1 pc = .ok (.istore 6, 2)) (hn : 6 < M.2.2.2.1) (hc : bz_c2 x5 = false) (k : bz_V l ad K n M d r σ' (pc + 2) (x0 :: x1 :: x2 :: x3 :: x4 :: x5 :: some (.int v) :: t) st σ) : bz_V l ad K n M d r σ' pc (x0 :: x1 :: x2 :: x3 :: x4 :: x5 :: x :: t) (.int v :: st) σ := bz_istoreG (as := [x0, x1, x2, x3, x4, x5]) hd hn rfl (fun w h => by cases h; exact hc) k
theorem bz_ast6 {v : Nat} {x0 x1 x2 x3 x4 x5 : Option Value} {x : Option Value} {t : List (Option Value)} (hd : decode M.2.1 pc = .ok (.astore 6, 2)) (hn : 6 < M.2.2.2.1) (hc : bz_c2 x5 = false) (k : bz_V l ad K n M d r σ' (pc + 2) (x0 :: x1 :: x2 :: x3 :: x4 :: x5 :: some (.ref v) :: t) st σ) : bz_V l ad K n M d r σ' pc (x0 :: x1 :: x2 :: x3 :: x4 :: x5 :: x :: t) (.ref v :: st) σ := bz_astoreG (as := [x0, x1, x2, x3, x4, x5]) hd hn rfl (fun w h => by cases h; exact hc) k
theorem bz_lst6 {v : Int64} {x0 x1 x2 x3 x4 x5 : Option Value} {x y : Option Value} {t : List (Option Value)} (hd : decode M.2.1 pc = .ok (.lstore 6, 2)) (hn : 7 < M.2.2.2.1) (hc : bz_c2 x5 = false) (k : bz_V l ad K n M d r σ' (pc + 2) (x0 :: x1 :: x2 :: x3 :: x4 :: x5 :: some (.long v) :: none :: t) st σ) : bz_V l ad K n M d r σ' pc (x0 :: x1 :: x2 :: x3 :: x4 :: x5 :: x :: y :: t) (.long v :: st) σ := bz_lstoreG (as := [x0, x1, x2, x3, x4, x5]) hd hn rfl (fun w h => by cases h; exact hc) k
theorem bz_iinc6 {u v : Int32} {z : Int} {x0 x1 x2 x3 x4 x5 : Option Value} {t : List (Option Value)} (hd : decode M.2.1 pc = .ok (.iinc 6 z, 3)) (hv : u + Int32.ofInt z = v) (hn : 6 < M.2.2.2.1) (hc : bz_c2 x5 = false) (k : bz_V l ad K n M d r σ' (pc + 3) (x0 :: x1 :: x2 :: x3 :: x4 :: x5 :: some (.int v) :: t) st σ) : bz_V l ad K n M d r σ' pc (x0 :: x1 :: x2 :: x3 :: x4 :: x5 :: some (.int u) :: t) st σ := bz_iincG (as := [x0, x1, x2, x3, x4, x5]) hd hv hn rfl (fun w h => by cases h; exact hc) k
theorem bz_iinc6N {a : Nat} {x0 x1 x2 x3 x4 x5 : Option Value} {t : List (Option Value)} (hd : decode M.2.1 pc = .ok (.iinc 6 1, 3)) (hn : 6 < M.2.2.2.1) (hc : bz_c2 x5 = false) (k : bz_V l ad K n M d r σ' (pc + 3) (x0 :: x1 :: x2 :: x3 :: x4 :: x5 :: some (.int (nI (a + 1))) :: t) st σ) : bz_V l ad K n M d r σ' pc (x0 :: x1 :: x2 :: x3 :: x4 :: x5 :: some (.int (nI a)) :: t) st σ := bz_iinc6 hd (by rw [nI_succ]; rfl) hn hc k
theorem bz_idec6N {a : Nat} {x0 x1 x2 x3 x4 x5 : Option Value} {t : List (Option Value)} (hd : decode M.2.1 pc = .ok (.iinc 6 (-1), 3)) (hn : 6 < M.2.2.2.1) (hc : bz_c2 x5 = false) (k : bz_V l ad K n M d r σ' (pc + 3) (x0 :: x1 :: x2 :: x3 :: x4 :: x5 :: some (.int (nI a)) :: t) st σ) : bz_V l ad K n M d r σ' pc (x0 :: x1 :: x2 :: x3 :: x4 :: x5 :: some (.int (nI (a + 1))) :: t) st σ := bz_iinc6 hd (pk_m1 a) hn hc k
theorem bz_ist7 {v : Int32} {x0 x1 x2 x3 x4 x5 x6 : Option Value} {x : Option Value} {t : List (Option Value)} (hd : decode M.2.1 pc = .ok (.istore 7, 2)) (hn : 7 < M.2.2.2.1) (hc : bz_c2 x6 = false) (k : bz_V l ad K n M d r σ' (pc + 2) (x0 :: x1 :: x2 :: x3 :: x4 :: x5 :: x6 :: some (.int v) :: t) st σ) : bz_V l ad K n M d r σ' pc (x0 :: x1 :: x2 :: x3 :: x4 :: x5 :: x6 :: x :: t) (.int v :: st) σ := bz_istoreG (as := [x0, x1, x2, x3, x4, x5, x6]) hd hn rfl (fun w h => by cases h; exact hc) k
theorem bz_ast7 {v : Nat} {x0 x1 x2 x3 x4 x5 x6 : Option Value} {x : Option Value} {t : List (Option Value)} (hd : decode M.2.1 pc = .ok (.astore 7, 2)) (hn : 7 < M.2.2.2.1) (hc : bz_c2 x6 = false) (k : bz_V l ad K n M d r σ' (pc + 2) (x0 :: x1 :: x2 :: x3 :: x4 :: x5 :: x6 :: some (.ref v) :: t) st σ) : bz_V l ad K n M d r σ' pc (x0 :: x1 :: x2 :: x3 :: x4 :: x5 :: x6 :: x :: t) (.ref v :: st) σ := bz_astoreG (as := [x0, x1, x2, x3, x4, x5, x6]) hd hn rfl (fun w h => by cases h; exact hc) k
theorem bz_lst7 {v : Int64} {x0 x1 x2 x3 x4 x5 x6 : Option Value} {x y : Option Value} {t : List (Option Value)} (hd : decode M.2.1 pc = .ok (.lstore 7, 2)) (hn : 8 < M.2.2.2.1) (hc : bz_c2 x6 = false) (k : bz_V l ad K n M d r σ' (pc + 2) (x0 :: x1 :: x2 :: x3 :: x4 :: x5 :: x6 :: some (.long v) :: none :: t) st σ) : bz_V l ad K n M d r σ' pc (x0 :: x1 :: x2 :: x3 :: x4 :: x5 :: x6 :: x :: y :: t) (.long v :: st) σ := bz_lstoreG (as := [x0, x1, x2, x3, x4, x5, x6]) hd hn rfl (fun w h => by cases h; exact hc) k
theorem bz_iinc7 {u v : Int32} {z : Int} {x0 x1 x2 x3 x4 x5 x6 : Option Value} {t : List (Option Value)} (hd : decode M.2.1 pc = .ok (.iinc 7 z, 3)) (hv : u + Int32.ofInt z = v) (hn : 7 < M.2.2.2.1) (hc : bz_c2 x6 = false) (k : bz_V l ad K n M d r σ' (pc + 3) (x0 :: x1 :: x2 :: x3 :: x4 :: x5 :: x6 :: some (.int v) :: t) st σ) : bz_V l ad K n M d r σ' pc (x0 :: x1 :: x2 :: x3 :: x4 :: x5 :: x6 :: some (.int u) :: t) st σ := bz_iincG (as := [x0, x1, x2, x3, x4, x5, x6]) hd hv hn rfl (fun w h => by cases h; exact hc) k
theorem bz_iinc7N {a : Nat} {x0 x1 x2 x3 x4 x5 x6 : Option Value} {t : List (Option Value)} (hd : decode M.2.1 pc = .ok (.iinc 7 1, 3)) (hn : 7 < M.2.2.2.1) (hc : bz_c2 x6 = false) (k : bz_V l ad K n M d r σ' (pc + 3) (x0 :: x1 :: x2 :: x3 :: x4 :: x5 :: x6 :: some (.int (nI (a + 1))) :: t) st σ) : bz_V l ad K n M d r σ' pc (x0 :: x1 :: x2 :: x3 :: x4 :: x5 :: x6 :: some (.int (nI a)) :: t) st σ := bz_iinc7 hd (by rw [nI_succ]; rfl) hn hc k
theorem bz_idec7N {a : Nat} {x0 x1 x2 x3 x4 x5 x6 : Option Value} {t : List (Option Value)} (hd : decode M.2.1 pc = .ok (.iinc 7 (-1), 3)) (hn : 7 < M.2.2.2.1) (hc : bz_c2 x6 = false) (k : bz_V l ad K n M d r σ' (pc + 3) (x0 :: x1 :: x2 :: x3 :: x4 :: x5 :: x6 :: some (.int (nI a)) :: t) st σ) : bz_V l ad K n M d r σ' pc (x0 :: x1 :: x2 :: x3 :: x4 :: x5 :: x6 :: some (.int (nI (a + 1))) :: t) st σ := bz_iinc7 hd (pk_m1 a) hn hc k
theorem bz_ist8 {v : Int32} {x0 x1 x2 x3 x4 x5 x6 x7 : Option Value} {x : Option Value} {t : List (Option Value)} (hd : decode M.2.1 pc = .ok (.istore 8, 2)) (hn : 8 < M.2.2.2.1) (hc : bz_c2 x7 = false) (k : bz_V l ad K n M d r σ' (pc + 2) (x0 :: x1 :: x2 :: x3 :: x4 :: x5 :: x6 :: x7 :: some (.int v) :: t) st σ) : bz_V l ad K n M d r σ' pc (x0 :: x1 :: x2 :: x3 :: x4 :: x5 :: x6 :: x7 :: x :: t) (.int v :: st) σ := bz_istoreG (as := [x0, x1, x2, x3, x4, x5, x6, x7]) hd hn rfl (fun w h => by cases h; exact hc) k
theorem bz_ast8 {v : Nat} {x0 x1 x2 x3 x4 x5 x6 x7 : Option Value} {x : Option Value} {t : List (Option Value)} (hd : decode M.2.1 pc = .ok (.astore 8, 2)) (hn : 8 < M.2.2.2.1) (hc : bz_c2 x7 = false) (k : bz_V l ad K n M d r σ' (pc + 2) (x0 :: x1 :: x2 :: x3 :: x4 :: x5 :: x6 :: x7 :: some (.ref v) :: t) st σ) : bz_V l ad K n M d r σ' pc (x0 :: x1 :: x2 :: x3 :: x4 :: x5 :: x6 :: x7 :: x :: t) (.ref v :: st) σ := bz_astoreG (as := [x0, x1, x2, x3, x4, x5, x6, x7]) hd hn rfl (fun w h => by cases h; exact hc) k
theorem bz_lst8 {v : Int64} {x0 x1 x2 x3 x4 x5 x6 x7 : Option Value} {x y : Option Value} {t : List (Option Value)} (hd : decode M.2.1 pc = .ok (.lstore 8, 2)) (hn : 9 < M.2.2.2.1) (hc : bz_c2 x7 = false) (k : bz_V l ad K n M d r σ' (pc + 2) (x0 :: x1 :: x2 :: x3 :: x4 :: x5 :: x6 :: x7 :: some (.long v) :: none :: t) st σ) : bz_V l ad K n M d r σ' pc (x0 :: x1 :: x2 :: x3 :: x4 :: x5 :: x6 :: x7 :: x :: y :: t) (.long v :: st) σ := bz_lstoreG (as := [x0, x1, x2, x3, x4, x5, x6, x7]) hd hn rfl (fun w h => by cases h; exact hc) k
theorem bz_iinc8 {u v : Int32} {z : Int} {x0 x1 x2 x3 x4 x5 x6 x7 : Option Value} {t : List (Option Value)} (hd : decode M.2.1 pc = .ok (.iinc 8 z, 3)) (hv : u + Int32.ofInt z = v) (hn : 8 < M.2.2.2.1) (hc : bz_c2 x7 = false) (k : bz_V l ad K n M d r σ' (pc + 3) (x0 :: x1 :: x2 :: x3 :: x4 :: x5 :: x6 :: x7 :: some (.int v) :: t) st σ) : bz_V l ad K n M d r σ' pc (x0 :: x1 :: x2 :: x3 :: x4 :: x5 :: x6 :: x7 :: some (.int u) :: t) st σ := bz_iincG (as := [x0, x1, x2, x3, x4, x5, x6, x7]) hd hv hn rfl (fun w h => by cases h; exact hc) k
theorem bz_iinc8N {a : Nat} {x0 x1 x2 x3 x4 x5 x6 x7 : Option Value} {t : List (Option Value)} (hd : decode M.2.1 pc = .ok (.iinc 8 1, 3)) (hn : 8 < M.2.2.2.1) (hc : bz_c2 x7 = false) (k : bz_V l ad K n M d r σ' (pc + 3) (x0 :: x1 :: x2 :: x3 :: x4 :: x5 :: x6 :: x7 :: some (.int (nI (a + 1))) :: t) st σ) : bz_V l ad K n M d r σ' pc (x0 :: x1 :: x2 :: x3 :: x4 :: x5 :: x6 :: x7 :: some (.int (nI a)) :: t) st σ := bz_iinc8 hd (by rw [nI_succ]; rfl) hn hc k
theorem bz_idec8N {a : Nat} {x0 x1 x2 x3 x4 x5 x6 x7 : Option Value} {t : List (Option Value)} (hd : decode M.2.1 pc = .ok (.iinc 8 (-1), 3)) (hn : 8 < M.2.2.2.1) (hc : bz_c2 x7 = false) (k : bz_V l ad K n M d r σ' (pc + 3) (x0 :: x1 :: x2 :: x3 :: x4 :: x5 :: x6 :: x7 :: some (.int (nI a)) :: t) st σ) : bz_V l ad K n M d r σ' pc (x0 :: x1 :: x2 :: x3 :: x4 :: x5 :: x6 :: x7 :: some (.int (nI (a + 1))) :: t) st σ := bz_iinc8 hd (pk_m1 a) hn hc k
theorem bz_ist9 {v : Int32} {x0 x1 x2 x3 x4 x5 x6 x7 x8 : Option Value} {x : Option Value} {t : List (Option Value)} (hd : decode M.2.1 pc = .ok (.istore 9, 2)) (hn : 9 < M.2.2.2.1) (hc : bz_c2 x8 = false) (k : bz_V l ad K n M d r σ' (pc + 2) (x0 :: x1 :: x2 :: x3 :: x4 :: x5 :: x6 :: x7 :: x8 :: some (.int v) :: t) st σ) : bz_V l ad K n M d r σ' pc (x0 :: x1 :: x2 :: x3 :: x4 :: x5 :: x6 :: x7 :: x8 :: x :: t) (.int v :: st) σ := bz_istoreG (as := [x0, x1, x2, x3, x4, x5, x6, x7, x8]) hd hn rfl (fun w h => by cases h; exact hc) k
theorem bz_ast9 {v : Nat} {x0 x1 x2 x3 x4 x5 x6 x7 x8 : Option Value} {x : Option Value} {t : List (Option Value)} (hd : decode M.2.1 pc = .ok (.astore 9, 2)) (hn : 9 < M.2.2.2.1) (hc : bz_c2 x8 = false) (k : bz_V l ad K n M d r σ' (pc + 2) (x0 :: x1 :: x2 :: x3 :: x4 :: x5 :: x6 :: x7 :: x8 :: some (.ref v) :: t) st σ) : bz_V l ad K n M d r σ' pc (x0 :: x1 :: x2 :: x3 :: x4 :: x5 :: x6 :: x7 :: x8 :: x :: t) (.ref v :: st) σ := bz_astoreG (as := [x0, x1, x2, x3, x4, x5, x6, x7, x8]) hd hn rfl (fun w h => by cases h; exact hc) k
theorem bz_lst9 {v : Int64} {x0 x1 x2 x3 x4 x5 x6 x7 x8 : Option Value} {x y : Option Value} {t : List (Option Value)} (hd : decode M.2.1 pc = .ok (.lstore 9, 2)) (hn : 10 < M.2.2.2.1) (hc : bz_c2 x8 = false) (k : bz_V l ad K n M d r σ' (pc + 2) (x0 :: x1 :: x2 :: x3 :: x4 :: x5 :: x6 :: x7 :: x8 :: some (.long v) :: none :: t) st σ) : bz_V l ad K n M d r σ' pc (x0 :: x1 :: x2 :: x3 :: x4 :: x5 :: x6 :: x7 :: x8 :: x :: y :: t) (.long v :: st) σ := bz_lstoreG (as := [x0, x1, x2, x3, x4, x5, x6, x7, x8]) hd hn rfl (fun w h => by cases h; exact hc) k
theorem bz_iinc9 {u v : Int32} {z : Int} {x0 x1 x2 x3 x4 x5 x6 x7 x8 : Option Value} {t : List (Option Value)} (hd : decode M.2.1 pc = .ok (.iinc 9 z, 3)) (hv : u + Int32.ofInt z = v) (hn : 9 < M.2.2.2.1) (hc : bz_c2 x8 = false) (k : bz_V l ad K n M d r σ' (pc + 3) (x0 :: x1 :: x2 :: x3 :: x4 :: x5 :: x6 :: x7 :: x8 :: some (.int v) :: t) st σ) : bz_V l ad K n M d r σ' pc (x0 :: x1 :: x2 :: x3 :: x4 :: x5 :: x6 :: x7 :: x8 :: some (.int u) :: t) st σ := bz_iincG (as := [x0, x1, x2, x3, x4, x5, x6, x7, x8]) hd hv hn rfl (fun w h => by cases h; exact hc) k
theorem bz_iinc9N {a : Nat} {x0 x1 x2 x3 x4 x5 x6 x7 x8 : Option Value} {t : List (Option Value)} (hd : decode M.2.1 pc = .ok (.iinc 9 1, 3)) (hn : 9 < M.2.2.2.1) (hc : bz_c2 x8 = false) (k : bz_V l ad K n M d r σ' (pc + 3) (x0 :: x1 :: x2 :: x3 :: x4 :: x5 :: x6 :: x7 :: x8 :: some (.int (nI (a + 1))) :: t) st σ) : bz_V l ad K n M d r σ' pc (x0 :: x1 :: x2 :: x3 :: x4 :: x5 :: x6 :: x7 :: x8 :: some (.int (nI a)) :: t) st σ := bz_iinc9 hd (by rw [nI_succ]; rfl) hn hc k
theorem bz_idec9N {a : Nat} {x0 x1 x2 x3 x4 x5 x6 x7 x8 : Option Value} {t : List (Option Value)} (hd : decode M.2.1 pc = .ok (.iinc 9 (-1), 3)) (hn : 9 < M.2.2.2.1) (hc : bz_c2 x8 = false) (k : bz_V l ad K n M d r σ' (pc + 3) (x0 :: x1 :: x2 :: x3 :: x4 :: x5 :: x6 :: x7 :: x8 :: some (.int (nI a)) :: t) st σ) : bz_V l ad K n M d r σ' pc (x0 :: x1 :: x2 :: x3 :: x4 :: x5 :: x6 :: x7 :: x8 :: some (.int (nI (a + 1))) :: t) st σ := bz_iinc9 hd (pk_m1 a) hn hc k
theorem bz_ist10 {v : Int32} {x0 x1 x2 x3 x4 x5 x6 x7 x8 x9 : Option Value} {x : Option Value} {t : List (Option Value)} (hd : decode M.2.1 pc = .ok (.istore 10, 2)) (hn : 10 < M.2.2.2.1) (hc : bz_c2 x9 = false) (k : bz_V l ad K n M d r σ' (pc + 2) (x0 :: x1 :: x2 :: x3 :: x4 :: x5 :: x6 :: x7 :: x8 :: x9 :: some (.int v) :: t) st σ) : bz_V l ad K n M d r σ' pc (x0 :: x1 :: x2 :: x3 :: x4 :: x5 :: x6 :: x7 :: x8 :: x9 :: x :: t) (.int v :: st) σ := bz_istoreG (as := [x0, x1, x2, x3, x4, x5, x6, x7, x8, x9]) hd hn rfl (fun w h => by cases h; exact hc) k
theorem bz_ast10 {v : Nat} {x0 x1 x2 x3 x4 x5 x6 x7 x8 x9 : Option Value} {x : Option Value} {t : List (Option Value)} (hd : decode M.2.1 pc = .ok (.astore 10, 2)) (hn : 10 < M.2.2.2.1) (hc : bz_c2 x9 = false) (k : bz_V l ad K n M d r σ' (pc + 2) (x0 :: x1 :: x2 :: x3 :: x4 :: x5 :: x6 :: x7 :: x8 :: x9 :: some (.ref v) :: t) st σ) : bz_V l ad K n M d r σ' pc (x0 :: x1 :: x2 :: x3 :: x4 :: x5 :: x6 :: x7 :: x8 :: x9 :: x :: t) (.ref v :: st) σ := bz_astoreG (as := [x0, x1, x2, x3, x4, x5, x6, x7, x8, x9]) hd hn rfl (fun w h => by cases h; exact hc) k
theorem bz_lst10 {v : Int64} {x0 x1 x2 x3 x4 x5 x6 x7 x8 x9 : Option Value} {x y : Option Value} {t : List (Option Value)} (hd : decode M.2.1 pc = .ok (.lstore 10, 2)) (hn : 11 < M.2.2.2.1) (hc : bz_c2 x9 = false) (k : bz_V l ad K n M d r σ' (pc + 2) (x0 :: x1 :: x2 :: x3 :: x4 :: x5 :: x6 :: x7 :: x8 :: x9 :: some (.long v) :: none :: t) st σ) : bz_V l ad K n M d r σ' pc (x0 :: x1 :: x2 :: x3 :: x4 :: x5 :: x6 :: x7 :: x8 :: x9 :: x :: y :: t) (.long v :: st) σ := bz_lstoreG (as := [x0, x1, x2, x3, x4, x5, x6, x7, x8, x9]) hd hn rfl (fun w h => by cases h; exact hc) k
theorem bz_iinc10 {u v : Int32} {z : Int} {x0 x1 x2 x3 x4 x5 x6 x7 x8 x9 : Option Value} {t : List (Option Value)} (hd : decode M.2.1 pc = .ok (.iinc 10 z, 3)) (hv : u + Int32.ofInt z = v) (hn : 10 < M.2.2.2.1) (hc : bz_c2 x9 = false) (k : bz_V l ad K n M d r σ' (pc + 3) (x0 :: x1 :: x2 :: x3 :: x4 :: x5 :: x6 :: x7 :: x8 :: x9 :: some (.int v) :: t) st σ) : bz_V l ad K n M d r σ' pc (x0 :: x1 :: x2 :: x3 :: x4 :: x5 :: x6 :: x7 :: x8 :: x9 :: some (.int u) :: t) st σ := bz_iincG (as := [x0, x1, x2, x3, x4, x5, x6, x7, x8, x9]) hd hv hn rfl (fun w h => by cases h; exact hc) k
theorem bz_iinc10N {a : Nat} {x0 x1 x2 x3 x4 x5 x6 x7 x8 x9 : Option Value} {t : List (Option Value)} (hd : decode M.2.1 pc = .ok (.iinc 10 1, 3)) (hn : 10 < M.2.2.2.1) (hc : bz_c2 x9 = false) (k : bz_V l ad K n M d r σ' (pc + 3) (x0 :: x1 :: x2 :: x3 :: x4 :: x5 :: x6 :: x7 :: x8 :: x9 :: some (.int (nI (a + 1))) :: t) st σ) : bz_V l ad K n M d r σ' pc (x0 :: x1 :: x2 :: x3 :: x4 :: x5 :: x6 :: x7 :: x8 :: x9 :: some (.int (nI a)) :: t) st σ := bz_iinc10 hd (by rw [nI_succ]; rfl) hn hc k
theorem bz_idec10N {a : Nat} {x0 x1 x2 x3 x4 x5 x6 x7 x8 x9 : Option Value} {t : List (Option Value)} (hd : decode M.2.1 pc = .ok (.iinc 10 (-1), 3)) (hn : 10 < M.2.2.2.1) (hc : bz_c2 x9 = false) (k : bz_V l ad K n M d r σ' (pc + 3) (x0 :: x1 :: x2 :: x3 :: x4 :: x5 :: x6 :: x7 :: x8 :: x9 :: some (.int (nI a)) :: t) st σ) : bz_V l ad K n M d r σ' pc (x0 :: x1 :: x2 :: x3 :: x4 :: x5 :: x6 :: x7 :: x8 :: x9 :: some (.int (nI (a + 1))) :: t) st σ := bz_iinc10 hd (pk_m1 a) hn hc k
theorem bz_ist11 {v : Int32} {x0 x1 x2 x3 x4 x5 x6 x7 x8 x9 x10 : Option Value} {x : Option Value} {t : List (Option Value)} (hd : decode M.2.1 pc = .ok (.istore 11, 2)) (hn : 11 < M.2.2.2.1) (hc : bz_c2 x10 = false) (k : bz_V l ad K n M d r σ' (pc + 2) (x0 :: x1 :: x2 :: x3 :: x4 :: x5 :: x6 :: x7 :: x8 :: x9 :: x10 :: some (.int v) :: t) st σ) : bz_V l ad K n M d r σ' pc (x0 :: x1 :: x2 :: x3 :: x4 :: x5 :: x6 :: x7 :: x8 :: x9 :: x10 :: x :: t) (.int v :: st) σ := bz_istoreG (as := [x0, x1, x2, x3, x4, x5, x6, x7, x8, x9, x10]) hd hn rfl (fun w h => by cases h; exact hc) k
theorem bz_ast11 {v : Nat} {x0 x1 x2 x3 x4 x5 x6 x7 x8 x9 x10 : Option Value} {x : Option Value} {t : List (Option Value)} (hd : decode M.2.1 pc = .ok (.astore 11, 2)) (hn : 11 < M.2.2.2.1) (hc : bz_c2 x10 = false) (k : bz_V l ad K n M d r σ' (pc + 2) (x0 :: x1 :: x2 :: x3 :: x4 :: x5 :: x6 :: x7 :: x8 :: x9 :: x10 :: some (.ref v) :: t) st σ) : bz_V l ad K n M d r σ' pc (x0 :: x1 :: x2 :: x3 :: x4 :: x5 :: x6 :: x7 :: x8 :: x9 :: x10 :: x :: t) (.ref v :: st) σ := bz_astoreG (as := [x0, x1, x2, x3, x4, x5, x6, x7, x8, x9, x10]) hd hn rfl (fun w h => by cases h; exact hc) k
theorem bz_lst11 {v : Int64} {x0 x1 x2 x3 x4 x5 x6 x7 x8 x9 x10 : Option Value} {x y : Option Value} {t : List (Option Value)} (hd : decode M.2.1 pc = .ok (.lstore 11, 2)) (hn : 12 < M.2.2.2.1) (hc : bz_c2 x10 = false) (k : bz_V l ad K n M d r σ' (pc + 2) (x0 :: x1 :: x2 :: x3 :: x4 :: x5 :: x6 :: x7 :: x8 :: x9 :: x10 :: some (.long v) :: none :: t) st σ) : bz_V l ad K n M d r σ' pc (x0 :: x1 :: x2 :: x3 :: x4 :: x5 :: x6 :: x7 :: x8 :: x9 :: x10 :: x :: y :: t) (.long v :: st) σ := bz_lstoreG (as := [x0, x1, x2, x3, x4, x5, x6, x7, x8, x9, x10]) hd hn rfl (fun w h => by cases h; exact hc) k
theorem bz_iinc11 {u v : Int32} {z : Int} {x0 x1 x2 x3 x4 x5 x6 x7 x8 x9 x10 : Option Value} {t : List (Option Value)} (hd : decode M.2.1 pc = .ok (.iinc 11 z, 3)) (hv : u + Int32.ofInt z = v) (hn : 11 < M.2.2.2.1) (hc : bz_c2 x10 = false) (k : bz_V l ad K n M d r σ' (pc + 3) (x0 :: x1 :: x2 :: x3 :: x4 :: x5 :: x6 :: x7 :: x8 :: x9 :: x10 :: some (.int v) :: t) st σ) : bz_V l ad K n M d r σ' pc (x0 :: x1 :: x2 :: x3 :: x4 :: x5 :: x6 :: x7 :: x8 :: x9 :: x10 :: some (.int u) :: t) st σ := bz_iincG (as := [x0, x1, x2, x3, x4, x5, x6, x7, x8, x9, x10]) hd hv hn rfl (fun w h => by cases h; exact hc) k
theorem bz_iinc11N {a : Nat} {x0 x1 x2 x3 x4 x5 x6 x7 x8 x9 x10 : Option Value} {t : List (Option Value)} (hd : decode M.2.1 pc = .ok (.iinc 11 1, 3)) (hn : 11 < M.2.2.2.1) (hc : bz_c2 x10 = false) (k : bz_V l ad K n M d r σ' (pc + 3) (x0 :: x1 :: x2 :: x3 :: x4 :: x5 :: x6 :: x7 :: x8 :: x9 :: x10 :: some (.int (nI (a + 1))) :: t) st σ) : bz_V l ad K n M d r σ' pc (x0 :: x1 :: x2 :: x3 :: x4 :: x5 :: x6 :: x7 :: x8 :: x9 :: x10 :: some (.int (nI a)) :: t) st σ := bz_iinc11 hd (by rw [nI_succ]; rfl) hn hc k
theorem bz_idec11N {a : Nat} {x0 x1 x2 x3 x4 x5 x6 x7 x8 x9 x10 : Option Value} {t : List (Option Value)} (hd : decode M.2.1 pc = .ok (.iinc 11 (-1), 3)) (hn : 11 < M.2.2.2.1) (hc : bz_c2 x10 = false) (k : bz_V l ad K n M d r σ' (pc + 3) (x0 :: x1 :: x2 :: x3 :: x4 :: x5 :: x6 :: x7 :: x8 :: x9 :: x10 :: some (.int (nI a)) :: t) st σ) : bz_V l ad K n M d r σ' pc (x0 :: x1 :: x2 :: x3 :: x4 :: x5 :: x6 :: x7 :: x8 :: x9 :: x10 :: some (.int (nI (a + 1))) :: t) st σ := bz_iinc11 hd (pk_m1 a) hn hc k
theorem bz_ist12 {v : Int32} {x0 x1 x2 x3 x4 x5 x6 x7 x8 x9 x10 x11 : Option Value} {x : Option Value} {t : List (Option Value)} (hd : decode M.2.1 pc = .ok (.istore 12, 2)) (hn : 12 < M.2.2.2.1) (hc : bz_c2 x11 = false) (k : bz_V l ad K n M d r σ' (pc + 2) (x0 :: x1 :: x2 :: x3 :: x4 :: x5 :: x6 :: x7 :: x8 :: x9 :: x10 :: x11 :: some (.int v) :: t) st σ) : bz_V l ad K n M d r σ' pc (x0 :: x1 :: x2 :: x3 :: x4 :: x5 :: x6 :: x7 :: x8 :: x9 :: x10 :: x11 :: x :: t) (.int v :: st) σ := bz_istoreG (as := [x0, x1, x2, x3, x4, x5, x6, x7, x8, x9, x10, x11]) hd hn rfl (fun w h => by cases h; exact hc) k
theorem bz_ast12 {v : Nat} {x0 x1 x2 x3 x4 x5 x6 x7 x8 x9 x10 x11 : Option Value} {x : Option Value} {t : List (Option Value)} (hd : decode M.2.1 pc = .ok (.astore 12, 2)) (hn : 12 < M.2.2.2.1) (hc : bz_c2 x11 = false) (k : bz_V l ad K n M d r σ' (pc + 2) (x0 :: x1 :: x2 :: x3 :: x4 :: x5 :: x6 :: x7 :: x8 :: x9 :: x10 :: x11 :: some (.ref v) :: t) st σ) : bz_V l ad K n M d r σ' pc (x0 :: x1 :: x2 :: x3 :: x4 :: x5 :: x6 :: x7 :: x8 :: x9 :: x10 :: x11 :: x :: t) (.ref v :: st) σ := bz_astoreG (as := [x0, x1, x2, x3, x4, x5, x6, x7, x8, x9, x10, x11]) hd hn rfl (fun w h => by cases h; exact hc) k
theorem bz_lst12 {v : Int64} {x0 x1 x2 x3 x4 x5 x6 x7 x8 x9 x10 x11 : Option Value} {x y : Option Value} {t : List (Option Value)} (hd : decode M.2.1 pc = .ok (.lstore 12, 2)) (hn : 13 < M.2.2.2.1) (hc : bz_c2 x11 = false) (k : bz_V l ad K n M d r σ' (pc + 2) (x0 :: x1 :: x2 :: x3 :: x4 :: x5 :: x6 :: x7 :: x8 :: x9 :: x10 :: x11 :: some (.long v) :: none :: t) st σ) : bz_V l ad K n M d r σ' pc (x0 :: x1 :: x2 :: x3 :: x4 :: x5 :: x6 :: x7 :: x8 :: x9 :: x10 :: x11 :: x :: y :: t) (.long v :: st) σ := bz_lstoreG (as := [x0, x1, x2, x3, x4, x5, x6, x7, x8, x9, x10, x11]) hd hn rfl (fun w h => by cases h; exact hc) k
theorem bz_iinc12 {u v : Int32} {z : Int} {x0 x1 x2 x3 x4 x5 x6 x7 x8 x9 x10 x11 : Option Value} {t : List (Option Value)} (hd : decode M.2.1 pc = .ok (.iinc 12 z, 3)) (hv : u + Int32.ofInt z = v) (hn : 12 < M.2.2.2.1) (hc : bz_c2 x11 = false) (k : bz_V l ad K n M d r σ' (pc + 3) (x0 :: x1 :: x2 :: x3 :: x4 :: x5 :: x6 :: x7 :: x8 :: x9 :: x10 :: x11 :: some (.int v) :: t) st σ) : bz_V l ad K n M d r σ' pc (x0 :: x1 :: x2 :: x3 :: x4 :: x5 :: x6 :: x7 :: x8 :: x9 :: x10 :: x11 :: some (.int u) :: t) st σ := bz_iincG (as := [x0, x1, x2, x3, x4, x5, x6, x7, x8, x9, x10, x11]) hd hv hn rfl (fun w h => by cases h; exact hc) k
theorem bz_iinc12N {a : Nat} {x0 x1 x2 x3 x4 x5 x6 x7 x8 x9 x10 x11 : Option Value} {t : List (Option Value)} (hd : decode M.2.1 pc = .ok (.iinc 12 1, 3)) (hn : 12 < M.2.2.2.1) (hc : bz_c2 x11 = false) (k : bz_V l ad K n M d r σ' (pc + 3) (x0 :: x1 :: x2 :: x3 :: x4 :: x5 :: x6 :: x7 :: x8 :: x9 :: x10 :: x11 :: some (.int (nI (a + 1))) :: t) st σ) : bz_V l ad K n M d r σ' pc (x0 :: x1 :: x2 :: x3 :: x4 :: x5 :: x6 :: x7 :: x8 :: x9 :: x10 :: x11 :: some (.int (nI a)) :: t) st σ := bz_iinc12 hd (by rw [nI_succ]; rfl) hn hc k
theorem bz_idec12N {a : Nat} {x0 x1 x2 x3 x4 x5 x6 x7 x8 x9 x10 x11 : Option Value} {t : List (Option Value)} (hd : decode M.2.1 pc = .ok (.iinc 12 (-1), 3)) (hn : 12 < M.2.2.2.1) (hc : bz_c2 x11 = false) (k : bz_V l ad K n M d r σ' (pc + 3) (x0 :: x1 :: x2 :: x3 :: x4 :: x5 :: x6 :: x7 :: x8 :: x9 :: x10 :: x11 :: some (.int (nI a)) :: t) st σ) : bz_V l ad K n M d r σ' pc (x0 :: x1 :: x2 :: x3 :: x4 :: x5 :: x6 :: x7 :: x8 :: x9 :: x10 :: x11 :: some (.int (nI (a + 1))) :: t) st σ := bz_iinc12 hd (pk_m1 a) hn hc k
theorem bz_ist13 {v : Int32} {x0 x1 x2 x3 x4 x5 x6 x7 x8 x9 x10 x11 x12 : Option Value} {x : Option Value} {t : List (Option Value)} (hd : decode M.2.1 pc = .ok (.istore 13, 2)) (hn : 13 < M.2.2.2.1) (hc : bz_c2 x12 = false) (k : bz_V l ad K n M d r σ' (pc + 2) (x0 :: x1 :: x2 :: x3 :: x4 :: x5 :: x6 :: x7 :: x8 :: x9 :: x10 :: x11 :: x12 :: some (.int v) :: t) st σ) : bz_V l ad K n M d r σ' pc (x0 :: x1 :: x2 :: x3 :: x4 :: x5 :: x6 :: x7 :: x8 :: x9 :: x10 :: x11 :: x12 :: x :: t) (.int v :: st) σ := bz_istoreG (as := [x0, x1, x2, x3, x4, x5, x6, x7, x8, x9, x10, x11, x12]) hd hn rfl (fun w h => by cases h; exact hc) k
theorem bz_ast13 {v : Nat} {x0 x1 x2 x3 x4 x5 x6 x7 x8 x9 x10 x11 x12 : Option Value} {x : Option Value} {t : List (Option Value)} (hd : decode M.2.1 pc = .ok (.astore 13, 2)) (hn : 13 < M.2.2.2.1) (hc : bz_c2 x12 = false) (k : bz_V l ad K n M d r σ' (pc + 2) (x0 :: x1 :: x2 :: x3 :: x4 :: x5 :: x6 :: x7 :: x8 :: x9 :: x10 :: x11 :: x12 :: some (.ref v) :: t) st σ) : bz_V l ad K n M d r σ' pc (x0 :: x1 :: x2 :: x3 :: x4 :: x5 :: x6 :: x7 :: x8 :: x9 :: x10 :: x11 :: x12 :: x :: t) (.ref v :: st) σ := bz_astoreG (as := [x0, x1, x2, x3, x4, x5, x6, x7, x8, x9, x10, x11, x12]) hd hn rfl (fun w h => by cases h; exact hc) k
theorem bz_lst13 {v : Int64} {x0 x1 x2 x3 x4 x5 x6 x7 x8 x9 x10 x11 x12 : Option Value} {x y : Option Value} {t : List (Option Value)} (hd : decode M.2.1 pc = .ok (.lstore 13, 2)) (hn : 14 < M.2.2.2.1) (hc : bz_c2 x12 = false) (k : bz_V l ad K n M d r σ' (pc + 2) (x0 :: x1 :: x2 :: x3 :: x4 :: x5 :: x6 :: x7 :: x8 :: x9 :: x10 :: x11 :: x12 :: some (.long v) :: none :: t) st σ) : bz_V l ad K n M d r σ' pc (x0 :: x1 :: x2 :: x3 :: x4 :: x5 :: x6 :: x7 :: x8 :: x9 :: x10 :: x11 :: x12 :: x :: y :: t) (.long v :: st) σ := bz_lstoreG (as := [x0, x1, x2, x3, x4, x5, x6, x7, x8, x9, x10, x11, x12]) hd hn rfl (fun w h => by cases h; exact hc) k
theorem bz_iinc13 {u v : Int32} {z : Int} {x0 x1 x2 x3 x4 x5 x6 x7 x8 x9 x10 x11 x12 : Option Value} {t : List (Option Value)} (hd : decode M.2.1 pc = .ok (.iinc 13 z, 3)) (hv : u + Int32.ofInt z = v) (hn : 13 < M.2.2.2.1) (hc : bz_c2 x12 = false) (k : bz_V l ad K n M d r σ' (pc + 3) (x0 :: x1 :: x2 :: x3 :: x4 :: x5 :: x6 :: x7 :: x8 :: x9 :: x10 :: x11 :: x12 :: some (.int v) :: t) st σ) : bz_V l ad K n M d r σ' pc (x0 :: x1 :: x2 :: x3 :: x4 :: x5 :: x6 :: x7 :: x8 :: x9 :: x10 :: x11 :: x12 :: some (.int u) :: t) st σ := bz_iincG (as := [x0, x1, x2, x3, x4, x5, x6, x7, x8, x9, x10, x11, x12]) hd hv hn rfl (fun w h => by cases h; exact hc) k
theorem bz_iinc13N {a : Nat} {x0 x1 x2 x3 x4 x5 x6 x7 x8 x9 x10 x11 x12 : Option Value} {t : List (Option Value)} (hd : decode M.2.1 pc = .ok (.iinc 13 1, 3)) (hn : 13 < M.2.2.2.1) (hc : bz_c2 x12 = false) (k : bz_V l ad K n M d r σ' (pc + 3) (x0 :: x1 :: x2 :: x3 :: x4 :: x5 :: x6 :: x7 :: x8 :: x9 :: x10 :: x11 :: x12 :: some (.int (nI (a + 1))) :: t) st σ) : bz_V l ad K n M d r σ' pc (x0 :: x1 :: x2 :: x3 :: x4 :: x5 :: x6 :: x7 :: x8 :: x9 :: x10 :: x11 :: x12 :: some (.int (nI a)) :: t) st σ := bz_iinc13 hd (by rw [nI_succ]; rfl) hn hc k
theorem bz_idec13N {a : Nat} {x0 x1 x2 x3 x4 x5 x6 x7 x8 x9 x10 x11 x12 : Option Value} {t : List (Option Value)} (hd : decode M.2.1 pc = .ok (.iinc 13 (-1), 3)) (hn : 13 < M.2.2.2.1) (hc : bz_c2 x12 = false) (k : bz_V l ad K n M d r σ' (pc + 3) (x0 :: x1 :: x2 :: x3 :: x4 :: x5 :: x6 :: x7 :: x8 :: x9 :: x10 :: x11 :: x12 :: some (.int (nI a)) :: t) st σ) : bz_V l ad K n M d r σ' pc (x0 :: x1 :: x2 :: x3 :: x4 :: x5 :: x6 :: x7 :: x8 :: x9 :: x10 :: x11 :: x12 :: some (.int (nI (a + 1))) :: t) st σ := bz_iinc13 hd (pk_m1 a) hn hc k
theorem bz_ist14 {v : Int32} {x0 x1 x2 x3 x4 x5 x6 x7 x8 x9 x10 x11 x12 x13 : Option Value} {x : Option Value} {t : List (Option Value)} (hd : decode M.2.1 pc = .ok (.istore 14, 2)) (hn : 14 < M.2.2.2.1) (hc : bz_c2 x13 = false) (k : bz_V l ad K n M d r σ' (pc + 2) (x0 :: x1 :: x2 :: x3 :: x4 :: x5 :: x6 :: x7 :: x8 :: x9 :: x10 :: x11 :: x12 :: x13 :: some (.int v) :: t) st σ) : bz_V l ad K n M d r σ' pc (x0 :: x1 :: x2 :: x3 :: x4 :: x5 :: x6 :: x7 :: x8 :: x9 :: x10 :: x11 :: x12 :: x13 :: x :: t) (.int v :: st) σ := bz_istoreG (as := [x0, x1, x2, x3, x4, x5, x6, x7, x8, x9, x10, x11, x12, x13]) hd hn rfl (fun w h => by cases h; exact hc) k
theorem bz_ast14 {v : Nat} {x0 x1 x2 x3 x4 x5 x6 x7 x8 x9 x10 x11 x12 x13 : Option Value} {x : Option Value} {t : List (Option Value)} (hd : decode M.2.1 pc = .ok (.astore 14, 2)) (hn : 14 < M.2.2.2.1) (hc : bz_c2 x13 = false) (k : bz_V l ad K n M d r σ' (pc + 2) (x0 :: x1 :: x2 :: x3 :: x4 :: x5 :: x6 :: x7 :: x8 :: x9 :: x10 :: x11 :: x12 :: x13 :: some (.ref v) :: t) st σ) : bz_V l ad K n M d r σ' pc (x0 :: x1 :: x2 :: x3 :: x4 :: x5 :: x6 :: x7 :: x8 :: x9 :: x10 :: x11 :: x12 :: x13 :: x :: t) (.ref v :: st) σ := bz_astoreG (as := [x0, x1, x2, x3, x4, x5, x6, x7, x8, x9, x10, x11, x12, x13]) hd hn rfl (fun w h => by cases h; exact hc) k
theorem bz_lst14 {v : Int64} {x0 x1 x2 x3 x4 x5 x6 x7 x8 x9 x10 x11 x12 x13 : Option Value} {x y : Option Value} {t : List (Option Value)} (hd : decode M.2.1 pc = .ok (.lstore 14, 2)) (hn : 15 < M.2.2.2.1) (hc : bz_c2 x13 = false) (k : bz_V l ad K n M d r σ' (pc + 2) (x0 :: x1 :: x2 :: x3 :: x4 :: x5 :: x6 :: x7 :: x8 :: x9 :: x10 :: x11 :: x12 :: x13 :: some (.long v) :: none :: t) st σ) : bz_V l ad K n M d r σ' pc (x0 :: x1 :: x2 :: x3 :: x4 :: x5 :: x6 :: x7 :: x8 :: x9 :: x10 :: x11 :: x12 :: x13 :: x :: y :: t) (.long v :: st) σ := bz_lstoreG (as := [x0, x1, x2, x3, x4, x5, x6, x7, x8, x9, x10, x11, x12, x13]) hd hn rfl (fun w h => by cases h; exact hc) k
theorem bz_iinc14 {u v : Int32} {z : Int} {x0 x1 x2 x3 x4 x5 x6 x7 x8 x9 x10 x11 x12 x13 : Option Value} {t : List (Option Value)} (hd : decode M.2.1 pc = .ok (.iinc 14 z, 3)) (hv : u + Int32.ofInt z = v) (hn : 14 < M.2.2.2.1) (hc : bz_c2 x13 = false) (k : bz_V l ad K n M d r σ' (pc + 3) (x0 :: x1 :: x2 :: x3 :: x4 :: x5 :: x6 :: x7 :: x8 :: x9 :: x10 :: x11 :: x12 :: x13 :: some (.int v) :: t) st σ) : bz_V l ad K n M d r σ' pc (x0 :: x1 :: x2 :: x3 :: x4 :: x5 :: x6 :: x7 :: x8 :: x9 :: x10 :: x11 :: x12 :: x13 :: some (.int u) :: t) st σ := bz_iincG (as := [x0, x1, x2, x3, x4, x5, x6, x7, x8, x9, x10, x11, x12, x13]) hd hv hn rfl (fun w h => by cases h; exact hc) k
theorem bz_iinc14N {a : Nat} {x0 x1 x2 x3 x4 x5 x6 x7 x8 x9 x10 x11 x12 x13 : Option Value} {t : List (Option Value)} (hd : decode M.2.1 pc = .ok (.iinc 14 1, 3)) (hn : 14 < M.2.2.2.1) (hc : bz_c2 x13 = false) (k : bz_V l ad K n M d r σ' (pc + 3) (x0 :: x1 :: x2 :: x3 :: x4 :: x5 :: x6 :: x7 :: x8 :: x9 :: x10 :: x11 :: x12 :: x13 :: some (.int (nI (a + 1))) :: t) st σ) : bz_V l ad K n M d r σ' pc (x0 :: x1 :: x2 :: x3 :: x4 :: x5 :: x6 :: x7 :: x8 :: x9 :: x10 :: x11 :: x12 :: x13 :: some (.int (nI a)) :: t) st σ := bz_iinc14 hd (by rw [nI_succ]; rfl) hn hc k
theorem bz_idec14N {a : Nat} {x0 x1 x2 x3 x4 x5 x6 x7 x8 x9 x10 x11 x12 x13 : Option Value} {t : List (Option Value)} (hd : decode M.2.1 pc = .ok (.iinc 14 (-1), 3)) (hn : 14 < M.2.2.2.1) (hc : bz_c2 x13 = false) (k : bz_V l ad K n M d r σ' (pc + 3) (x0 :: x1 :: x2 :: x3 :: x4 :: x5 :: x6 :: x7 :: x8 :: x9 :: x10 :: x11 :: x12 :: x13 :: some (.int (nI a)) :: t) st σ) : bz_V l ad K n M d r σ' pc (x0 :: x1 :: x2 :: x3 :: x4 :: x5 :: x6 :: x7 :: x8 :: x9 :: x10 :: x11 :: x12 :: x13 :: some (.int (nI (a + 1))) :: t) st σ := bz_iinc14 hd (pk_m1 a) hn hc k
end BZ1
