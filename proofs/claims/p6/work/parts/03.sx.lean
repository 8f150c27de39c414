/-! The walk of a method over the block: 'sx .. pc L st sh μ': from pc on, with locals L, stack st, shape sh, table μ, the machine comes to what Z asks. -/
abbrev xK : Type := String × ByteArray × Nat × Option FieldType × Bool
def xws : List Cond := lw_tbl.filter goodWord
def xtys (X : xD) : List (ClassId × FieldType) := xty.mapIdx fun i t => (X.1.2 i, t)
theorem xtys_at {X : xD} {i : Nat} {t : FieldType} (h : xty[i]? = some t) : (xtys X)[i]? = some (X.1.2 i, t) := by
  unfold xtys
  rw [List.getElem?_mapIdx, h]
  rfl
def xC (X : xD) (Ex : State → Prop) (fr : Bool) (K : xK) (n0 : Nat) (p : Program) (s : State) (m : MethodId) (args : Array Value) (meth : Method) (c : Code) : Prop :=
  p.tables.exec = Jvm.exec ∧ c.code = K.2.1 ∧ c.maxLocals = K.2.2.1 ∧ meth.sig.returnType = K.2.2.2.1 ∧ meth.locks = false ∧ s.vm.findClass K.1 = some m.cls ∧ (∀ w ∈ xws, w.before args s = true) ∧ (∀ w ∈ xnw, va_Nw w s) ∧ va_K X.1.1 classes (xtys X) s ∧ Ex s ∧ (fr = true → s.heap.size = X.2 + n0) ∧ (K.2.2.2.2 = true → meth.name = "<init>") ∧ ∀ q, xA X.2 n0 fr q → ∀ cell, s.heap[q]? = some cell → cell.vm.isStatics = false
def xH (X : xD) (fr : Bool) (n0 : Nat) (sh : List xS) (μ : xM) (s : State) (H : Heap) (locs : List Loc) : Prop :=
  va_P X.1.1 classes (xwl X sh μ) H ∧ va_S (xA X.2 n0 fr) s.heap H locs ∧ n0 ≤ sh.length ∧ (fr = false → sh.length = n0) ∧ (fr = true → H.size = X.2 + sh.length)
def sx (l : Launch) (R : Room) (X : xD) (Ex : State → Prop) (fr : Bool) (K : xK) (n0 : Nat) (Z : List Frame → Array Value → State → State → Prop) (pc : Nat) (L : List (Option Value)) (st : List Value) (sh : List xS) (μ : xM) (cs ss : Nat) : Prop :=
  ∀ (p : Program) (e : Env) (s : State) (m : MethodId) (args : Array Value) (below : List Frame) (meth : Method) (c : Code) (H : Heap) (locs : List Loc) (ls : Array Slot),
    xC X Ex fr K n0 p s m args meth c → xH X fr n0 sh μ s H locs → xL ls K.2.2.1 L → W p l e R s m args below meth c H locs cs ss (Z below args s) (F0 m pc ls st)
def xup (μ : xM) (k j : Nat) (v : Int32) : xM := va_up μ k (upd (μ k) j v)
theorem xup_at (μ : xM) (k j : Nat) (v : Int32) (a b : Nat) : xup μ k j v a b = if a = k ∧ b = j then v else μ a b := by
  unfold xup va_up upd
  by_cases h1 : a = k
  · subst h1
    by_cases h2 : b = j <;> simp [h2]
  · simp [h1]
theorem xsame {α : Type} {l : List α} {k : Nat} {x : α} (h : l[k]? = some x) : l.set k x = l := by
  apply List.ext_getElem?
  intro i
  by_cases hi : k = i
  · subst hi
    rw [List.getElem?_set_self (List.getElem?_eq_some_iff.mp h).1, h]
  · rw [List.getElem?_set_ne hi]
def xcl_t (q : vw_C × (Nat → FieldType)) : Bool := (u_ws q.1.1 q.1.2.1 q.1.2.2).all (fun w => decide (w ∈ lw_tbl) && goodWord w) && (List.range q.1.2.2).all (fun k => decide (parseFieldDescriptor (q.1.2.1 k).2.2.1 = some (q.2 k))) && (List.range q.1.2.2).all (fun a => (List.range q.1.2.2).all (fun b => decide (a = b) || decide ((q.1.2.1 a).2.1 ≠ (q.1.2.1 b).2.1)))
theorem xcl_ok : ∀ (ci : Nat) (q : vw_C), classes[ci]? = some q → (∀ w ∈ u_ws q.1 q.2.1 q.2.2, w ∈ xws) ∧ ∃ ty : Nat → FieldType, (∀ k, k < q.2.2 → parseFieldDescriptor (q.2.1 k).2.2.1 = some (ty k)) ∧ (∀ a, a < q.2.2 → ∀ b, b < q.2.2 → a ≠ b → (q.2.1 a).2.1 ≠ (q.2.1 b).2.1) := by
  have h : (classes.zip ctypes).all xcl_t = true := by decide +kernel
  have hl : classes.length = ctypes.length := by decide +kernel
  intro ci q hq
  have hlt := (List.getElem?_eq_some_iff.mp hq).1
  have ht : ctypes[ci]? = some (ctypes[ci]'(by omega)) := List.getElem?_eq_getElem _
  have hz : (classes.zip ctypes)[ci]? = some (q, ctypes[ci]'(by omega)) := by
    rw [List.getElem?_zip_eq_some]; exact ⟨hq, ht⟩
  have h1 := List.all_eq_true.mp h _ (List.mem_of_getElem? hz)
  simp only [xcl_t, Bool.and_eq_true, List.all_eq_true, decide_eq_true_eq, Bool.or_eq_true, List.mem_range] at h1
  refine ⟨fun w hw => List.mem_filter.mpr ⟨(h1.1.1 w hw).1, (h1.1.1 w hw).2⟩, _, fun k hk => h1.1.2 k hk, fun a ha b hb hne => ?_⟩
  rcases h1.2 a ha b hb with h2 | h2
  · exact absurd h2 hne
  · exact h2
section SX
variable {l : Launch} {R : Room} {X : xD} {Ex : State → Prop} {fr : Bool} {K : xK} {n0 : Nat} {Z : List Frame → Array Value → State → State → Prop} {pc : Nat} {L : List (Option Value)} {st : List Value} {sh : List xS} {μ : xM} {cs ss : Nat}
theorem sx_iconst {n : Int} {v : Int32} (hd : decode K.2.1 pc = .ok (.iconst n, 1)) (hv : Int32.ofInt n = v)
    (kk : sx l R X Ex fr K n0 Z (pc + 1) L (.int v :: st) sh μ cs ss) : sx l R X Ex fr K n0 Z pc L (st) sh μ cs ss :=
  fun p e s m args below meth c H locs ls hC hH hL => lv_iconst hC.1 hC.2.1 hd hv (kk p e s m args below meth c H locs ls hC hH hL)
theorem sx_bipush {n : Int} {v : Int32} (hd : decode K.2.1 pc = .ok (.bipush n, 2)) (hv : (Int8.ofInt n).toInt32 = v)
    (kk : sx l R X Ex fr K n0 Z (pc + 2) L (.int v :: st) sh μ cs ss) : sx l R X Ex fr K n0 Z pc L (st) sh μ cs ss :=
  fun p e s m args below meth c H locs ls hC hH hL => lv_bipush hC.1 hC.2.1 hd hv (kk p e s m args below meth c H locs ls hC hH hL)
theorem sx_sipush {n : Int} {v : Int32} (hd : decode K.2.1 pc = .ok (.sipush n, 3)) (hv : (Int16.ofInt n).toInt32 = v)
    (kk : sx l R X Ex fr K n0 Z (pc + 3) L (.int v :: st) sh μ cs ss) : sx l R X Ex fr K n0 Z pc L (st) sh μ cs ss :=
  fun p e s m args below meth c H locs ls hC hH hL => lv_sipush hC.1 hC.2.1 hd hv (kk p e s m args below meth c H locs ls hC hH hL)
theorem sx_ldc {i : Nat} {v : Int32} (hd : decode K.2.1 pc = .ok (.ldc i, 2)) (hw : Jvm.Cond.constant K.1 i v ∈ xws)
    (kk : sx l R X Ex fr K n0 Z (pc + 2) L (.int v :: st) sh μ cs ss) : sx l R X Ex fr K n0 Z pc L (st) sh μ cs ss :=
  fun p e s m args below meth c H locs ls hC hH hL => lv_ldc hC.1 hC.2.1 hC.2.2.2.2.2.1 (hC.2.2.2.2.2.2.1 _ hw) hd (kk p e s m args below meth c H locs ls hC hH hL)
theorem sx_null  (hd : decode K.2.1 pc = .ok (.aconst_null, 1))
    (kk : sx l R X Ex fr K n0 Z (pc + 1) L (.null :: st) sh μ cs ss) : sx l R X Ex fr K n0 Z pc L (st) sh μ cs ss :=
  fun p e s m args below meth c H locs ls hC hH hL => lv_null hC.1 hC.2.1 hd (kk p e s m args below meth c H locs ls hC hH hL)
theorem sx_iload_n {k : Fin 4} {i : Nat} {x : Int32} (hd : decode K.2.1 pc = .ok (.iload_n k, 1)) (hi : (k : Nat) = i) (hx : L[i]? = some (some (.int x)))
    (kk : sx l R X Ex fr K n0 Z (pc + 1) L (.int x :: st) sh μ cs ss) : sx l R X Ex fr K n0 Z pc L (st) sh μ cs ss :=
  fun p e s m args below meth c H locs ls hC hH hL => lv_iload_n hC.1 hC.2.1 hd hi (xL_at hL hx) (kk p e s m args below meth c H locs ls hC hH hL)
theorem sx_iload {i : Nat} {x : Int32} (hd : decode K.2.1 pc = .ok (.iload i, 2)) (hx : L[i]? = some (some (.int x)))
    (kk : sx l R X Ex fr K n0 Z (pc + 2) L (.int x :: st) sh μ cs ss) : sx l R X Ex fr K n0 Z pc L (st) sh μ cs ss :=
  fun p e s m args below meth c H locs ls hC hH hL => lv_iload hC.1 hC.2.1 hd (xL_at hL hx) (kk p e s m args below meth c H locs ls hC hH hL)
theorem sx_aload_n {k : Fin 4} {i : Nat} {x : Nat} (hd : decode K.2.1 pc = .ok (.aload_n k, 1)) (hi : (k : Nat) = i) (hx : L[i]? = some (some (.ref x)))
    (kk : sx l R X Ex fr K n0 Z (pc + 1) L (.ref x :: st) sh μ cs ss) : sx l R X Ex fr K n0 Z pc L (st) sh μ cs ss :=
  fun p e s m args below meth c H locs ls hC hH hL => lv_aload_n hC.1 hC.2.1 hd hi (xL_at hL hx) (kk p e s m args below meth c H locs ls hC hH hL)
theorem sx_aload {i : Nat} {x : Nat} (hd : decode K.2.1 pc = .ok (.aload i, 2)) (hx : L[i]? = some (some (.ref x)))
    (kk : sx l R X Ex fr K n0 Z (pc + 2) L (.ref x :: st) sh μ cs ss) : sx l R X Ex fr K n0 Z pc L (st) sh μ cs ss :=
  fun p e s m args below meth c H locs ls hC hH hL => lv_aload hC.1 hC.2.1 hd (xL_at hL hx) (kk p e s m args below meth c H locs ls hC hH hL)
theorem sx_istore_n {k : Fin 4} {i : Nat} {x : Int32} {L' : List (Option Value)} (hd : decode K.2.1 pc = .ok (.istore_n k, 1)) (hi : (k : Nat) = i) (hn : i < K.2.2.1) (hq : L.set i (some (.int x)) = L')
    (kk : sx l R X Ex fr K n0 Z (pc + 1) L' (st) sh μ cs ss) : sx l R X Ex fr K n0 Z pc L (.int x :: st) sh μ cs ss :=
  fun p e s m args below meth c H locs ls hC hH hL => lv_istore_n hC.1 hC.2.1 hd hi hL.1 hn rfl (fun ls' hl' => kk p e s m args below meth c H locs ls' hC hH (hq ▸ xL_set hL rfl hl'))
theorem sx_istore {i : Nat} {x : Int32} {L' : List (Option Value)} (hd : decode K.2.1 pc = .ok (.istore i, 2)) (hn : i < K.2.2.1) (hq : L.set i (some (.int x)) = L')
    (kk : sx l R X Ex fr K n0 Z (pc + 2) L' (st) sh μ cs ss) : sx l R X Ex fr K n0 Z pc L (.int x :: st) sh μ cs ss :=
  fun p e s m args below meth c H locs ls hC hH hL => lv_istore hC.1 hC.2.1 hd hL.1 hn rfl (fun ls' hl' => kk p e s m args below meth c H locs ls' hC hH (hq ▸ xL_set hL rfl hl'))
theorem sx_astore_n {k : Fin 4} {i : Nat} {x : Nat} {L' : List (Option Value)} (hd : decode K.2.1 pc = .ok (.astore_n k, 1)) (hi : (k : Nat) = i) (hn : i < K.2.2.1) (hq : L.set i (some (.ref x)) = L')
    (kk : sx l R X Ex fr K n0 Z (pc + 1) L' (st) sh μ cs ss) : sx l R X Ex fr K n0 Z pc L (.ref x :: st) sh μ cs ss :=
  fun p e s m args below meth c H locs ls hC hH hL => lv_astore_n hC.1 hC.2.1 hd hi hL.1 hn rfl (fun ls' hl' => kk p e s m args below meth c H locs ls' hC hH (hq ▸ xL_set hL rfl hl'))
theorem sx_astore {i : Nat} {x : Nat} {L' : List (Option Value)} (hd : decode K.2.1 pc = .ok (.astore i, 2)) (hn : i < K.2.2.1) (hq : L.set i (some (.ref x)) = L')
    (kk : sx l R X Ex fr K n0 Z (pc + 2) L' (st) sh μ cs ss) : sx l R X Ex fr K n0 Z pc L (.ref x :: st) sh μ cs ss :=
  fun p e s m args below meth c H locs ls hC hH hL => lv_astore hC.1 hC.2.1 hd hL.1 hn rfl (fun ls' hl' => kk p e s m args below meth c H locs ls' hC hH (hq ▸ xL_set hL rfl hl'))
theorem sx_iinc {i : Nat} {n : Int} {x v : Int32} {L' : List (Option Value)} (hd : decode K.2.1 pc = .ok (.iinc i n, 3)) (hx : L[i]? = some (some (.int x))) (hv : x + Int32.ofInt n = v) (hn : i < K.2.2.1) (hq : L.set i (some (.int v)) = L')
    (kk : sx l R X Ex fr K n0 Z (pc + 3) L' (st) sh μ cs ss) : sx l R X Ex fr K n0 Z pc L (st) sh μ cs ss :=
  fun p e s m args below meth c H locs ls hC hH hL => by
    obtain ⟨j, hj⟩ := List.getElem?_of_mem ((xlv_mem L 0 (i, .int x)).mpr ⟨i, hx, (Nat.zero_add i).symm⟩)
    exact lv_iinc hC.1 hC.2.1 hd hL.1 hj hv hn rfl (fun ls' hl' => kk p e s m args below meth c H locs ls' hC hH (hq ▸ xL_set hL rfl hl'))
theorem sx_iadd {x y : Int32} (hd : decode K.2.1 pc = .ok (.iadd, 1))
    (kk : sx l R X Ex fr K n0 Z (pc + 1) L (.int (x + y) :: st) sh μ cs ss) : sx l R X Ex fr K n0 Z pc L (.int y :: .int x :: st) sh μ cs ss :=
  fun p e s m args below meth c H locs ls hC hH hL => lv_iadd hC.1 hC.2.1 hd (kk p e s m args below meth c H locs ls hC hH hL)
theorem sx_isub {x y : Int32} (hd : decode K.2.1 pc = .ok (.isub, 1))
    (kk : sx l R X Ex fr K n0 Z (pc + 1) L (.int (x - y) :: st) sh μ cs ss) : sx l R X Ex fr K n0 Z pc L (.int y :: .int x :: st) sh μ cs ss :=
  fun p e s m args below meth c H locs ls hC hH hL => lv_isub hC.1 hC.2.1 hd (kk p e s m args below meth c H locs ls hC hH hL)
theorem sx_imul {x y : Int32} (hd : decode K.2.1 pc = .ok (.imul, 1))
    (kk : sx l R X Ex fr K n0 Z (pc + 1) L (.int (x * y) :: st) sh μ cs ss) : sx l R X Ex fr K n0 Z pc L (.int y :: .int x :: st) sh μ cs ss :=
  fun p e s m args below meth c H locs ls hC hH hL => lv_imul hC.1 hC.2.1 hd (kk p e s m args below meth c H locs ls hC hH hL)
theorem sx_iand {x y : Int32} (hd : decode K.2.1 pc = .ok (.iand, 1))
    (kk : sx l R X Ex fr K n0 Z (pc + 1) L (.int (x &&& y) :: st) sh μ cs ss) : sx l R X Ex fr K n0 Z pc L (.int y :: .int x :: st) sh μ cs ss :=
  fun p e s m args below meth c H locs ls hC hH hL => lv_iand hC.1 hC.2.1 hd (kk p e s m args below meth c H locs ls hC hH hL)
theorem sx_ishr {x y : Int32} (hd : decode K.2.1 pc = .ok (.ishr, 1))
    (kk : sx l R X Ex fr K n0 Z (pc + 1) L (.int (x >>> (y &&& 31)) :: st) sh μ cs ss) : sx l R X Ex fr K n0 Z pc L (.int y :: .int x :: st) sh μ cs ss :=
  fun p e s m args below meth c H locs ls hC hH hL => lv_ishr hC.1 hC.2.1 hd (kk p e s m args below meth c H locs ls hC hH hL)
theorem sx_idiv {x y : Int32} (hd : decode K.2.1 pc = .ok (.idiv, 1)) (hne : ¬ y = 0)
    (kk : sx l R X Ex fr K n0 Z (pc + 1) L (.int (x / y) :: st) sh μ cs ss) : sx l R X Ex fr K n0 Z pc L (.int y :: .int x :: st) sh μ cs ss :=
  fun p e s m args below meth c H locs ls hC hH hL => lv_idiv hC.1 hC.2.1 hd hne (kk p e s m args below meth c H locs ls hC hH hL)
theorem sx_irem {x y : Int32} (hd : decode K.2.1 pc = .ok (.irem, 1)) (hne : ¬ y = 0)
    (kk : sx l R X Ex fr K n0 Z (pc + 1) L (.int (x - x / y * y) :: st) sh μ cs ss) : sx l R X Ex fr K n0 Z pc L (.int y :: .int x :: st) sh μ cs ss :=
  fun p e s m args below meth c H locs ls hC hH hL => lv_irem hC.1 hC.2.1 hd hne (kk p e s m args below meth c H locs ls hC hH hL)
theorem sx_i2b {x v : Int32} (hd : decode K.2.1 pc = .ok (.i2b, 1)) (hv : x.toInt8.toInt32 = v)
    (kk : sx l R X Ex fr K n0 Z (pc + 1) L (.int v :: st) sh μ cs ss) : sx l R X Ex fr K n0 Z pc L (.int x :: st) sh μ cs ss :=
  fun p e s m args below meth c H locs ls hC hH hL => lv_i2b hC.1 hC.2.1 hd hv (kk p e s m args below meth c H locs ls hC hH hL)
theorem sx_i2l {x : Int32} {v : Int64} (hd : decode K.2.1 pc = .ok (.i2l, 1)) (hv : x.toInt64 = v)
    (kk : sx l R X Ex fr K n0 Z (pc + 1) L (.long v :: st) sh μ cs ss) : sx l R X Ex fr K n0 Z pc L (.int x :: st) sh μ cs ss :=
  fun p e s m args below meth c H locs ls hC hH hL => lv_i2l hC.1 hC.2.1 hd hv (kk p e s m args below meth c H locs ls hC hH hL)
theorem sx_dup {va : Value} (hd : decode K.2.1 pc = .ok (.dup, 1)) (h1 : va.category = 1)
    (kk : sx l R X Ex fr K n0 Z (pc + 1) L (va :: va :: st) sh μ cs ss) : sx l R X Ex fr K n0 Z pc L (va :: st) sh μ cs ss :=
  fun p e s m args below meth c H locs ls hC hH hL => lv_dup hC.1 hC.2.1 hd h1 (kk p e s m args below meth c H locs ls hC hH hL)
theorem sx_pop {va : Value} (hd : decode K.2.1 pc = .ok (.pop, 1)) (h1 : va.category = 1)
    (kk : sx l R X Ex fr K n0 Z (pc + 1) L (st) sh μ cs ss) : sx l R X Ex fr K n0 Z pc L (va :: st) sh μ cs ss :=
  fun p e s m args below meth c H locs ls hC hH hL => lv_pop hC.1 hC.2.1 hd h1 (kk p e s m args below meth c H locs ls hC hH hL)
theorem sx_dup_x1 {va vb : Value} (hd : decode K.2.1 pc = .ok (.dup_x1, 1)) (h1 : va.category = 1) (h2 : vb.category = 1)
    (kk : sx l R X Ex fr K n0 Z (pc + 1) L (va :: vb :: va :: st) sh μ cs ss) : sx l R X Ex fr K n0 Z pc L (va :: vb :: st) sh μ cs ss :=
  fun p e s m args below meth c H locs ls hC hH hL => lv_dup_x1 hC.1 hC.2.1 hd h1 h2 (kk p e s m args below meth c H locs ls hC hH hL)
theorem sx_dup_x2 {va vb vd : Value} (hd : decode K.2.1 pc = .ok (.dup_x2, 1)) (h1 : va.category = 1) (h2 : vb.category = 1) (h3 : vd.category = 1)
    (kk : sx l R X Ex fr K n0 Z (pc + 1) L (va :: vb :: vd :: va :: st) sh μ cs ss) : sx l R X Ex fr K n0 Z pc L (va :: vb :: vd :: st) sh μ cs ss :=
  fun p e s m args below meth c H locs ls hC hH hL => lv_dup_x2 hC.1 hC.2.1 hd h1 h2 h3 (kk p e s m args below meth c H locs ls hC hH hL)
theorem sx_dup2 {va vb : Value} (hd : decode K.2.1 pc = .ok (.dup2, 1)) (h1 : va.category = 1) (h2 : vb.category = 1)
    (kk : sx l R X Ex fr K n0 Z (pc + 1) L (va :: vb :: va :: vb :: st) sh μ cs ss) : sx l R X Ex fr K n0 Z pc L (va :: vb :: st) sh μ cs ss :=
  fun p e s m args below meth c H locs ls hC hH hL => lv_dup2_11 hC.1 hC.2.1 hd h1 h2 (kk p e s m args below meth c H locs ls hC hH hL)
theorem sx_goto {off : Int} {tgt : Nat} (hd : decode K.2.1 pc = .ok (.goto off, 3)) (ht : (pc : Int) + off = (tgt : Int))
    (kk : sx l R X Ex fr K n0 Z (tgt) L (st) sh μ cs ss) : sx l R X Ex fr K n0 Z pc L (st) sh μ cs ss :=
  fun p e s m args below meth c H locs ls hC hH hL => lv_goto hC.1 hC.2.1 hd ht (kk p e s m args below meth c H locs ls hC hH hL)
theorem sx_if_eq {x : Int32} {off : Int} {tgt : Nat} (hd : decode K.2.1 pc = .ok (.ifCond .eq off, 3)) (ht : (pc : Int) + off = (tgt : Int))
    (kt : (x = 0) → sx l R X Ex fr K n0 Z tgt L st sh μ cs ss) (kf : ¬ (x = 0) → sx l R X Ex fr K n0 Z (pc + 3) L st sh μ cs ss) : sx l R X Ex fr K n0 Z pc L (.int x :: st) sh μ cs ss :=
  fun p e s m args below meth c H locs ls hC hH hL => lv_if_eq hC.1 hC.2.1 hd ht (fun q => kt q p e s m args below meth c H locs ls hC hH hL) (fun q => kf q p e s m args below meth c H locs ls hC hH hL)
theorem sx_icmp_eq {x y : Int32} {off : Int} {tgt : Nat} (hd : decode K.2.1 pc = .ok (.if_icmp .eq off, 3)) (ht : (pc : Int) + off = (tgt : Int))
    (kt : (x = y) → sx l R X Ex fr K n0 Z tgt L st sh μ cs ss) (kf : ¬ (x = y) → sx l R X Ex fr K n0 Z (pc + 3) L st sh μ cs ss) : sx l R X Ex fr K n0 Z pc L (.int y :: .int x :: st) sh μ cs ss :=
  fun p e s m args below meth c H locs ls hC hH hL => lv_icmp_eq hC.1 hC.2.1 hd ht (fun q => kt q p e s m args below meth c H locs ls hC hH hL) (fun q => kf q p e s m args below meth c H locs ls hC hH hL)
theorem sx_if_ne {x : Int32} {off : Int} {tgt : Nat} (hd : decode K.2.1 pc = .ok (.ifCond .ne off, 3)) (ht : (pc : Int) + off = (tgt : Int))
    (kt : ¬ x = 0 → sx l R X Ex fr K n0 Z tgt L st sh μ cs ss) (kf : x = 0 → sx l R X Ex fr K n0 Z (pc + 3) L st sh μ cs ss) : sx l R X Ex fr K n0 Z pc L (.int x :: st) sh μ cs ss :=
  fun p e s m args below meth c H locs ls hC hH hL => lv_if_ne hC.1 hC.2.1 hd ht (fun q => kt q p e s m args below meth c H locs ls hC hH hL) (fun q => kf q p e s m args below meth c H locs ls hC hH hL)
theorem sx_icmp_ne {x y : Int32} {off : Int} {tgt : Nat} (hd : decode K.2.1 pc = .ok (.if_icmp .ne off, 3)) (ht : (pc : Int) + off = (tgt : Int))
    (kt : ¬ x = y → sx l R X Ex fr K n0 Z tgt L st sh μ cs ss) (kf : x = y → sx l R X Ex fr K n0 Z (pc + 3) L st sh μ cs ss) : sx l R X Ex fr K n0 Z pc L (.int y :: .int x :: st) sh μ cs ss :=
  fun p e s m args below meth c H locs ls hC hH hL => lv_icmp_ne hC.1 hC.2.1 hd ht (fun q => kt q p e s m args below meth c H locs ls hC hH hL) (fun q => kf q p e s m args below meth c H locs ls hC hH hL)
theorem sx_if_lt {x : Int32} {off : Int} {tgt : Nat} (hd : decode K.2.1 pc = .ok (.ifCond .lt off, 3)) (ht : (pc : Int) + off = (tgt : Int))
    (kt : (x < 0) → sx l R X Ex fr K n0 Z tgt L st sh μ cs ss) (kf : ¬ (x < 0) → sx l R X Ex fr K n0 Z (pc + 3) L st sh μ cs ss) : sx l R X Ex fr K n0 Z pc L (.int x :: st) sh μ cs ss :=
  fun p e s m args below meth c H locs ls hC hH hL => lv_if_lt hC.1 hC.2.1 hd ht (fun q => kt q p e s m args below meth c H locs ls hC hH hL) (fun q => kf q p e s m args below meth c H locs ls hC hH hL)
theorem sx_icmp_lt {x y : Int32} {off : Int} {tgt : Nat} (hd : decode K.2.1 pc = .ok (.if_icmp .lt off, 3)) (ht : (pc : Int) + off = (tgt : Int))
    (kt : (x < y) → sx l R X Ex fr K n0 Z tgt L st sh μ cs ss) (kf : ¬ (x < y) → sx l R X Ex fr K n0 Z (pc + 3) L st sh μ cs ss) : sx l R X Ex fr K n0 Z pc L (.int y :: .int x :: st) sh μ cs ss :=
  fun p e s m args below meth c H locs ls hC hH hL => lv_icmp_lt hC.1 hC.2.1 hd ht (fun q => kt q p e s m args below meth c H locs ls hC hH hL) (fun q => kf q p e s m args below meth c H locs ls hC hH hL)
theorem sx_if_ge {x : Int32} {off : Int} {tgt : Nat} (hd : decode K.2.1 pc = .ok (.ifCond .ge off, 3)) (ht : (pc : Int) + off = (tgt : Int))
    (kt : (0 ≤ x) → sx l R X Ex fr K n0 Z tgt L st sh μ cs ss) (kf : ¬ (0 ≤ x) → sx l R X Ex fr K n0 Z (pc + 3) L st sh μ cs ss) : sx l R X Ex fr K n0 Z pc L (.int x :: st) sh μ cs ss :=
  fun p e s m args below meth c H locs ls hC hH hL => lv_if_ge hC.1 hC.2.1 hd ht (fun q => kt q p e s m args below meth c H locs ls hC hH hL) (fun q => kf q p e s m args below meth c H locs ls hC hH hL)
theorem sx_icmp_ge {x y : Int32} {off : Int} {tgt : Nat} (hd : decode K.2.1 pc = .ok (.if_icmp .ge off, 3)) (ht : (pc : Int) + off = (tgt : Int))
    (kt : (y ≤ x) → sx l R X Ex fr K n0 Z tgt L st sh μ cs ss) (kf : ¬ (y ≤ x) → sx l R X Ex fr K n0 Z (pc + 3) L st sh μ cs ss) : sx l R X Ex fr K n0 Z pc L (.int y :: .int x :: st) sh μ cs ss :=
  fun p e s m args below meth c H locs ls hC hH hL => lv_icmp_ge hC.1 hC.2.1 hd ht (fun q => kt q p e s m args below meth c H locs ls hC hH hL) (fun q => kf q p e s m args below meth c H locs ls hC hH hL)
theorem sx_if_gt {x : Int32} {off : Int} {tgt : Nat} (hd : decode K.2.1 pc = .ok (.ifCond .gt off, 3)) (ht : (pc : Int) + off = (tgt : Int))
    (kt : (0 < x) → sx l R X Ex fr K n0 Z tgt L st sh μ cs ss) (kf : ¬ (0 < x) → sx l R X Ex fr K n0 Z (pc + 3) L st sh μ cs ss) : sx l R X Ex fr K n0 Z pc L (.int x :: st) sh μ cs ss :=
  fun p e s m args below meth c H locs ls hC hH hL => lv_if_gt hC.1 hC.2.1 hd ht (fun q => kt q p e s m args below meth c H locs ls hC hH hL) (fun q => kf q p e s m args below meth c H locs ls hC hH hL)
theorem sx_icmp_gt {x y : Int32} {off : Int} {tgt : Nat} (hd : decode K.2.1 pc = .ok (.if_icmp .gt off, 3)) (ht : (pc : Int) + off = (tgt : Int))
    (kt : (y < x) → sx l R X Ex fr K n0 Z tgt L st sh μ cs ss) (kf : ¬ (y < x) → sx l R X Ex fr K n0 Z (pc + 3) L st sh μ cs ss) : sx l R X Ex fr K n0 Z pc L (.int y :: .int x :: st) sh μ cs ss :=
  fun p e s m args below meth c H locs ls hC hH hL => lv_icmp_gt hC.1 hC.2.1 hd ht (fun q => kt q p e s m args below meth c H locs ls hC hH hL) (fun q => kf q p e s m args below meth c H locs ls hC hH hL)
theorem sx_if_le {x : Int32} {off : Int} {tgt : Nat} (hd : decode K.2.1 pc = .ok (.ifCond .le off, 3)) (ht : (pc : Int) + off = (tgt : Int))
    (kt : (x ≤ 0) → sx l R X Ex fr K n0 Z tgt L st sh μ cs ss) (kf : ¬ (x ≤ 0) → sx l R X Ex fr K n0 Z (pc + 3) L st sh μ cs ss) : sx l R X Ex fr K n0 Z pc L (.int x :: st) sh μ cs ss :=
  fun p e s m args below meth c H locs ls hC hH hL => lv_if_le hC.1 hC.2.1 hd ht (fun q => kt q p e s m args below meth c H locs ls hC hH hL) (fun q => kf q p e s m args below meth c H locs ls hC hH hL)
theorem sx_icmp_le {x y : Int32} {off : Int} {tgt : Nat} (hd : decode K.2.1 pc = .ok (.if_icmp .le off, 3)) (ht : (pc : Int) + off = (tgt : Int))
    (kt : (x ≤ y) → sx l R X Ex fr K n0 Z tgt L st sh μ cs ss) (kf : ¬ (x ≤ y) → sx l R X Ex fr K n0 Z (pc + 3) L st sh μ cs ss) : sx l R X Ex fr K n0 Z pc L (.int y :: .int x :: st) sh μ cs ss :=
  fun p e s m args below meth c H locs ls hC hH hL => lv_icmp_le hC.1 hC.2.1 hd ht (fun q => kt q p e s m args below meth c H locs ls hC hH hL) (fun q => kf q p e s m args below meth c H locs ls hC hH hL)
theorem sx_lookup {dflt : Int} {ps : Array (Int × Int)} {len : Nat} {x : Int32} {off : Int} {tgt : Nat} (hd : decode K.2.1 pc = .ok (.lookupswitch dflt ps, len)) (hp : (ps.toList.zip (ps.toList.drop 1)).all (fun (a, next) => a.1 < next.1) = true) (ho : Op.lookupswitch.offset ps.toList dflt x.toInt = off) (ht : (pc : Int) + off = (tgt : Int))
    (kk : sx l R X Ex fr K n0 Z (tgt) L (st) sh μ cs ss) : sx l R X Ex fr K n0 Z pc L (.int x :: st) sh μ cs ss :=
  fun p e s m args below meth c H locs ls hC hH hL => lv_lookup hC.1 hC.2.1 hd hp ho ht (kk p e s m args below meth c H locs ls hC hH hL)
theorem sx_tableOut {dflt lo hi : Int} {offs : Array Int} {len : Nat} {x : Int32} {tgt : Nat} (hd : decode K.2.1 pc = .ok (.tableswitch dflt lo hi offs, len)) (h : x.toInt < lo ∨ hi < x.toInt) (ht : (pc : Int) + dflt = (tgt : Int))
    (kk : sx l R X Ex fr K n0 Z (tgt) L (st) sh μ cs ss) : sx l R X Ex fr K n0 Z pc L (.int x :: st) sh μ cs ss :=
  fun p e s m args below meth c H locs ls hC hH hL => lv_tableOut hC.1 hC.2.1 hd h ht (kk p e s m args below meth c H locs ls hC hH hL)
theorem sx_tableIn {dflt lo hi : Int} {offs : Array Int} {len : Nat} {x : Int32} {off : Int} {tgt : Nat} (hd : decode K.2.1 pc = .ok (.tableswitch dflt lo hi offs, len)) (h1 : ¬ x.toInt < lo) (h2 : ¬ hi < x.toInt) (ho : offs[(x.toInt - lo).toNat]? = some off) (ht : (pc : Int) + off = (tgt : Int))
    (kk : sx l R X Ex fr K n0 Z (tgt) L (st) sh μ cs ss) : sx l R X Ex fr K n0 Z pc L (.int x :: st) sh μ cs ss :=
  fun p e s m args below meth c H locs ls hC hH hL => lv_tableIn hC.1 hC.2.1 hd h1 h2 ho ht (kk p e s m args below meth c H locs ls hC hH hL)
end SX
section SXP
variable {p : Program} {l : Launch} {e : Env} {R : Room} {s : State} {m : MethodId} {args : Array Value} {below : List Frame} {meth : Method} {c : Code} {H : Heap} {locs : List Loc} {cells slots : Nat} {Q : State → Prop}
variable {cc : ByteArray} {pc : Nat} {ls : Array Slot} {rest : List Value} {D : va_G} {cl : List vw_C} {A : Nat → Prop} {a : Nat} {tys : List (ClassId × FieldType)} {ws : va_W} {H0 : Heap}
/-- what a field of a cell of the world is, for a store -/
theorem xf_slot {own C : String} {T : u_T} {N ci : Nat} {Ts : List Cond} (hts : ∀ w ∈ Ts, w.before args s = true) (hin : ∀ w ∈ u_ws C T N, w ∈ Ts) (ty0 : Nat → FieldType) (hty : ∀ k, k < N → parseFieldDescriptor (T k).2.2.1 = some (ty0 k)) (hnm : ∀ a, a < N → ∀ b, b < N → a ≠ b → (T a).2.1 ≠ (T b).2.1) (hK : va_K D cl tys s) (hP : va_P D cl ws H) (q0 : Nat) {fs : List Value} (he : ws[q0]? = some (a, .inr (ci, fs))) (hc : cl[ci]? = some (C, T, N)) (k : Nat) (hk : k < N) (hl : k < fs.length) (v : Value) :
    ∃ (cell : Cell) (cf fi : Nat) (kf kC : Class) (f : Field), H[a]? = some cell ∧ cell.cls = D.1 ci ∧ cell.vm = .none ∧ s.fieldFound? (T k).1 (T k).2.1 (T k).2.2.1 = some (cf, kf, fi, f) ∧ f.isStatic = false ∧ f.slot < cell.slots.size ∧ s.vm.findClass C = some (D.1 ci) ∧ s.vm.classes[D.1 ci]? = some kC ∧ kC.kind = .ordinary ∧
      ∀ H1 : Heap, H1[a]? = some (cell.setSlot f.slot v) → va_at D cl (a, .inr (ci, fs.set k v)) H1 := by
  have hap := va_apart (own := own) hts hin ty0 hty hnm hK hc
  obtain ⟨r, h1, cell, q1, q2, q3, q4⟩ := hP q0 _ he
  obtain rfl : r = (C, T, N) := Option.some.inj (h1.symm.trans hc)
  obtain ⟨hS, hfc, kC, hkC, hkind⟩ := hK.1 ci _ hc
  obtain ⟨cf, kf, fi, f, hi, hsl⟩ := hS k hk
  refine ⟨cell, cf, fi, kf, kC, f, q1, q2, q3, hi, (u_facts hfc hkC (u_lays hts hin hk) hi).1, by rw [hsl]; exact k2_hasslot (q4 k hk), hfc, hkC, hkind, fun H1 e1 => ?_⟩
  rw [hsl] at e1
  exact ⟨_, hc, t_OB.to (V := updV (vp_V fs) k v) ⟨_, e1, q2, q3, t_set q4 hap hk v⟩ (fun j _ => vp_updV_set hl v j)⟩
theorem va_putz (hexec : p.tables.exec = Jvm.exec) (hb : c.code = cc) {own C : String} {T : u_T} {N ci index : Nat} {Ts : List Cond} (hts : ∀ w ∈ Ts, w.before args s = true) (hin : ∀ w ∈ u_ws C T N, w ∈ Ts) (ty0 : Nat → FieldType) (hty : ∀ k, k < N → parseFieldDescriptor (T k).2.2.1 = some (ty0 k)) (hnm : ∀ a, a < N → ∀ b, b < N → a ≠ b → (T a).2.1 ≠ (T b).2.1) (hown : s.vm.findClass own = some m.cls) (hK : va_K D cl tys s) (hP : va_P D cl ws H) (hD : va_D A ws) (hS0 : va_S A H0 H locs) (q0 : Nat) {fs : List Value} (he : ws[q0]? = some (a, .inr (ci, fs))) (hc : cl[ci]? = some (C, T, N)) (k : Nat) (hk : k < N) (hlink : (Cond.fieldLink own index (T k).1 (T k).2.1 (T k).2.2.1).before args s = true) (hfin : (T k).2.2.2 = false) {ty : FieldType} {v : Value} (hd : parseFieldDescriptor (T k).2.2.1 = some ty) (hn : narrow ty v = v) (hfit : fits ty v = true) (hl : k < fs.length)
    (hdg : decode cc pc = .ok (.putfield index, 3)) (kk : ∀ (H1 : Heap) (locs1 : List Loc), H1.size = H.size → va_P D cl (ws.set q0 (a, .inr (ci, fs.set k v))) H1 → va_S A H0 H1 locs1 → W p l e R s m args below meth c H1 locs1 cells slots Q (F0 m (pc + 3) ls rest)) : W p l e R s m args below meth c H locs cells slots Q (F0 m pc ls (v :: .ref a :: rest)) := by
  obtain ⟨cell, cf, fi, kf, kC, f, q1, q2, q3, hi, hst, hlt, hfc, hkC, hkind, hat⟩ := xf_slot (own := own) hts hin ty0 hty hnm hK hP q0 he hc k hk hl v
  have hlay := hts _ (hin _ (u_in_lay hk))
  unfold u_lay at hlay
  rw [if_neg (by rw [hfin]; decide)] at hlay
  refine W.putK hexec hb (f := f) ⟨hown, hlink, ⟨_, _, _, hi⟩, hst⟩ (by rw [q2]; exact u_store hfc hkC hkind hlay hi hd hn hfit) q1 q3 hlt rfl rfl hdg fun H' e1 e2 e3 => ?_
  exact kk H' _ e2 (hP.set hD he (hat H' e1) e3) (hS0.put e2 e3 (hD.2 q0 _ he))
theorem va_putFz (hexec : p.tables.exec = Jvm.exec) (hb : c.code = cc) {own C : String} {T : u_T} {N ci index : Nat} {Ts : List Cond} (hts : ∀ w ∈ Ts, w.before args s = true) (hin : ∀ w ∈ u_ws C T N, w ∈ Ts) (ty0 : Nat → FieldType) (hty : ∀ k, k < N → parseFieldDescriptor (T k).2.2.1 = some (ty0 k)) (hnm : ∀ a, a < N → ∀ b, b < N → a ≠ b → (T a).2.1 ≠ (T b).2.1) (hown : s.vm.findClass own = some m.cls) (hK : va_K D cl tys s) (hP : va_P D cl ws H) (hD : va_D A ws) (hS0 : va_S A H0 H locs) (q0 : Nat) {fs : List Value} (he : ws[q0]? = some (a, .inr (ci, fs))) (hc : cl[ci]? = some (C, T, N)) (k : Nat) (hk : k < N) (hlink : (Cond.fieldLink own index (T k).1 (T k).2.1 (T k).2.2.1).before args s = true) (hfin : (T k).2.2.2 = true) (hin2 : meth.name = "<init>") (hdecl : (T k).1 = own) {ty : FieldType} {v : Value} (hd : parseFieldDescriptor (T k).2.2.1 = some ty) (hn : narrow ty v = v) (hfit : fits ty v = true) (hl : k < fs.length)
    (hdg : decode cc pc = .ok (.putfield index, 3)) (kk : ∀ (H1 : Heap) (locs1 : List Loc), H1.size = H.size → va_P D cl (ws.set q0 (a, .inr (ci, fs.set k v))) H1 → va_S A H0 H1 locs1 → W p l e R s m args below meth c H1 locs1 cells slots Q (F0 m (pc + 3) ls rest)) : W p l e R s m args below meth c H locs cells slots Q (F0 m pc ls (v :: .ref a :: rest)) := by
  obtain ⟨cell, cf, fi, kf, kC, f, q1, q2, q3, hi, hst, hlt, hfc, hkC, hkind, hat⟩ := xf_slot (own := own) hts hin ty0 hty hnm hK hP q0 he hc k hk hl v
  have hlay := hts _ (hin _ (u_in_lay hk))
  unfold u_lay at hlay
  rw [if_pos hfin] at hlay
  have hcf : m.cls = cf := by
    obtain ⟨_, _, c', _, _, _, -, -, hf', -, -, -, hown2, -⟩ := Cond.laysFinal_spec hlay
    have e1 : c' = cf := by have := hi.symm.trans hf'; simp at this; exact this.1.symm
    rw [hdecl] at hown2
    rw [← e1]; exact Option.some.inj (hown.symm.trans hown2)
  refine W.putFinK hexec hb hown hlink hi hst hcf hin2 (by rw [q2]; exact u_fits hfc hkC hkind (Or.inr hlay) hi hd hn hfit) q1 q3 hlt rfl rfl hdg fun H' e1 e2 e3 => ?_
  exact kk H' _ e2 (hP.set hD he (hat H' e1) e3) (hS0.put e2 e3 (hD.2 q0 _ he))
theorem va_iastz (hexec : p.tables.exec = Jvm.exec) (hb : c.code = cc) (hK : va_K D cl tys s) (hP : va_P D cl ws H) (hD : va_D A ws) (hS : va_S A H0 H locs) (q0 t0 : Nat) {cA : ClassId} {n : Nat} {f : Nat → Int32} (ha : ws[q0]? = some (a, .inl (cA, n, .inl f))) (ht : tys[t0]? = some (cA, .int)) {i : Int32} {x : Int32} (hin : vp_in i n) (hdg : decode cc pc = .ok (.iastore, 1))
    (kk : ∀ (H1 : Heap) (locs1 : List Loc), H1.size = H.size → va_P D cl (ws.set q0 (a, .inl (cA, n, .inl (upd f i.toNatClampNeg x)))) H1 → va_S A H0 H1 locs1 → W p l e R s m args below meth c H1 locs1 cells slots Q (F0 m (pc + 1) ls rest)) : W p l e R s m args below meth c H locs cells slots Q (F0 m pc ls (.int x :: .int i :: .ref a :: rest)) := by
  refine W.iast hexec hb (hP q0 _ ha) ((hK.2 t0 _ ht).1 n (fun j => .int (f j))) (fun q => by cases q) (by show ¬ (i < 0 ∨ (arrV _ _ _).slots.size ≤ _); rw [arrV_size]; exact hin) rfl rfl hdg fun H1 e z oq => ?_
  refine kk H1 _ z (hP.set hD ha ?_ oq) (hS.put z oq (hD.2 q0 _ ha))
  show H1[a]? = some (vp_cell _ _)
  rw [e, vp_cell_i, vp_cell_i, arrV_store]
  congr 2
  funext q
  by_cases hq : q = i.toNatClampNeg
  · subst hq
    simp [updV, upd]
  · simp [updV, upd, hq]
end SXP
section SXH
variable {l : Launch} {R : Room} {X : xD} {Ex : State → Prop} {fr : Bool} {K : xK} {n0 : Nat} {Z : List Frame → Array Value → State → State → Prop} {pc : Nat} {L : List (Option Value)} {st : List Value} {sh : List xS} {μ : xM} {cs ss : Nat}
theorem xH_set {n0 : Nat} {fr : Bool} {sh : List xS} {μ : xM} {s : State} {H : Heap} {locs : List Loc} {X : xD} (hH : xH X fr n0 sh μ s H locs) {k : Nat} {s' : xS} {f : Nat → Int32} {e : va_E} (hk : k < sh.length) (he : e = xpic X s' f) {H1 : Heap} {locs1 : List Loc} (hz : H1.size = H.size) (hP : va_P X.1.1 classes ((xwl X sh μ).set k (X.2 + k, e)) H1) (hS : va_S (xA X.2 n0 fr) s.heap H1 locs1) : xH X fr n0 (sh.set k s') (va_up μ k f) s H1 locs1 := by
  subst he
  rw [xwl_set hk] at hP
  refine ⟨hP, hS, by rw [List.length_set]; exact hH.2.2.1, fun h => by rw [List.length_set]; exact hH.2.2.2.1 h, fun h => by rw [List.length_set, hz]; exact hH.2.2.2.2 h⟩
theorem sx_geti {C : String} {T : u_T} {N ci i j k : Nat} {fl : List (Option (Option Nat))} (hd : decode K.2.1 pc = .ok (.getfield i, 3)) (hc : classes[ci]? = some (C, T, N)) (hs : sh[k]? = some (.inl (ci, fl))) (hj : fl[j]? = some none) (hjn : j < N) (hw : Cond.fieldLink K.1 i (T j).1 (T j).2.1 (T j).2.2.1 ∈ xws)
    (kk : sx l R X Ex fr K n0 Z (pc + 3) L (.int (μ k j) :: st) sh μ cs ss) : sx l R X Ex fr K n0 Z pc L (.ref (X.2 + k) :: st) sh μ cs ss :=
  fun p e s m args below meth c H locs ls hC hH hL => va_get hC.1 hC.2.1 hC.2.2.2.2.2.2.1 (xcl_ok ci _ hc).1 hC.2.2.2.2.2.1 hC.2.2.2.2.2.2.2.2.1 hH.1 k (xwl_get μ hs) hc j hjn (hC.2.2.2.2.2.2.1 _ hw) (fun _ h => h) (v := .int (μ k j)) (by have := xfs_get X.2 (μ k) fl 0 j none hj; rwa [Nat.zero_add] at this) hd (kk p e s m args below meth c H locs ls hC hH hL)
theorem sx_getr {C : String} {T : u_T} {N ci i j k r : Nat} {fl : List (Option (Option Nat))} (hd : decode K.2.1 pc = .ok (.getfield i, 3)) (hc : classes[ci]? = some (C, T, N)) (hs : sh[k]? = some (.inl (ci, fl))) (hj : fl[j]? = some (some (some r))) (hjn : j < N) (hw : Cond.fieldLink K.1 i (T j).1 (T j).2.1 (T j).2.2.1 ∈ xws)
    (kk : sx l R X Ex fr K n0 Z (pc + 3) L (.ref (X.2 + r) :: st) sh μ cs ss) : sx l R X Ex fr K n0 Z pc L (.ref (X.2 + k) :: st) sh μ cs ss :=
  fun p e s m args below meth c H locs ls hC hH hL => va_get hC.1 hC.2.1 hC.2.2.2.2.2.2.1 (xcl_ok ci _ hc).1 hC.2.2.2.2.2.1 hC.2.2.2.2.2.2.2.2.1 hH.1 k (xwl_get μ hs) hc j hjn (hC.2.2.2.2.2.2.1 _ hw) (fun _ h => h) (v := .ref (X.2 + r)) (by have := xfs_get X.2 (μ k) fl 0 j _ hj; rwa [Nat.zero_add] at this) hd (kk p e s m args below meth c H locs ls hC hH hL)
theorem sx_getiN {C host : String} {T : u_T} {N ci i j k : Nat} {fl : List (Option (Option Nat))} (hd : decode K.2.1 pc = .ok (.getfield i, 3)) (hc : classes[ci]? = some (C, T, N)) (hs : sh[k]? = some (.inl (ci, fl))) (hj : fl[j]? = some none) (hjn : j < N) (hw : Cond.fieldLinkNest K.1 i (T j).1 (T j).2.1 (T j).2.2.1 host ∈ xnw)
    (kk : sx l R X Ex fr K n0 Z (pc + 3) L (.int (μ k j) :: st) sh μ cs ss) : sx l R X Ex fr K n0 Z pc L (.ref (X.2 + k) :: st) sh μ cs ss :=
  fun p e s m args below meth c H locs ls hC hH hL => va_getN hC.1 hC.2.1 hC.2.2.2.2.2.2.1 (xcl_ok ci _ hc).1 hC.2.2.2.2.2.1 hC.2.2.2.2.2.2.2.2.1 hH.1 k (xwl_get μ hs) hc j hjn (va_Nw.use rfl (hC.2.2.2.2.2.2.2.1 _ hw)) (fun _ h => h) (v := .int (μ k j)) (by have := xfs_get X.2 (μ k) fl 0 j none hj; rwa [Nat.zero_add] at this) hd (kk p e s m args below meth c H locs ls hC hH hL)
theorem sx_getrN {C host : String} {T : u_T} {N ci i j k r : Nat} {fl : List (Option (Option Nat))} (hd : decode K.2.1 pc = .ok (.getfield i, 3)) (hc : classes[ci]? = some (C, T, N)) (hs : sh[k]? = some (.inl (ci, fl))) (hj : fl[j]? = some (some (some r))) (hjn : j < N) (hw : Cond.fieldLinkNest K.1 i (T j).1 (T j).2.1 (T j).2.2.1 host ∈ xnw)
    (kk : sx l R X Ex fr K n0 Z (pc + 3) L (.ref (X.2 + r) :: st) sh μ cs ss) : sx l R X Ex fr K n0 Z pc L (.ref (X.2 + k) :: st) sh μ cs ss :=
  fun p e s m args below meth c H locs ls hC hH hL => va_getN hC.1 hC.2.1 hC.2.2.2.2.2.2.1 (xcl_ok ci _ hc).1 hC.2.2.2.2.2.1 hC.2.2.2.2.2.2.2.2.1 hH.1 k (xwl_get μ hs) hc j hjn (va_Nw.use rfl (hC.2.2.2.2.2.2.2.1 _ hw)) (fun _ h => h) (v := .ref (X.2 + r)) (by have := xfs_get X.2 (μ k) fl 0 j _ hj; rwa [Nat.zero_add] at this) hd (kk p e s m args below meth c H locs ls hC hH hL)
theorem xpic_put {X : xD} {ci j : Nat} {fl : List (Option (Option Nat))} {f : Nat → Int32} (o : Option (Option Nat)) (x : Int32) : (Sum.inr (ci, (xfs X.2 f fl 0).set j (xval X.2 o x)) : va_E) = xpic X (.inl (ci, fl.set j o)) (upd f j x) := by
  have h := xfs_set X.2 f o x fl 0 j
  rw [Nat.zero_add] at h
  simp only [xpic, h]
theorem sx_puti {C : String} {T : u_T} {N ci i j k : Nat} {fl : List (Option (Option Nat))} {v : Int32} {ty : FieldType} (hd : decode K.2.1 pc = .ok (.putfield i, 3)) (hc : classes[ci]? = some (C, T, N)) (hs : sh[k]? = some (.inl (ci, fl))) (hj : fl[j]? = some none) (hjn : j < N) (hw : Cond.fieldLink K.1 i (T j).1 (T j).2.1 (T j).2.2.1 ∈ xws) (hf : (T j).2.2.2 = false) (hy : parseFieldDescriptor (T j).2.2.1 = some ty) (hn : narrow ty (.int v) = .int v) (hv : fits ty (.int v) = true)
    (kk : ∀ μ' : xM, μ' = xup μ k j v → sx l R X Ex fr K n0 Z (pc + 3) L st sh μ' cs ss) : sx l R X Ex fr K n0 Z pc L (.int v :: .ref (X.2 + k) :: st) sh μ cs ss := by
  intro p e s m args below meth c H locs ls hC hH hL
  obtain ⟨hin, ty0, hty, hnm⟩ := xcl_ok ci _ hc
  have hjl : j < (xfs X.2 (μ k) fl 0).length := by rw [xfs_len]; exact (List.getElem?_eq_some_iff.mp hj).1
  have hkl := (List.getElem?_eq_some_iff.mp hs).1
  refine va_putz hC.1 hC.2.1 hC.2.2.2.2.2.2.1 hin ty0 hty hnm hC.2.2.2.2.2.1 hC.2.2.2.2.2.2.2.2.1 hH.1 (xwl_D hH.2.2.2.1) hH.2.1 k (xwl_get μ hs) hc j hjn (hC.2.2.2.2.2.2.1 _ hw) hf hy hn hv hjl hd (fun H1 locs1 hz hP hS => ?_)
  have h2 := xH_set hH hkl (xpic_put (X := X) (ci := ci) (j := j) (fl := fl) (f := μ k) none v) hz hP hS
  rw [xsame hj, xsame hs] at h2
  exact kk _ rfl p e s m args below meth c H1 locs1 ls hC h2 hL
theorem sx_putiN {C host : String} {T : u_T} {N ci i j k : Nat} {fl : List (Option (Option Nat))} {v : Int32} {ty : FieldType} (hfr : fr = false) (hd : decode K.2.1 pc = .ok (.putfield i, 3)) (hc : classes[ci]? = some (C, T, N)) (hs : sh[k]? = some (.inl (ci, fl))) (hj : fl[j]? = some none) (hjn : j < N) (hw : Cond.fieldLinkNest K.1 i (T j).1 (T j).2.1 (T j).2.2.1 host ∈ xnw) (hf : (T j).2.2.2 = false) (hy : parseFieldDescriptor (T j).2.2.1 = some ty) (hn : narrow ty (.int v) = .int v) (hv : fits ty (.int v) = true)
    (kk : ∀ μ' : xM, μ' = xup μ k j v → sx l R X Ex fr K n0 Z (pc + 3) L st sh μ' cs ss) : sx l R X Ex fr K n0 Z pc L (.int v :: .ref (X.2 + k) :: st) sh μ cs ss := by
  intro p e s m args below meth c H locs ls hC hH hL
  subst hfr
  obtain ⟨hin, ty0, hty, hnm⟩ := xcl_ok ci _ hc
  have hjl : j < (xfs X.2 (μ k) fl 0).length := by rw [xfs_len]; exact (List.getElem?_eq_some_iff.mp hj).1
  have hkl := (List.getElem?_eq_some_iff.mp hs).1
  refine va_putN hC.1 hC.2.1 hC.2.2.2.2.2.2.1 hin ty0 hty hnm hC.2.2.2.2.2.1 hC.2.2.2.2.2.2.2.2.1 hH.1 (xwl_D hH.2.2.2.1) hH.2.1 k (xwl_get μ hs) hc j hjn (va_Nw.use rfl (hC.2.2.2.2.2.2.2.1 _ hw)) (fun _ h => h) hf hy hn hv hjl hd (fun H1 locs1 hP _ hS => ?_)
  have h2 : xH X false n0 (sh.set k (.inl (ci, fl.set j none))) (va_up μ k (upd (μ k) j v)) s H1 locs1 := by
    rw [show (Sum.inr (ci, (xfs X.2 (μ k) fl 0).set j (.int v)) : va_E) = xpic X (.inl (ci, fl.set j none)) (upd (μ k) j v) from xpic_put none v, xwl_set hkl] at hP
    exact ⟨hP, hS, by rw [List.length_set]; exact hH.2.2.1, fun h => by rw [List.length_set]; exact hH.2.2.2.1 h, fun h => by cases h⟩
  rw [xsame hj, xsame hs] at h2
  exact kk _ rfl p e s m args below meth c H1 locs1 ls hC h2 hL
/-- a final field of a constructor gets a cell -/
theorem sx_putrF {C : String} {T : u_T} {N ci i j k r : Nat} {fl : List (Option (Option Nat))} {sh' : List xS} {ty : FieldType} (hd : decode K.2.1 pc = .ok (.putfield i, 3)) (hc : classes[ci]? = some (C, T, N)) (hs : sh[k]? = some (.inl (ci, fl))) (hjl : j < fl.length) (hjn : j < N) (hw : Cond.fieldLink K.1 i (T j).1 (T j).2.1 (T j).2.2.1 ∈ xws) (hf : (T j).2.2.2 = true) (hi : K.2.2.2.2 = true) (hT : (T j).1 = K.1) (hy : parseFieldDescriptor (T j).2.2.1 = some ty) (hn : narrow ty (.ref (X.2 + r)) = .ref (X.2 + r)) (hv : fits ty (.ref (X.2 + r)) = true) (hsh : sh.set k (.inl (ci, fl.set j (some (some r)))) = sh')
    (kk : sx l R X Ex fr K n0 Z (pc + 3) L st sh' (xup μ k j 0) cs ss) : sx l R X Ex fr K n0 Z pc L (.ref (X.2 + r) :: .ref (X.2 + k) :: st) sh μ cs ss := by
  subst hsh
  intro p e s m args below meth c H locs ls hC hH hL
  obtain ⟨hin, ty0, hty, hnm⟩ := xcl_ok ci _ hc
  have hkl := (List.getElem?_eq_some_iff.mp hs).1
  refine va_putFz hC.1 hC.2.1 hC.2.2.2.2.2.2.1 hin ty0 hty hnm hC.2.2.2.2.2.1 hC.2.2.2.2.2.2.2.2.1 hH.1 (xwl_D hH.2.2.2.1) hH.2.1 k (xwl_get μ hs) hc j hjn (hC.2.2.2.2.2.2.1 _ hw) hf (hC.2.2.2.2.2.2.2.2.2.2.2.1 hi) hT hy hn hv (by rw [xfs_len]; exact hjl) hd (fun H1 locs1 hz hP hS => ?_)
  exact kk p e s m args below meth c H1 locs1 ls hC (xH_set hH hkl (xpic_put (X := X) (ci := ci) (j := j) (fl := fl) (f := μ k) (some (some r)) 0) hz hP hS) hL
/-! arrays -/
theorem xpic_i {X : xD} {ti n : Nat} {f : Nat → Int32} (h : ti ≠ 0) : xpic X (.inr (ti, n, none)) f = .inl (X.1.2 ti, n, .inl f) := by simp [xpic, h]
theorem sx_iald {k ti n : Nat} {i : Int32} (hd : decode K.2.1 pc = .ok (.iaload, 1)) (hs : sh[k]? = some (.inr (ti, n, none))) (h0 : ti ≠ 0) (ht : xty[ti]? = some .int) (hin : vp_in i n)
    (kk : sx l R X Ex fr K n0 Z (pc + 1) L (.int (μ k i.toNatClampNeg) :: st) sh μ cs ss) : sx l R X Ex fr K n0 Z pc L (.int i :: .ref (X.2 + k) :: st) sh μ cs ss :=
  fun p e s m args below meth c H locs ls hC hH hL => va_iald hC.1 hC.2.1 hC.2.2.2.2.2.2.2.2.1 hH.1 k ti (by rw [xwl_get μ hs, xpic_i h0]) (xtys_at ht) hin hd (kk p e s m args below meth c H locs ls hC hH hL)
theorem sx_bald {k ti n : Nat} {i : Int32} (hd : decode K.2.1 pc = .ok (.baload, 1)) (hs : sh[k]? = some (.inr (ti, n, none))) (h0 : ti ≠ 0) (ht : xty[ti]? = some .byte) (hin : vp_in i n)
    (kk : sx l R X Ex fr K n0 Z (pc + 1) L (.int (μ k i.toNatClampNeg) :: st) sh μ cs ss) : sx l R X Ex fr K n0 Z pc L (.int i :: .ref (X.2 + k) :: st) sh μ cs ss :=
  fun p e s m args below meth c H locs ls hC hH hL => va_bald hC.1 hC.2.1 hC.2.2.2.2.2.2.2.2.1 hH.1 k ti (by rw [xwl_get μ hs, xpic_i h0]) (xtys_at ht) hin hd (kk p e s m args below meth c H locs ls hC hH hL)
theorem sx_zald {k ti n : Nat} {i : Int32} (hd : decode K.2.1 pc = .ok (.baload, 1)) (hs : sh[k]? = some (.inr (ti, n, none))) (h0 : ti ≠ 0) (ht : xty[ti]? = some .boolean) (hin : vp_in i n)
    (kk : sx l R X Ex fr K n0 Z (pc + 1) L (.int (μ k i.toNatClampNeg) :: st) sh μ cs ss) : sx l R X Ex fr K n0 Z pc L (.int i :: .ref (X.2 + k) :: st) sh μ cs ss :=
  fun p e s m args below meth c H locs ls hC hH hL => va_zald hC.1 hC.2.1 hC.2.2.2.2.2.2.2.2.1 hH.1 k ti (by rw [xwl_get μ hs, xpic_i h0]) (xtys_at ht) hin hd (kk p e s m args below meth c H locs ls hC hH hL)
theorem sx_alen {k ti n : Nat} {g : Option (List (Option Nat))} {ty : FieldType} {v : Int32} (hd : decode K.2.1 pc = .ok (.arraylength, 1)) (hs : sh[k]? = some (.inr (ti, n, g))) (ht : xty[ti]? = some ty) (hv : Int32.ofNat n = v)
    (kk : sx l R X Ex fr K n0 Z (pc + 1) L (.int v :: st) sh μ cs ss) : sx l R X Ex fr K n0 Z pc L (.ref (X.2 + k) :: st) sh μ cs ss := by
  intro p e s m args below meth c H locs ls hC hH hL
  cases g with
  | none => exact va_alen (v := v) hC.1 hC.2.1 hC.2.2.2.2.2.2.2.2.1 hH.1 k ti (x := (n, if ti = 0 then .inr (.inl (fun j => (μ k j).toInt64)) else .inl (μ k))) (by rw [xwl_get μ hs]; rfl) (xtys_at ht) hv hd (kk p e s m args below meth c H locs ls hC hH hL)
  | some g => exact va_alen (v := v) hC.1 hC.2.1 hC.2.2.2.2.2.2.2.2.1 hH.1 k ti (x := (n, .inr (.inr (.inr (.inr (fun i => (g.getD i none).map (X.2 + ·))))))) (by rw [xwl_get μ hs]; rfl) (xtys_at ht) hv hd (kk p e s m args below meth c H locs ls hC hH hL)
theorem sx_aald {k ti n r : Nat} {g : List (Option Nat)} {ty : FieldType} {i : Int32} (hd : decode K.2.1 pc = .ok (.aaload, 1)) (hs : sh[k]? = some (.inr (ti, n, some g))) (ht : xty[ti]? = some ty) (hR : ty.isReference = true) (hin : vp_in i n) (hg : g.getD i.toNatClampNeg none = some r)
    (kk : sx l R X Ex fr K n0 Z (pc + 1) L (.ref (X.2 + r) :: st) sh μ cs ss) : sx l R X Ex fr K n0 Z pc L (.int i :: .ref (X.2 + k) :: st) sh μ cs ss := by
  intro p e s m args below meth c H locs ls hC hH hL
  have hlt : i.toNatClampNeg < n := Nat.not_le.mp fun q => hin (Or.inr q)
  have hcell : H[X.2 + k]? = some (vp_cell (X.1.2 ti) (n, .inr (.inr (.inr (.inr (fun i => (g.getD i none).map (X.2 + ·))))))) := hH.1 k _ (xwl_get μ hs)
  rw [vp_cell_q] at hcell
  refine W.aald (v := .ref (X.2 + r)) hC.1 hC.2.1 hcell ((hC.2.2.2.2.2.2.2.2.1.2 ti _ (xtys_at ht)).1 n _) hR (fun q => by cases q) (by rw [arrV_size]; exact hin) (by rw [arrV_read _ _ hlt, hg]; rfl) rfl rfl hd (kk p e s m args below meth c H locs ls hC hH hL)
theorem sx_iast {k ti n : Nat} {i x : Int32} (hd : decode K.2.1 pc = .ok (.iastore, 1)) (hs : sh[k]? = some (.inr (ti, n, none))) (h0 : ti ≠ 0) (ht : xty[ti]? = some .int) (hin : vp_in i n)
    (kk : ∀ μ' : xM, μ' = xup μ k i.toNatClampNeg x → sx l R X Ex fr K n0 Z (pc + 1) L st sh μ' cs ss) : sx l R X Ex fr K n0 Z pc L (.int x :: .int i :: .ref (X.2 + k) :: st) sh μ cs ss := by
  intro p e s m args below meth c H locs ls hC hH hL
  have hkl := (List.getElem?_eq_some_iff.mp hs).1
  refine va_iastz hC.1 hC.2.1 hC.2.2.2.2.2.2.2.2.1 hH.1 (xwl_D hH.2.2.2.1) hH.2.1 k ti (by rw [xwl_get μ hs, xpic_i h0]) (xtys_at ht) hin hd (fun H1 locs1 hz hP hS => ?_)
  have h2 := xH_set hH hkl (xpic_i (X := X) (n := n) (f := upd (μ k) i.toNatClampNeg x) h0).symm hz hP hS
  rw [xsame hs] at h2
  exact kk _ rfl p e s m args below meth c H1 locs1 ls hC h2 hL
theorem sx_bast {k ti n : Nat} {i x : Int32} (hfr : fr = false) (hd : decode K.2.1 pc = .ok (.bastore, 1)) (hs : sh[k]? = some (.inr (ti, n, none))) (h0 : ti ≠ 0) (ht : xty[ti]? = some .byte) (hin : vp_in i n)
    (kk : ∀ μ' : xM, μ' = xup μ k i.toNatClampNeg (vp_nar .byte x) → sx l R X Ex fr K n0 Z (pc + 1) L st sh μ' cs ss) : sx l R X Ex fr K n0 Z pc L (.int x :: .int i :: .ref (X.2 + k) :: st) sh μ cs ss := by
  intro p e s m args below meth c H locs ls hC hH hL
  subst hfr
  have hkl := (List.getElem?_eq_some_iff.mp hs).1
  refine va_bast hC.1 hC.2.1 hC.2.2.2.2.2.2.2.2.1 hH.1 (xwl_D hH.2.2.2.1) hH.2.1 k ti (by rw [xwl_get μ hs, xpic_i h0]) (xtys_at ht) hin hd (fun H1 locs1 hP _ hS => ?_)
  have h2 : xH X false n0 (sh.set k (.inr (ti, n, none))) (va_up μ k (upd (μ k) i.toNatClampNeg (vp_nar .byte x))) s H1 locs1 := by
    rw [← xpic_i (X := X) (n := n) (f := upd (μ k) i.toNatClampNeg (vp_nar .byte x)) h0, xwl_set hkl] at hP
    exact ⟨hP, hS, by rw [List.length_set]; exact hH.2.2.1, fun h => by rw [List.length_set]; exact hH.2.2.2.1 h, fun h => by cases h⟩
  rw [xsame hs] at h2
  exact kk _ rfl p e s m args below meth c H1 locs1 ls hC h2 hL
theorem sx_zast {k ti n : Nat} {i x : Int32} (hfr : fr = false) (hd : decode K.2.1 pc = .ok (.bastore, 1)) (hs : sh[k]? = some (.inr (ti, n, none))) (h0 : ti ≠ 0) (ht : xty[ti]? = some .boolean) (hin : vp_in i n)
    (kk : ∀ μ' : xM, μ' = xup μ k i.toNatClampNeg (vp_nar .boolean x) → sx l R X Ex fr K n0 Z (pc + 1) L st sh μ' cs ss) : sx l R X Ex fr K n0 Z pc L (.int x :: .int i :: .ref (X.2 + k) :: st) sh μ cs ss := by
  intro p e s m args below meth c H locs ls hC hH hL
  subst hfr
  have hkl := (List.getElem?_eq_some_iff.mp hs).1
  refine va_zast hC.1 hC.2.1 hC.2.2.2.2.2.2.2.2.1 hH.1 (xwl_D hH.2.2.2.1) hH.2.1 k ti (by rw [xwl_get μ hs, xpic_i h0]) (xtys_at ht) hin hd (fun H1 locs1 hP _ hS => ?_)
  have h2 : xH X false n0 (sh.set k (.inr (ti, n, none))) (va_up μ k (upd (μ k) i.toNatClampNeg (vp_nar .boolean x))) s H1 locs1 := by
    rw [← xpic_i (X := X) (n := n) (f := upd (μ k) i.toNatClampNeg (vp_nar .boolean x)) h0, xwl_set hkl] at hP
    exact ⟨hP, hS, by rw [List.length_set]; exact hH.2.2.1, fun h => by rw [List.length_set]; exact hH.2.2.2.1 h, fun h => by cases h⟩
  rw [xsame hs] at h2
  exact kk _ rfl p e s m args below meth c H1 locs1 ls hC h2 hL
theorem sx_widen {k n : Nat} (h1 : cs ≤ k) (h2 : ss ≤ n) (kk : sx l R X Ex fr K n0 Z pc L st sh μ k n) : sx l R X Ex fr K n0 Z pc L st sh μ cs ss :=
  fun p e s m args below meth c H locs ls hC hH hL => W.widen h1 h2 (kk p e s m args below meth c H locs ls hC hH hL)
end SXH
