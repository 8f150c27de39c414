/-! The block: cells at b, b + 1 ..; a shape says what each is, a table of ints what it holds. -/
abbrev xS : Type := (Nat × List (Option (Option Nat))) ⊕ (Nat × Nat × Option (List (Option Nat)))
abbrev xM : Type := Nat → Nat → Int32
abbrev xD : Type := (va_G × (Nat → ClassId)) × Nat
def xfs (b : Nat) (f : Nat → Int32) : List (Option (Option Nat)) → Nat → List Value
  | [], _ => []
  | none :: r, j => Value.int (f j) :: xfs b f r (j + 1)
  | some none :: r, j => Value.null :: xfs b f r (j + 1)
  | some (some k) :: r, j => Value.ref (b + k) :: xfs b f r (j + 1)
theorem xfs_len (b : Nat) (f : Nat → Int32) : ∀ (fl : List (Option (Option Nat))) (i : Nat), (xfs b f fl i).length = fl.length
  | [], _ => rfl
  | none :: r, j => by simp [xfs, xfs_len b f r]
  | some none :: r, j => by simp [xfs, xfs_len b f r]
  | some (some k) :: r, j => by simp [xfs, xfs_len b f r]
def xval (b : Nat) (o : Option (Option Nat)) (x : Int32) : Value := match o with
  | none => .int x
  | some none => .null
  | some (some k) => .ref (b + k)
theorem xfs_get (b : Nat) (f : Nat → Int32) : ∀ (fl : List (Option (Option Nat))) (i j : Nat) (o : Option (Option Nat)), fl[j]? = some o → (xfs b f fl i)[j]? = some (xval b o (f (i + j)))
  | [], i, j, o, h => by simp at h
  | a :: r, i, 0, o, h => by
    have h : a = o := by simpa using h
    subst h
    match a with
    | none => rfl
    | some none => rfl
    | some (some k) => rfl
  | a :: r, i, j + 1, o, h => by
    have ih := xfs_get b f r (i + 1) j o (by simpa using h)
    rw [show i + 1 + j = i + (j + 1) by omega] at ih
    match a with
    | none => simpa [xfs] using ih
    | some none => simpa [xfs] using ih
    | some (some k) => simpa [xfs] using ih
theorem xfs_set (b : Nat) (f : Nat → Int32) (o : Option (Option Nat)) (x : Int32) : ∀ (fl : List (Option (Option Nat))) (i j : Nat), xfs b (upd f (i + j) x) (fl.set j o) i = (xfs b f fl i).set j (xval b o x)
  | [], i, j => by simp [xfs]
  | a :: r, i, 0 => by
    have e : ∀ (fl : List (Option (Option Nat))) (k : Nat), i < k → xfs b (upd f i x) fl k = xfs b f fl k := by
      intro fl
      induction fl with
      | nil => intro k _; rfl
      | cons a r ih =>
        intro k hk
        match a with
        | none => simp [xfs, ih (k + 1) (by omega), upd, Nat.ne_of_gt hk]
        | some none => simp [xfs, ih (k + 1) (by omega)]
        | some (some z) => simp [xfs, ih (k + 1) (by omega)]
    match a, o with
    | none, none => simp [xfs, xval, e r (i + 1) (by omega), upd]
    | none, some none => simp [xfs, xval, e r (i + 1) (by omega), upd]
    | none, some (some z) => simp [xfs, xval, e r (i + 1) (by omega), upd]
    | some none, none => simp [xfs, xval, e r (i + 1) (by omega), upd]
    | some none, some none => simp [xfs, xval, e r (i + 1) (by omega), upd]
    | some none, some (some z) => simp [xfs, xval, e r (i + 1) (by omega), upd]
    | some (some y), none => simp [xfs, xval, e r (i + 1) (by omega), upd]
    | some (some y), some none => simp [xfs, xval, e r (i + 1) (by omega), upd]
    | some (some y), some (some z) => simp [xfs, xval, e r (i + 1) (by omega), upd]
  | a :: r, i, j + 1 => by
    have ih := xfs_set b f o x r (i + 1) j
    rw [show i + 1 + j = i + (j + 1) by omega] at ih
    have hn : i ≠ i + (j + 1) := by omega
    match a with
    | none => simp [xfs, ih, upd]
    | some none => simp [xfs, ih]
    | some (some k) => simp [xfs, ih]
def xpic (X : xD) (s : xS) (f : Nat → Int32) : va_E := match s with
  | .inl (ci, fl) => .inr (ci, xfs X.2 f fl 0)
  | .inr (ti, n, none) => .inl (X.1.2 ti, n, if ti = 0 then .inr (.inl (fun j => (f j).toInt64)) else .inl f)
  | .inr (ti, n, some g) => .inl (X.1.2 ti, n, .inr (.inr (.inr (.inr (fun i => (g.getD i none).map (X.2 + ·))))))
def xwl (X : xD) (sh : List xS) (μ : xM) : va_W := sh.mapIdx fun k s => (X.2 + k, xpic X s (μ k))
theorem xwl_get {X : xD} {sh : List xS} {k : Nat} {s : xS} (μ : xM) (h : sh[k]? = some s) : (xwl X sh μ)[k]? = some (X.2 + k, xpic X s (μ k)) := by
  simp [xwl, List.getElem?_mapIdx, h]
theorem xwl_len (X : xD) (sh : List xS) (μ : xM) : (xwl X sh μ).length = sh.length := by simp [xwl]
theorem xwl_of {X : xD} {sh : List xS} {μ : xM} {k : Nat} {q : Nat × va_E} (h : (xwl X sh μ)[k]? = some q) : ∃ s, sh[k]? = some s ∧ q = (X.2 + k, xpic X s (μ k)) := by
  simp only [xwl, List.getElem?_mapIdx] at h
  cases hs : sh[k]? with
  | none => rw [hs] at h; cases h
  | some s => rw [hs] at h; exact ⟨s, rfl, (Option.some.inj h).symm⟩
theorem xwl_set {X : xD} {sh : List xS} {μ : xM} {k : Nat} {s' : xS} {f : Nat → Int32} (hk : k < sh.length) : (xwl X sh μ).set k (X.2 + k, xpic X s' f) = xwl X (sh.set k s') (va_up μ k f) := by
  apply List.ext_getElem?
  intro i
  by_cases hi : i = k
  · subst hi
    simp [xwl, List.getElem?_mapIdx, va_up, hk]
  · rw [List.getElem?_set_ne (fun h => hi h.symm)]
    simp [xwl, List.getElem?_mapIdx, va_up, hi, List.getElem?_set_ne (fun h => hi h.symm : k ≠ i)]
theorem xwl_push {X : xD} {sh : List xS} {μ : xM} {s' : xS} {f : Nat → Int32} : xwl X sh μ ++ [(X.2 + sh.length, xpic X s' f)] = xwl X (sh ++ [s']) (va_up μ sh.length f) := by
  apply List.ext_getElem?
  intro i
  by_cases hi : i < sh.length
  · have hs : sh[i]? = some sh[i] := List.getElem?_eq_getElem hi
    rw [List.getElem?_append_left (by rw [xwl_len]; exact hi), xwl_get μ hs, xwl_get _ ((List.getElem?_append_left hi).trans hs)]
    simp [va_up, Nat.ne_of_lt hi]
  · rw [List.getElem?_append_right (by rw [xwl_len]; omega), xwl_len]
    by_cases he : i = sh.length
    · subst he
      rw [xwl_get _ (s := s') (by simp)]
      simp [va_up]
    · rw [List.getElem?_eq_none (by simp; omega), List.getElem?_eq_none (by rw [xwl_len]; simp; omega)]
def xA (b n0 : Nat) (fr : Bool) : Nat → Prop := fun q => b ≤ q ∧ (fr = true ∨ q < b + n0)
theorem xwl_D {X : xD} {sh : List xS} {μ : xM} {n0 : Nat} {fr : Bool} (h : fr = false → sh.length = n0) : va_D (xA X.2 n0 fr) (xwl X sh μ) := by
  refine ⟨fun i j p q hp hq e => ?_, fun k q hq => ?_⟩
  · obtain ⟨s1, -, rfl⟩ := xwl_of hp
    obtain ⟨s2, -, rfl⟩ := xwl_of hq
    have e : X.2 + i = X.2 + j := e
    omega
  · obtain ⟨s1, h1, rfl⟩ := xwl_of hq
    have hl := (List.getElem?_eq_some_iff.mp h1).1
    refine ⟨Nat.le_add_right _ _, ?_⟩
    cases fr with
    | true => exact Or.inl rfl
    | false => exact Or.inr (by have := h rfl; show X.2 + k < X.2 + n0; omega)
/-! locals by place -/
def xlv : List (Option Value) → Nat → List (Nat × Value)
  | [], _ => []
  | none :: r, i => xlv r (i + 1)
  | some v :: r, i => (i, v) :: xlv r (i + 1)
theorem xlv_mem : ∀ (L : List (Option Value)) (i : Nat) (q : Nat × Value), q ∈ xlv L i ↔ ∃ j, L[j]? = some (some q.2) ∧ q.1 = i + j
  | [], i, q => by simp [xlv]
  | none :: r, i, q => by
    rw [show xlv (none :: r) i = xlv r (i + 1) from rfl, xlv_mem r (i + 1) q]
    constructor
    · rintro ⟨j, h1, h2⟩
      exact ⟨j + 1, by simpa using h1, by omega⟩
    · rintro ⟨j, h1, h2⟩
      match j, h1, h2 with
      | 0, h1, _ => simp at h1
      | j + 1, h1, h2 => exact ⟨j, by simpa using h1, by omega⟩
  | some v :: r, i, q => by
    rw [show xlv (some v :: r) i = (i, v) :: xlv r (i + 1) from rfl, List.mem_cons, xlv_mem r (i + 1) q]
    constructor
    · rintro (rfl | ⟨j, h1, h2⟩)
      · exact ⟨0, rfl, rfl⟩
      · exact ⟨j + 1, by simpa using h1, by omega⟩
    · rintro ⟨j, h1, h2⟩
      match j, h1, h2 with
      | 0, h1, h2 =>
        have h1 : v = q.2 := by simpa using h1
        exact Or.inl (Prod.ext (by omega) h1.symm)
      | j + 1, h1, h2 => exact Or.inr ⟨j, by simpa using h1, by omega⟩
def xL (ls : Array Slot) (nL : Nat) (L : List (Option Value)) : Prop := lv_has ls nL (xlv L 0) ∧ ∀ (j : Nat) (v : Value), L[j]? = some (some v) → v.category = 1
theorem xL_at {ls : Array Slot} {nL i : Nat} {L : List (Option Value)} {v : Value} (h : xL ls nL L) (hi : L[i]? = some (some v)) : ls[i]? = some (.val v) :=
  h.1.2.2 (i, v) ((xlv_mem L 0 (i, v)).mpr ⟨i, hi, (Nat.zero_add i).symm⟩)
theorem xL_set {ls : Array Slot} {nL i : Nat} {L : List (Option Value)} {v : Value} (h : xL ls nL L) (hv : v.category = 1) {ls' : Array Slot} (hl' : lv_has ls' nL ((i, v) :: (xlv L 0).filter (fun q => !(q.1 == i) && !(q.1 + 1 == i && q.2.category == 2)))) : xL ls' nL (L.set i (some v)) := by
  refine ⟨⟨hl'.1, hl'.2.1, fun q hq => ?_⟩, fun j w hj => ?_⟩
  · obtain ⟨j, h1, h2⟩ := (xlv_mem _ _ _).mp hq
    refine hl'.2.2 q ?_
    by_cases hj : i = j
    · subst hj
      have hlt : i < L.length := by
        have := (List.getElem?_eq_some_iff.mp h1).1
        simpa using this
      rw [List.getElem?_set_self hlt] at h1
      have h1 : v = q.2 := by simpa using h1
      exact List.mem_cons.mpr (Or.inl (Prod.ext (by omega) h1.symm))
    · rw [List.getElem?_set_ne hj] at h1
      refine List.mem_cons_of_mem _ (List.mem_filter.mpr ⟨(xlv_mem _ _ _).mpr ⟨j, h1, h2⟩, ?_⟩)
      have hc := h.2 j _ h1
      have hn : ¬ q.1 = i := by omega
      simp [hn, hc]
  · by_cases hi : i = j
    · subst hi
      have hlt : i < L.length := by
        have := (List.getElem?_eq_some_iff.mp hj).1
        simpa using this
      rw [List.getElem?_set_self hlt] at hj
      have hj : v = w := by simpa using hj
      exact hj ▸ hv
    · rw [List.getElem?_set_ne hi] at hj
      exact h.2 j w hj
