/-! answer() throws: what is given for it, and its contract where it throws -/
abbrev aioN : String := "java/lang/ArrayIndexOutOfBoundsException"
abbrev aioUp : List String := ["java/lang/IndexOutOfBoundsException", "java/lang/RuntimeException", "java/lang/Exception"]
abbrev aioTx : String := "no such sign of an answer"
def stW : List Cond := [.laysStatic Bundle.tN "UNASSIGNED_STACK" Bundle.steD, .laysStatic Bundle.tN "SUPPRESSED_SENTINEL" Bundle.listD]
def srW : List Cond := [.isRef (.static Bundle.tN "UNASSIGNED_STACK" Bundle.steD), .isRef (.static Bundle.tN "SUPPRESSED_SENTINEL" Bundle.listD)]
def dcL : List String := ["java/lang/IndexOutOfBoundsException", "java/lang/RuntimeException", "java/lang/Exception", "java/lang/Throwable"]
def ExT (b : Nat) (U : State) : Prop := (Cond.stringRef "ExchangeWire" 68 aioTx).before #[] U = true ∧ (va_Nw (.castable aioN aioN) U ∧ ∀ n ∈ dcL, va_Nw (.declares (Bundle.initS n)) U) ∧ (∀ w ∈ stW, w.before #[] U = true) ∧ (∀ w ∈ srW, w.before #[] U = true) ∧ ∃ (c : ClassId) (k : Class) (aS : Nat), U.vm.findClass Bundle.tN = some c ∧ U.vm.classes[c]? = some k ∧ k.statics = some aS ∧ aS < b ∧ aS < U.heap.size
theorem ff_class {s : State} {cls name desc : String} {c i : Nat} {k : Class} {f : Field} (h : s.fieldFound? cls name desc = some (c, k, i, f)) : s.vm.classes[c]? = some k := by
  cases ht : parseFieldDescriptor desc with
  | none => simp [State.fieldFound?, ht] at h
  | some t =>
    simp only [State.fieldFound?, ht, Option.bind_eq_bind, Option.bind_some, Option.bind_eq_some_iff, Option.pure_def, Option.some.injEq, Prod.mk.injEq] at h
    obtain ⟨c0, _, ⟨c', i'⟩, hl, k', hk, f', hf, rfl, rfl, rfl, rfl⟩ := h
    exact hk
theorem ls_kept {s U : State} (hW : s.WarmedH U.vm) {c : ClassId} {k : Class} {aS : Nat} {f d : String} (h1 : s.vm.findClass Bundle.tN = some c) (h2 : s.vm.classes[c]? = some k) (h3 : k.statics = some aS) (hh : U.heap[aS]? = s.heap[aS]?) (h : (Cond.laysStatic Bundle.tN f d).before #[] s = true) : (Cond.laysStatic Bundle.tN f d).before #[] U = true := by
  have g := Cond.holds_shifted (State.Shifted.of_warmed hW) (.laysStatic Bundle.tN f d) [] rfl h
  obtain ⟨c', k', i, fd, a, cell, q1, q2, q3, q4, q5, q6, q7, q8, q9⟩ := Cond.laysStatic_spec g
  have hc : c' = c := by
    have := q1
    rw [show (s.setVm U.vm).vm = U.vm from rfl, hW.alike.findClass, h1] at this
    exact (Option.some.inj this).symm
  subst hc
  obtain ⟨k2, hk2, he⟩ := hW.alike.2.2 _ _ h2
  have hk' : k' = k2 := Option.some.inj ((ff_class q2).symm.trans hk2)
  have ha : a = aS := by
    rw [hk', he] at q4
    exact Option.some.inj (q4.symm.trans h3)
  subst ha
  have q5' : U.heap[a]? = some cell := hh.trans q5
  have q2' : U.fieldFound? Bundle.tN f d = some (c', k', i, fd) := q2
  have q1' : U.vm.findClass Bundle.tN = some c' := q1
  simp [Cond.before, Cond.holds, Cond.value, q1', q2', q3, q4, q5', q6, q7, q8, q9]
theorem sr_kept {s U : State} (hW : s.WarmedH U.vm) {c : ClassId} {k : Class} {aS : Nat} {f d : String} (h1 : s.vm.findClass Bundle.tN = some c) (h2 : s.vm.classes[c]? = some k) (h3 : k.statics = some aS) (hh : U.heap[aS]? = s.heap[aS]?) (hl : (Cond.laysStatic Bundle.tN f d).before #[] s = true) (h : (Cond.isRef (.static Bundle.tN f d)).before #[] s = true) : (Cond.isRef (.static Bundle.tN f d)).before #[] U = true := by
  have g := Cond.holds_shifted (State.Shifted.of_warmed hW) (.laysStatic Bundle.tN f d) [] rfl hl
  obtain ⟨c', k', i, fd, a, cell, q1, q2, q3, q4, q5, q6, q7, q8, q9⟩ := Cond.laysStatic_spec g
  have hc : c' = c := by
    have := q1
    rw [show (s.setVm U.vm).vm = U.vm from rfl, hW.alike.findClass, h1] at this
    exact (Option.some.inj this).symm
  subst hc
  obtain ⟨k2, hk2, he⟩ := hW.alike.2.2 _ _ h2
  have hk' : k' = k2 := Option.some.inj ((ff_class q2).symm.trans hk2)
  have ha : a = aS := by
    rw [hk', he] at q4
    exact Option.some.inj (q4.symm.trans h3)
  subst ha
  have q5' : U.heap[a]? = some cell := hh.trans q5
  have q5s : s.heap[a]? = some cell := q5
  have q2' : U.fieldFound? Bundle.tN f d = some (c', k', i, fd) := q2
  have gr := Cond.holds_shifted (State.Shifted.of_warmed hW) (.isRef (.static Bundle.tN f d)) [] rfl h
  have e : (Term.static Bundle.tN f d).eval #[] U none [] U = (Term.static Bundle.tN f d).eval #[] (s.setVm U.vm) none [] (s.setVm U.vm) := by
    simp [Term.eval, State.fieldNamed?, q2, q2', q3, q4, q5', q5, q5s]
  simp only [Cond.before, Cond.holds, Cond.value] at gr ⊢
  rw [e]
  exact gr
theorem ExT_st {X : xD} {fr : Bool} {n : Nat} : xEs X fr n (ExT X.2) := by
  rintro s U hW hz hk ⟨h1, h2, h3, h4, c, k, aS, g1, g2, g3, g4, g5⟩
  have hh : U.heap[aS]? = s.heap[aS]? := hk aS g5 (fun q => by have := q.1; omega)
  obtain ⟨k2, hk2, he⟩ := hW.alike.2.2 _ _ g2
  refine ⟨Cond.stringRef_warmed hW h1, ⟨va_Nw.warmC hW h2.1, fun n hn => va_Nw.warmD hW (h2.2 n hn)⟩, fun w hw => ?_, fun w hw => ?_, c, k2, aS, by rw [hW.alike.findClass]; exact g1, hk2, by rw [he]; exact g3, g4, by omega⟩
  · have hw' := hw
    simp only [stW, List.mem_cons, List.not_mem_nil, or_false] at hw'
    rcases hw' with rfl | rfl
    · exact ls_kept hW g1 g2 g3 hh (h3 _ hw)
    · exact ls_kept hW g1 g2 g3 hh (h3 _ hw)
  · have hw' := hw
    simp only [srW, List.mem_cons, List.not_mem_nil, or_false] at hw'
    rcases hw' with rfl | rfl
    · exact sr_kept hW g1 g2 g3 hh (h3 _ (by simp [stW])) (h4 _ hw)
    · exact sr_kept hW g1 g2 g3 hh (h3 _ (by simp [stW])) (h4 _ hw)
set_option maxRecDepth 20000 in
theorem oa_split : ∀ w ∈ Bundle.ownAtoms "ExchangeWire" 70 aioN aioUp, w ∈ xws ∨ w ∈ stW ∨ w ∈ srW ∨ w = Cond.castable aioN aioN ∨ w ∈ dcL.map (fun n => Cond.declares (Bundle.initS n)) := by decide +kernel
theorem oa_all {b : Nat} {args : Array Value} {s : State} (hts : ∀ w ∈ xws, w.before args s = true) (hE : ExT b s) : ∀ w ∈ Bundle.ownAtoms "ExchangeWire" 70 aioN aioUp, w.before args s = true := by
  intro w hw
  rcases oa_split w hw with h | h | h | h | h
  · exact hts w h
  · have h1 := hE.2.2.1 w h
    simp only [stW, List.mem_cons, List.not_mem_nil, or_false] at h
    rcases h with rfl | rfl <;> exact h1
  · have h1 := hE.2.2.2.1 w h
    simp only [srW, List.mem_cons, List.not_mem_nil, or_false] at h
    rcases h with rfl | rfl <;> exact h1
  · rw [h]
    exact va_Nw.use rfl hE.2.1.1
  · obtain ⟨n, hn, rfl⟩ := List.mem_map.mp h
    exact va_Nw.use rfl (hE.2.1.2 n hn)
/-- a call that changes nothing, where nothing has changed -/
theorem W_pure {p : Program} {l : Launch} {e : Env} {R : Room} {s : State} {m : MethodId} {args : Array Value} {below : List Frame} {meth : Method} {c : Code} {Q : State → Prop} {X : xD} {pc : Nat} {ls : Array Slot} {st st0 : List Value} {Po : Option Value → List xS → xM → Prop} {aa : Array Value}
    (hr : va_Run p l e R s m args below meth c s.heap [] 0 0 0 0 (F0 m pc ls st0) st (xQ X false 0 Po aa) (xA X.2 0 false)) (kk : ∀ (r : Option Value) (sh' : List xS) (μ' : xM), Po r sh' μ' → W p l e R s m args below meth c s.heap [] 0 0 Q (F0 m (pc + 3) ls (r.toList ++ st))) : W p l e R s m args below meth c s.heap [] 0 0 Q (F0 m pc ls st0) := by
  intro T hT X'
  obtain ⟨v, st₀, t, T', L', h0, X1, hL', e1, e2, ⟨⟨r, sh', μ', hv, hp, -⟩, -⟩, stp⟩ := hr T hT X'
  cases hv
  have hn : L' = [] := by
    cases L' with
    | nil => rfl
    | cons q r =>
      have h := hL' q List.mem_cons_self
      have := h.1
      rcases h.2 with z | z
      · cases z
      · omega
  subst hn
  have hh : T'.heap = s.heap := by rw [X1.home]; rfl
  obtain ⟨t2, a1, b1⟩ := kk _ sh' μ' hp T' hh X1
  exact ⟨t2, stp t2 a1, b1⟩
def QT (X : xD) (μ : xM) : Array Value → State → Outcome → State → Prop := fun _ st o t => ∃ (a : Addr) (ce : Cell), o = .threw a ∧ t.heap[a]? = some ce ∧ ce.vm.isStatics = false ∧ st.vm.findClass aioN = some ce.cls ∧ va_P X.1.1 classes (xwl X shA μ) t.heap ∧ Jvm.Free.FrameEndT st o t [] 1 6
abbrev rmT : Room := { frames := 8, cells := 1, slots := 6, locals := 140 }
