/-! Contracts over the block, and the rows of a call. -/
def xisN : Cond → Bool
  | .fieldLinkNest .. => true
  | .methodLinkNest .. => true
  | _ => false
theorem xnw_warm {w : Cond} (h : xisN w = true) {s U : State} (hW : s.WarmedH U.vm) (hz : va_Nw w s) : va_Nw w U := by
  cases w <;> first | exact va_Nw.warmF hW hz | exact va_Nw.warmM hW hz | cases h
theorem xnw_ok : ∀ w ∈ xnw, xisN w = true := by decide +kernel
def xQ (X : xD) (fr : Bool) (n0 : Nat) (Po : Option Value → List xS → xM → Prop) : Array Value → State → Outcome → State → Prop := fun _ st oc t =>
  (∃ (r : Option Value) (sh' : List xS) (μ' : xM), oc = .returned r ∧ Po r sh' μ' ∧ va_P X.1.1 classes (xwl X sh' μ') t.heap ∧ n0 ≤ sh'.length ∧ (fr = false → sh'.length = n0) ∧ (fr = true → t.heap.size = X.2 + sh'.length)) ∧ va_F (xA X.2 n0 fr) st t
abbrev xZ (X : xD) (fr : Bool) (n0 : Nat) (Po : Option Value → List xS → xM → Prop) (mc ms : Nat) : List Frame → Array Value → State → State → Prop := fun below args s => MQ below (xQ X fr n0 Po) args s mc ms (xA X.2 n0 fr)
def xpre (X : xD) (Ex : State → Prop) (fr : Bool) (sh : List xS) (μ : xM) (U : State) : Prop := va_P X.1.1 classes (xwl X sh μ) U.heap ∧ va_K X.1.1 classes (xtys X) U ∧ (∀ w ∈ xnw, va_Nw w U) ∧ Ex U ∧ (fr = true → U.heap.size = X.2 + sh.length)
/-- what a method is given besides the block stays given -/
def xEs (X : xD) (fr : Bool) (n : Nat) (Ex : State → Prop) : Prop := ∀ s U : State, s.WarmedH U.vm → s.heap.size ≤ U.heap.size → (∀ q, q < s.heap.size → ¬ xA X.2 n fr q → U.heap[q]? = s.heap[q]?) → Ex s → Ex U
theorem xEs_true {X : xD} {fr : Bool} {n : Nat} : xEs X fr n (fun _ => True) := fun _ _ _ _ _ _ => trivial
def Ct (X : xD) (Ex : State → Prop) (fr : Bool) (y : MethodName) (K : xK) (rm : Room) (As : List Value) (sh : List xS) (μ : xM) (Po : Option Value → List xS → xM → Prop) : Prop :=
  ∀ l : Launch, Met l y (.code y K.2.1 K.2.2.1 K.2.2.2.1 :: xws) rm (va_Pc As (xpre X Ex fr sh μ)) (xQ X fr sh.length Po) rm.cells rm.slots (xA X.2 sh.length fr)
theorem xpre_blind {X : xD} {Ex : State → Prop} {fr : Bool} {As : List Value} {sh : List xS} {μ : xM} (hE : xEs X fr sh.length Ex) : FrameBlind (va_Pc As (xpre X Ex fr sh μ)) := by
  rintro a U g mk ⟨rfl, hP, hK, hN, hEx, hf⟩
  refine ⟨rfl, hP, va_K.moved (u := U) (U := U.calling g mk _) (Vm.Alike.refl U.vm) hK, fun w hw => xnw_warm (xnw_ok w hw) (U := U.calling g mk _) (State.WarmedH.refl U) (hN w hw), hE U (U.calling g mk _) (State.WarmedH.refl U) (Nat.le_refl _) (fun _ _ _ => rfl) hEx, hf⟩
theorem xlv_args (As : List Value) (h : ∀ v ∈ As, v.category = 1) (i n : Nat) : xlv (As.map some ++ List.replicate n none) i = lv_args i As := by
  induction As generalizing i with
  | nil =>
    induction n generalizing i with
    | zero => rfl
    | succ n ih => exact ih (i + 1)
  | cons v r ih =>
    have hv := h v List.mem_cons_self
    show (i, v) :: xlv (r.map some ++ List.replicate n none) (i + 1) = lv_args i (v :: r)
    rw [ih (fun w hw => h w (List.mem_cons_of_mem _ hw))]
    simp [lv_args, hv]
theorem lg_sl_len (As : List Value) (h : ∀ v ∈ As, v.category = 1) : (lg_sl As).length = As.length := by
  induction As with
  | nil => rfl
  | cons v r ih =>
    have hv := h v List.mem_cons_self
    have := ih (fun w hw => h w (List.mem_cons_of_mem _ hw))
    unfold lg_sl at this ⊢
    simp [hv, this]
theorem vp_vm (cA : ClassId) (a : vp_A) : (vp_cell cA a).vm = .none := by
  obtain ⟨n, f | f | f | f | f⟩ := a <;> rfl
theorem xNS {X : xD} {fr : Bool} {sh : List xS} {μ : xM} {H : Heap} (hP : va_P X.1.1 classes (xwl X sh μ) H) (hf : fr = true → H.size = X.2 + sh.length) {q : Nat} (hq : xA X.2 sh.length fr q) {cell : Cell} (hc : H[q]? = some cell) : cell.vm.isStatics = false := by
  have hlt : q < X.2 + sh.length := by
    rcases hq.2 with h | h
    · rw [← hf h]
      exact (Array.getElem?_eq_some_iff.mp hc).1
    · exact h
  obtain ⟨k, rfl⟩ : ∃ k, q = X.2 + k := ⟨q - X.2, by have := hq.1; omega⟩
  have hk : k < sh.length := by omega
  have h := hP k _ (xwl_get μ (List.getElem?_eq_getElem hk))
  cases hs : sh[k] with
  | inl o =>
    rw [hs] at h
    obtain ⟨r, -, cell', h1, -, h3, -⟩ := h
    cases h1.symm.trans hc
    rw [h3]
    rfl
  | inr a =>
    obtain ⟨ti, n, g⟩ := a
    rw [hs] at h
    cases g with
    | none =>
      have h : H[X.2 + k]? = some (vp_cell (X.1.2 ti) (n, if ti = 0 then .inr (.inl (fun j => (μ k j).toInt64)) else .inl (μ k))) := h
      cases h.symm.trans hc
      rw [vp_vm]
      rfl
    | some g =>
      have h : H[X.2 + k]? = some (vp_cell (X.1.2 ti) (n, .inr (.inr (.inr (.inr (fun i => (g.getD i none).map (X.2 + ·))))))) := h
      cases h.symm.trans hc
      rw [vp_vm]
      rfl
theorem Ct.of {X : xD} {Ex : State → Prop} {fr : Bool} {y : MethodName} {K : xK} {rm : Room} {As : List Value} {sh : List xS} {μ : xM} {Po : Option Value → List xS → xM → Prop} {L0 : List (Option Value)} (hy : plainName y.cls = true) (hK : K.1 = y.cls) (hi : K.2.2.2.2 = true → y.name = "<init>") (hc : ∀ v ∈ As, v.category = 1) (hn : As.length ≤ K.2.2.1) (hL0 : As.map some ++ List.replicate (K.2.2.1 - As.length) none = L0)
    (h : ∀ l : Launch, sx l rm X Ex fr K sh.length (xZ X fr sh.length Po rm.cells rm.slots) 0 L0 [] sh μ 0 0) : Ct X Ex fr y K rm As sh μ Po := by
  intro l
  subst hL0
  refine Met.ofW (cc := K.2.1) (maxL := K.2.2.1) (ret := K.2.2.2.1) hy rfl ?_
  intro p e s m args below meth c s₁ B hml hv
  obtain ⟨rfl, hP, hKk, hN, hEx, hf⟩ := hv
  have hts := atoms_spec (ws := (.code y K.2.1 K.2.2.1 K.2.2.2.1 :: xws)) B.pre
  have hl := lv_entry As (n := K.2.2.1) (by rw [lg_sl_len As hc]; exact hn)
  rw [lg_entry_eq]
  refine h l p e s m As.toArray below meth c s.heap [] _ ⟨B.exec, B.bytes, hml, B.returns, B.notSynchronized, by rw [hK]; exact findClass_of_methodNamed B.named, fun w hw => hts w (List.mem_cons_of_mem _ hw), hN, hKk, hEx, hf, fun q => ?_, fun q hq cell hcell => ?_⟩ ⟨hP, va_S.rf, Nat.le_refl _, fun _ => rfl, hf⟩ ⟨?_, fun j v hj => ?_⟩
  · exact (name_of_methodNamed B.named B.method).1.trans (hi q)
  · exact xNS hP hf hq hcell
  · rw [xlv_args As hc]
    exact hl
  · have hm := List.mem_of_getElem? hj
    rcases List.mem_append.mp hm with h1 | h1
    · obtain ⟨w, hw, e⟩ := List.mem_map.mp h1
      cases e
      exact hc v hw
    · have := (List.mem_replicate.mp h1).2
      cases this
/-- what the tables say of a method that is called -/
def xcB (y : MethodName) (K : xK) (n : Nat) : Prop := Cond.code y K.2.1 K.2.2.1 K.2.2.2.1 ∈ xws ∧ Cond.initialized y.cls ∈ xws ∧ y.cls ≠ "java/lang/invoke/MethodHandle" ∧ y.cls ≠ "java/lang/invoke/VarHandle" ∧ (parseMethodDescriptor y.desc).map (fun d => d.parameters.length) = some n
def xcV (y : MethodName) (K : xK) (n : Nat) : Prop := xcB y K n ∧ Cond.instanceMethod y ∈ xws ∧ Cond.selects y.cls y y ∈ xws
def xcS (y : MethodName) (K : xK) (n : Nat) : Prop := xcB y K n ∧ Cond.static y ∈ xws
def xcI (y : MethodName) (K : xK) (n : Nat) : Prop := xcB y K n ∧ Cond.instanceMethod y ∈ xws ∧ y.name = "<init>"
theorem xgood {y : MethodName} {K : xK} {n : Nat} (h : xcB y K n) : GoodIn xws (.code y K.2.1 K.2.2.1 K.2.2.2.1 :: xws) := by
  intro w hw
  rcases List.mem_cons.mp hw with rfl | hw
  · exact ⟨h.1, good_of_word (List.mem_filter.mp h.1).2⟩
  · exact ⟨hw, good_of_word (List.mem_filter.mp hw).2⟩
section SXC
variable {l : Launch} {R : Room} {X : xD} {Ex : State → Prop} {fr : Bool} {K K' : xK} {n0 : Nat} {Z : List Frame → Array Value → State → State → Prop} {pc : Nat} {L : List (Option Value)} {st st0 : List Value} {sh : List xS} {μ : xM} {cs ss : Nat} {y : MethodName} {rm : Room} {As : List Value} {Po : Option Value → List xS → xM → Prop}
theorem xA_call {n0 n : Nat} {b : Nat} {fr : Bool} (h : fr = false → n = n0) {q : Nat} (hq : xA b n fr q) : xA b n0 fr q := by
  cases fr with
  | true => exact ⟨hq.1, Or.inl rfl⟩
  | false => rw [← h rfl]; exact hq
/-- behind a call -/
theorem xcall_on {p : Program} {e : Env} {s : State} {m : MethodId} {args : Array Value} {below : List Frame} {meth : Method} {c : Code} {H : Heap} {locs : List Loc} {ls : Array Slot} {aa : Array Value}
    (hC : xC X Ex fr K n0 p s m args meth c) (hH : xH X fr n0 sh μ s H locs) (hL : xL ls K.2.2.1 L)
    (hr : va_Run p l e R s m args below meth c H locs cs ss rm.cells rm.slots (F0 m pc ls st0) st (xQ X fr sh.length Po aa) (xA X.2 sh.length fr))
    (kk : ∀ (r : Option Value) (sh' : List xS) (μ' : xM), Po r sh' μ' → sx l R X Ex fr K n0 Z (pc + 3) L (r.toList ++ st) sh' μ' (cs + rm.cells) (ss + rm.slots)) : W p l e R s m args below meth c H locs cs ss (Z below args s) (F0 m pc ls st0) := by
  intro T hT X'
  obtain ⟨v, st₀, t, T', L', h0, X1, hL', e1, e2, ⟨⟨r, sh', μ', hv, hp, hP', hn', hf', hz'⟩, hzF, hkF⟩, stp⟩ := hr T hT X'
  cases hv
  rw [h0] at hzF hkF
  have hA : ∀ q, xA X.2 sh.length fr q → xA X.2 n0 fr q := fun q => xA_call hH.2.2.2.1
  obtain ⟨t2, a1, b1⟩ := kk _ sh' μ' hp p e s m args below meth c T'.heap (locs ++ L') ls hC ⟨by rw [e1]; exact hP', ⟨Nat.le_trans hH.2.1.1 (by rw [e1]; exact hzF), fun q h1 h2 => by
      rw [e1, hkF q (Nat.lt_of_lt_of_le h1 hH.2.1.1) (fun z => h2 (hA q z))]; exact hH.2.1.2.1 q h1 h2, fun q hq => by
      rcases List.mem_append.mp hq with h | h
      · exact hH.2.1.2.2 q h
      · exact hA _ (hL' q h)⟩, Nat.le_trans hH.2.2.1 hn', fun h => (hf' h).trans (hH.2.2.2.1 h), fun h => by rw [e1]; exact hz' h⟩ hL T' rfl X1
  exact ⟨t2, stp t2 a1, b1⟩
theorem xpre_at {p : Program} {s : State} {m : MethodId} {args : Array Value} {meth : Method} {c : Code} {H : Heap} {locs : List Loc} (hC : xC X Ex fr K n0 p s m args meth c) (hH : xH X fr n0 sh μ s H locs) (hE : xEs X fr n0 Ex) {U : State} (hU : U.heap = H) (hW : s.WarmedH U.vm) : xpre X Ex fr sh μ U := by
  refine ⟨by rw [hU]; exact hH.1, va_K.moved hW.alike hC.2.2.2.2.2.2.2.2.1, fun w hw => xnw_warm (xnw_ok w hw) hW (hC.2.2.2.2.2.2.2.1 w hw), hE s U hW (by rw [hU]; exact hH.2.1.1) (fun q h1 h2 => by rw [hU]; exact hH.2.1.2.1 q h1 h2) hC.2.2.2.2.2.2.2.2.2.1, fun h => by rw [hU]; exact hH.2.2.2.2 h⟩
theorem xEs_sub {n0 n : Nat} (hE : xEs X fr n0 Ex) (h : fr = false → n = n0) : xEs X fr n Ex := fun s U hW hz hk hx => hE s U hW hz (fun q h1 h2 => hk q h1 (fun z => h2 (xA_call h z))) hx
theorem xroom {m : MethodId} {pc : Nat} {ls : Array Slot} {st0 st : List Value} (h : (st.map fun v => v.category).sum ≤ 8) : 2 * (F0 m pc ls st0).monitorRoom + (st.map fun v => v.category).sum ≤ 8 := by
  simpa [JFrame.monitorRoom] using h
theorem sx_callV {i k ci N : Nat} {T : u_T} {fl : List (Option (Option Nat))} (hd : decode K.2.1 pc = .ok (.invokevirtual i, 3)) (hct : Ct X Ex fr y K' rm (.ref (X.2 + k) :: As) sh μ Po) (hw : xcV y K' As.length) (hl : Cond.methodLink K.1 i y ∈ xws) (hst : st0 = As.reverse ++ .ref (X.2 + k) :: st) (hs : sh[k]? = some (.inl (ci, fl))) (hc : classes[ci]? = some (y.cls, T, N)) (hm : rm.frames + 1 ≤ R.frames ∧ 8 + (K'.2.2.1 + 11) + rm.locals ≤ R.locals) (hf : cs + rm.cells ≤ R.cells ∧ ss + rm.slots ≤ R.slots) (h8 : (st.map fun v => v.category).sum ≤ 8) (hE : xEs X fr n0 Ex)
    (kk : ∀ (r : Option Value) (sh' : List xS) (μ' : xM), Po r sh' μ' → sx l R X Ex fr K n0 Z (pc + 3) L (r.toList ++ st) sh' μ' (cs + rm.cells) (ss + rm.slots)) : sx l R X Ex fr K n0 Z pc L st0 sh μ cs ss := by
  intro p e s m args below meth c H locs ls hC hH hL
  subst hst
  have hts := hC.2.2.2.2.2.2.1
  refine xcall_on hC hH hL (va_runV (As := As) (rest := st) (C := y.cls) ⟨hC.1, hC.2.1, hC.2.2.1, hC.2.2.2.2.2.1, hts⟩ (hct l) ⟨callB_of As.length hts (xgood hw.1) rfl rfl rfl (hts _ hw.1.2.1) (hts _ hl) hw.1.2.2 hm, hts _ hw.2.1, hts _ hw.2.2⟩ ⟨xpre_blind (xEs_sub hE hH.2.2.2.1), va_recv hC.2.2.2.2.2.2.2.2.1 hH.1 hc (xwl_get μ hs), fun U hU hW => ⟨rfl, xpre_at hC hH hE hU hW⟩⟩ rfl rfl hL.1.1 rfl (xroom h8) hd hf) kk
theorem sx_callS {i : Nat} (hd : decode K.2.1 pc = .ok (.invokestatic i, 3)) (hct : Ct X Ex fr y K' rm As sh μ Po) (hw : xcS y K' As.length) (hl : Cond.methodLink K.1 i y ∈ xws) (hst : st0 = As.reverse ++ st) (hm : rm.frames + 1 ≤ R.frames ∧ 8 + (K'.2.2.1 + 11) + rm.locals ≤ R.locals) (hf : cs + rm.cells ≤ R.cells ∧ ss + rm.slots ≤ R.slots) (h8 : (st.map fun v => v.category).sum ≤ 8) (hE : xEs X fr n0 Ex)
    (kk : ∀ (r : Option Value) (sh' : List xS) (μ' : xM), Po r sh' μ' → sx l R X Ex fr K n0 Z (pc + 3) L (r.toList ++ st) sh' μ' (cs + rm.cells) (ss + rm.slots)) : sx l R X Ex fr K n0 Z pc L st0 sh μ cs ss := by
  intro p e s m args below meth c H locs ls hC hH hL
  subst hst
  have hts := hC.2.2.2.2.2.2.1
  refine xcall_on hC hH hL (va_runS (As := As) (rest := st) ⟨hC.1, hC.2.1, hC.2.2.1, hC.2.2.2.2.2.1, hts⟩ (hct l) ⟨callB_of As.length hts (xgood hw.1) rfl rfl rfl (hts _ hw.1.2.1) (hts _ hl) hw.1.2.2 hm, hts _ hw.2⟩ ⟨xpre_blind (xEs_sub hE hH.2.2.2.1), fun U hU hW => ⟨rfl, xpre_at hC hH hE hU hW⟩⟩ rfl rfl hL.1.1 rfl (xroom h8) hd hf) kk
theorem sx_callSN {i : Nat} {host : String} (hd : decode K.2.1 pc = .ok (.invokestatic i, 3)) (hct : Ct X Ex fr y K' rm As sh μ Po) (hw : xcS y K' As.length) (hl : Cond.methodLinkNest K.1 i y host ∈ xnw) (hst : st0 = As.reverse ++ st) (hm : rm.frames + 1 ≤ R.frames ∧ 8 + (K'.2.2.1 + 11) + rm.locals ≤ R.locals) (hf : cs + rm.cells ≤ R.cells ∧ ss + rm.slots ≤ R.slots) (h8 : (st.map fun v => v.category).sum ≤ 8) (hE : xEs X fr n0 Ex)
    (kk : ∀ (r : Option Value) (sh' : List xS) (μ' : xM), Po r sh' μ' → sx l R X Ex fr K n0 Z (pc + 3) L (r.toList ++ st) sh' μ' (cs + rm.cells) (ss + rm.slots)) : sx l R X Ex fr K n0 Z pc L st0 sh μ cs ss := by
  intro p e s m args below meth c H locs ls hC hH hL
  subst hst
  have hts := hC.2.2.2.2.2.2.1
  refine xcall_on hC hH hL (va_runSN (As := As) (rest := st) ⟨hC.1, hC.2.1, hC.2.2.1, hC.2.2.2.2.2.1, hts⟩ (hct l) ⟨va_cnB As.length hts (xgood hw.1) rfl rfl rfl (hC.2.2.2.2.2.2.2.1 _ hl) (hts _ hw.1.2.1) hw.1.2.2 hm, hts _ hw.2, trivial⟩ ⟨xpre_blind (xEs_sub hE hH.2.2.2.1), fun U hU hW => ⟨rfl, xpre_at hC hH hE hU hW⟩⟩ rfl rfl hL.1.1 rfl (xroom h8) hd hf) kk
theorem sx_callI {i k : Nat} (hr : K'.2.2.2.1 = none) (hd : decode K.2.1 pc = .ok (.invokespecial i, 3)) (hct : Ct X Ex fr y K' rm (.ref (X.2 + k) :: As) sh μ Po) (hw : xcI y K' As.length) (hl : Cond.methodLink K.1 i y ∈ xws) (hst : st0 = As.reverse ++ .ref (X.2 + k) :: st) (hm : rm.frames + 1 ≤ R.frames ∧ 8 + (K'.2.2.1 + 11) + rm.locals ≤ R.locals) (hf : cs + rm.cells ≤ R.cells ∧ ss + rm.slots ≤ R.slots) (h8 : (st.map fun v => v.category).sum ≤ 8) (hE : xEs X fr n0 Ex)
    (kk : ∀ (r : Option Value) (sh' : List xS) (μ' : xM), Po r sh' μ' → sx l R X Ex fr K n0 Z (pc + 3) L (r.toList ++ st) sh' μ' (cs + rm.cells) (ss + rm.slots)) : sx l R X Ex fr K n0 Z pc L st0 sh μ cs ss := by
  intro p e s m args below meth c H locs ls hC hH hL
  subst hst
  obtain ⟨KA, KB, KC, KD, KE⟩ := K'
  have hr : KD = none := hr
  subst hr
  have hts := hC.2.2.2.2.2.2.1
  refine xcall_on hC hH hL (va_runI (As := As) (rest := st) ⟨hC.1, hC.2.1, hC.2.2.1, hC.2.2.2.2.2.1, hts⟩ (hct l) ⟨callB_of As.length hts (xgood hw.1) rfl rfl rfl (hts _ hw.1.2.1) (hts _ hl) hw.1.2.2 hm, hw.2.2, hts _ hw.2.1⟩ ⟨xpre_blind (xEs_sub hE hH.2.2.2.1), fun U hU hW => ⟨rfl, xpre_at hC hH hE hU hW⟩⟩ rfl rfl hL.1.1 rfl (xroom h8) hd hf) kk
theorem sx_callIN {i k : Nat} {host : String} (hr : K'.2.2.2.1 = none) (hd : decode K.2.1 pc = .ok (.invokespecial i, 3)) (hct : Ct X Ex fr y K' rm (.ref (X.2 + k) :: As) sh μ Po) (hw : xcI y K' As.length) (hl : Cond.methodLinkNest K.1 i y host ∈ xnw) (hst : st0 = As.reverse ++ .ref (X.2 + k) :: st) (hm : rm.frames + 1 ≤ R.frames ∧ 8 + (K'.2.2.1 + 11) + rm.locals ≤ R.locals) (hf : cs + rm.cells ≤ R.cells ∧ ss + rm.slots ≤ R.slots) (h8 : (st.map fun v => v.category).sum ≤ 8) (hE : xEs X fr n0 Ex)
    (kk : ∀ (r : Option Value) (sh' : List xS) (μ' : xM), Po r sh' μ' → sx l R X Ex fr K n0 Z (pc + 3) L (r.toList ++ st) sh' μ' (cs + rm.cells) (ss + rm.slots)) : sx l R X Ex fr K n0 Z pc L st0 sh μ cs ss := by
  intro p e s m args below meth c H locs ls hC hH hL
  subst hst
  obtain ⟨KA, KB, KC, KD, KE⟩ := K'
  have hr : KD = none := hr
  subst hr
  have hts := hC.2.2.2.2.2.2.1
  refine xcall_on hC hH hL (va_runIN (As := As) (rest := st) ⟨hC.1, hC.2.1, hC.2.2.1, hC.2.2.2.2.2.1, hts⟩ (hct l) ⟨va_cnB As.length hts (xgood hw.1) rfl rfl rfl (hC.2.2.2.2.2.2.2.1 _ hl) (hts _ hw.1.2.1) hw.1.2.2 hm, hw.2.2, hts _ hw.2.1⟩ ⟨xpre_blind (xEs_sub hE hH.2.2.2.1), fun U hU hW => ⟨rfl, xpre_at hC hH hE hU hW⟩⟩ rfl rfl hL.1.1 rfl (xroom h8) hd hf) kk
theorem sx_iret {ty : FieldType} {v : Int32} {mc ms : Nat} (hd : decode K.2.1 pc = .ok (.ireturn, 1)) (hr : K.2.2.2.1 = some ty) (hn : narrow ty (.int v) = .int v) (h1 : cs ≤ mc) (h2 : ss ≤ ms) (hp : Po (some (.int v)) sh μ) : sx l R X Ex fr K n0 (xZ X fr n0 Po mc ms) pc L [.int v] sh μ cs ss := by
  intro p e s m args below meth c H locs ls hC hH hL
  have hlocks := hC.2.2.2.2.1
  refine W.widen h1 h2 (W.zret (ty := ty) hC.1 hC.2.1 (hC.2.2.2.1.trans hr) hn (fun t ht hW => ⟨⟨_, sh, μ, rfl, hp, by rw [ht]; exact hH.1, hH.2.2.1, hH.2.2.2.1, fun h => by rw [ht]; exact hH.2.2.2.2 h⟩, hH.2.1.F ht⟩) hH.2.1.2.2 hd)
theorem sx_vret {mc ms : Nat} (hd : decode K.2.1 pc = .ok (.return_, 1)) (hr : K.2.2.2.1 = none) (h1 : cs ≤ mc) (h2 : ss ≤ ms) (hp : Po none sh μ) : sx l R X Ex fr K n0 (xZ X fr n0 Po mc ms) pc L [] sh μ cs ss := by
  intro p e s m args below meth c H locs ls hC hH hL
  have hlocks := hC.2.2.2.2.1
  refine W.widen h1 h2 (W.vret hC.1 hC.2.1 (hC.2.2.2.1.trans hr) (fun t ht hW => ⟨⟨_, sh, μ, rfl, hp, by rw [ht]; exact hH.1, hH.2.2.1, hH.2.2.2.1, fun h => by rw [ht]; exact hH.2.2.2.2 h⟩, hH.2.1.F ht⟩) hH.2.1.2.2 hd)
end SXC
