/-! THE CLAIM OUT OF ONE WALK OF THE LAW'S BODY. Your part is whole_start (and what it stands on); all else here is the same for every law, but numbers. -/
def R_law : String := "ExchangeWireLaw"
def lw_P (b : Addr) (xs : List Int32) (args : Array Value) (s : State) : Prop := args = #[.ref b] ∧ s.IntsAt b xs ∧ xs.length ≤ 2560 ∧ (Jvm.Cond.and given_1 narrow_1).before args s = true
def lw_Q (_ : Array Value) (s : State) (o : Outcome) (t : State) : Prop := o = .returned (some (.int 1)) ∧ Framed s o t [] 601024 7293034
def lw_Z (below : List Frame) (a : Array Value) (s : State) : State → Prop := fun t => ∃ o, t.status = .running ∧ Ended t below o ∧ lw_Q a s o t
/-- the law's own end, with 1 on the stack, nothing written that was there before, its room as the claim has it -/
theorem lw_ret {p : Program} {l : Launch} {e : Env} {s : State} {m : MethodId} {below : List Frame} {meth : Method} {c : Code} {args : Array Value} (hx : p.tables.exec = Jvm.exec) (hb : c.code = code) (hr : meth.sig.returnType = ret) (hlocks : meth.locks = false) {pc : Nat} {H : Heap} {ls : Array Slot} (hdg : decode code pc = .ok (.ireturn, 1)) : W p l e room_1 s m args below meth c H [] 601024 7293034 (lw_Z below args s) (F0 m pc ls [.int 1]) := by
  intro T hT X
  obtain ⟨fs, hret, hrun, hended, hW, hframe⟩ := X.leave (v := some (.int 1)) (hlocks := hlocks) (fun h => by rw [hr] at h; cases h)
  have hmeth' : T.vm.method? m = some meth := X.method'
  refine ⟨T.setFrames fs, ?_, .returned (some (.int 1)), hrun, hended, rfl, ⟨_, rfl⟩, hW, hframe⟩
  jvm_step X.here [X.here.top, hx, hb, hdg, hmeth', hr, ret, narrow_b1]
  (try refine ⟨rfl, ?_⟩); (try refine ⟨rfl, ?_⟩)
  first | (intro acts; rw [hret _ acts rfl rfl rfl]) | rw [hret _ _ rfl rfl rfl]
  exact Steps.refl _
/-- what holds at the law's entry: the machine, the code, the tables' words (any of lw_tbl by 'hts w (by decide +kernel)'), the script of L ints xs at the cell b, what the Statement gives of the start (any of its parts by flat_of_before) -/
def lw_At (p : Program) (s : State) (m : MethodId) (meth : Method) (c : Code) (b L : Nat) (xs : Nat → Int32) : Prop :=
  p.tables.exec = Jvm.exec ∧ c.code = code ∧ meth.sig.returnType = ret ∧ c.maxLocals = 7 ∧ s.vm.findClass R_law = some m.cls ∧ (∀ w ∈ lw_tbl, w.before #[Value.ref b] s = true) ∧ va_X b L xs s s.heap ∧ b < s.heap.size ∧ meth.locks = false ∧ (Jvm.Cond.and given_1 narrow_1).before #[Value.ref b] s = true
abbrev kL_law : xK := (RL, code, 7, ret, false)
def ZL (X : xD) : List Frame → Array Value → State → State → Prop := fun below args s t => s.heap.size = X.2 → lw_Z below args s t
def EL (X : xD) (bs L : Nat) (xs : Nat → Int32) (sk sv : Nat → Nat) (fm : Option Nat) (U : State) : Prop := ExA U ∧ ExT X.2 U ∧ va_X bs L xs U U.heap ∧ bs < X.2 ∧ bs < U.heap.size ∧ ExS X sk sv fm U
theorem EL_st {X : xD} {fr : Bool} {n bs L : Nat} {xs : Nat → Int32} {sk sv : Nat → Nat} {fm : Option Nat} : xEs X fr n (EL X bs L xs sk sv fm) := fun s U hW hz hk h =>
  ⟨ExA_st (X := X) (fr := fr) (n := n) s U hW hz hk h.1, ExT_st s U hW hz hk h.2.1, (h.2.2.1.moved hW.alike).kept (hk bs h.2.2.2.2.1 (fun q => by have := q.1; have := h.2.2.2.1; omega)), h.2.2.2.1, by have := h.2.2.2.2.1; omega, ExS_st (fr := fr) (n := n) s U hW hz hk h.2.2.2.2.2⟩
theorem Ct.ex {X : xD} {Ex Ex' : State → Prop} {fr : Bool} {y : MethodName} {K : xK} {rm : Room} {As : List Value} {sh : List xS} {μ : xM} {Po : Option Value → List xS → xM → Prop} (h : Ct X Ex fr y K rm As sh μ Po) (hi : ∀ U, Ex' U → Ex U) : Ct X Ex' fr y K rm As sh μ Po :=
  fun l p e h1 h2 h3 s m args below hf ha hP hk => h l p e h1 h2 h3 s m args below hf ha ⟨hP.1, hP.2.1, hP.2.2.1, hP.2.2.2.1, hi _ hP.2.2.2.2.1, hP.2.2.2.2.2⟩ hk
section SLW
variable {l : Launch} {R : Room} {X : xD} {Ex : State → Prop} {fr : Bool} {K : xK} {n0 : Nat} {Z : List Frame → Array Value → State → State → Prop} {pc : Nat} {L : List (Option Value)} {st : List Value} {sh : List xS} {μ : xM} {cs ss : Nat}
theorem sx_sld {bs N : Nat} {xs : Nat → Int32} {i : Int32} (hd : decode K.2.1 pc = .ok (.iaload, 1)) (hX : ∀ s, Ex s → va_X bs N xs s s.heap ∧ bs < X.2 ∧ bs < s.heap.size) (hin : vp_in i N)
    (kk : sx l R X Ex fr K n0 Z (pc + 1) L (.int (xs i.toNatClampNeg) :: st) sh μ cs ss) : sx l R X Ex fr K n0 Z pc L (.int i :: .ref bs :: st) sh μ cs ss :=
  fun p e s m args below meth c H locs ls hC hH hL => by
    obtain ⟨g1, g2, g3⟩ := hX s hC.2.2.2.2.2.2.2.2.2.1
    exact va_sld hC.1 hC.2.1 g1 g3 (fun q => by have := q.1; omega) hH.2.1 hin hd (kk p e s m args below meth c H locs ls hC hH hL)
theorem sx_slen {bs N : Nat} {xs : Nat → Int32} (hd : decode K.2.1 pc = .ok (.arraylength, 1)) (hX : ∀ s, Ex s → va_X bs N xs s s.heap ∧ bs < X.2 ∧ bs < s.heap.size)
    (kk : sx l R X Ex fr K n0 Z (pc + 1) L (.int (nI N) :: st) sh μ cs ss) : sx l R X Ex fr K n0 Z pc L (.ref bs :: st) sh μ cs ss :=
  fun p e s m args below meth c H locs ls hC hH hL => by
    obtain ⟨g1, g2, g3⟩ := hX s hC.2.2.2.2.2.2.2.2.2.1
    exact va_slen hC.1 hC.2.1 g1 g3 (fun q => by have := q.1; omega) hH.2.1 hd (kk p e s m args below meth c H locs ls hC hH hL)
/-- all is made: from now on the block stays as it is -/
theorem sx_fix (kk : sx l R X Ex false K sh.length Z pc L st sh μ cs ss) : sx l R X Ex true K 0 Z pc L st sh μ cs ss := by
  intro p e s m args below meth c H locs ls hC hH hL
  have hs0 : s.heap.size = X.2 := hC.2.2.2.2.2.2.2.2.2.2.1 rfl
  refine va_forget (fun q hq => by have h := hH.2.1.2.2 q hq; have := h.1; omega) ?_
  obtain ⟨c1, c2, c3, c4, c5, c6, c7, c8, c9, c10, c11, c12, c13⟩ := hC
  refine kk p e s m args below meth c H [] ls ⟨c1, c2, c3, c4, c5, c6, c7, c8, c9, c10, fun h => (by cases h), c12, fun q hq cell hcell => ?_⟩ ⟨hH.1, ⟨hH.2.1.1, fun q h1 h2 => hH.2.1.2.1 q h1 (fun z => by have := z.1; omega), fun _ h => (by cases h)⟩, Nat.le_refl _, fun _ => rfl, fun h => (by cases h)⟩ hL
  have := (Array.getElem?_eq_some_iff.mp hcell).1
  have := hq.1
  omega
theorem sx_lret (hK : K = kL_law) (hd : decode code pc = .ok (.ireturn, 1)) (h1 : cs ≤ 601024) (h2 : ss ≤ 7293034) : sx l room_1 X Ex fr K n0 (ZL X) pc L [.int 1] sh μ cs ss := by
  subst hK
  intro p e s m args below meth c H locs ls hC hH hL
  by_cases hz : s.heap.size = X.2
  · refine va_forget (fun q hq => by have h := hH.2.1.2.2 q hq; have := h.1; omega) ?_
    refine W.widen h1 h2 ?_
    intro T hT X'
    obtain ⟨t, a1, b1⟩ := lw_ret (args := args) hC.1 hC.2.1 hC.2.2.2.1 hC.2.2.2.2.1 (pc := pc) (ls := ls) hd T hT X'
    exact ⟨t, a1, fun _ => b1⟩
  · intro T hT X'
    exact ⟨T.setTop (F0 m pc ls [.int 1]), Steps.refl _, fun h => absurd h hz⟩
theorem sx_help {dev i : Int32} (hl0 : l.stackTraces = false) (hLB : LB μ) (hT : ∀ s, Ex s → ExT X.2 s) (hE : xEs X false n0 Ex) (hd : decode K.2.1 pc = .ok (.invokestatic 23, 3)) (hK1 : K.1 = RL) (hm : 10 ≤ R.frames ∧ 214 ≤ R.locals) (hf : cs + 1 ≤ R.cells ∧ ss + 6 ≤ R.slots) (h8 : (st.map fun v => v.category).sum ≤ 8)
    (kk : ∀ (x : Int32) (μ' : xM), (∀ a, a ≠ 116 → μ' a = μ a) → sx l R X Ex false K n0 Z (pc + 3) L (.int x :: st) shA μ' (cs + 1) (ss + 6)) : sx l R X Ex false K n0 Z pc L (.ref (X.2 + 116) :: .int i :: .int dev :: .ref (X.2 + 0) :: st) shA μ cs ss := by
  intro p e s m args below meth c H locs ls hC hH hL
  have hts := hC.2.2.2.2.2.2.1
  have hn0 : shA.length = n0 := hH.2.2.2.1 rfl
  have hgood : GoodIn xws (.codeWith yL_answer cL_answer 5 (some .int) hdL :: xws) := by
    intro w hw
    rcases List.mem_cons.mp hw with rfl | hw
    · exact ⟨w_cw, good_of_word (List.mem_filter.mp w_cw).2⟩
    · exact ⟨hw, good_of_word (List.mem_filter.mp hw).2⟩
  have hBack : Back l R p e below s args yL_answer 3 8 (PreOf R 1 6 (va_Pc [.ref (X.2 + 0), .int dev, .int i, .ref (X.2 + 116)] (xpre X (ExT X.2) false shA μ))) (PostOf (xQ X false shA.length (PoA μ)) 1 6 (xA X.2 shA.length false)) := by
    refine Jvm.Free.Back.of_freeWith (handlers := hdL) (bytes := cL_answer) (maxL := 5) (ret := some .int) (E := fun a st o t L k n => k = 1 ∧ n = 6 ∧ ∀ q ∈ L, xA X.2 shA.length false q.base) (t_help X μ hLB dev i l hl0) hm.1 (by show 8 + (5 + 11) + 190 ≤ R.locals; have := hm.2; omega) ?_ ?_ (fun _ _ _ _ _ _ _ _ _ => trivial) ?_ ?_
    · intro m1 meth1 c1 A a X1 hp
      exact ⟨atoms_intro fun w hw => pay_in hts hgood w hw _ _ X1.warmed, pay_in hts hgood _ List.mem_cons_self _ _ X1.warmed, pay_in hts hgood _ (List.mem_cons_of_mem _ w_iL) _ _ X1.warmed, hp.1, hp.2.1⟩
    · intro m1 meth1 c1 A a g mk X1 hp
      exact xpre_blind ExT_st _ _ _ _ hp.2.2
    · rintro a st o t ⟨hq, L9, hFE, hL9⟩
      exact ⟨L9, 1, 6, hFE, rfl, rfl, hL9⟩
    · rintro m1 meth1 c1 A a g mk v t L9 k n X1 hp hq hFE ⟨rfl, rfl, hL9⟩
      exact ⟨g, mk, t, L9, rfl, rfl, hq.1, rfl, hL9, rfl, rfl⟩
  have hown : s.vm.findClass RL = some m.cls := by rw [← hK1]; exact hC.2.2.2.2.2.1
  refine xcall_on (rm := rmA) (Po := PoA μ) (aa := [Value.ref (X.2 + 0), .int dev, .int i, .ref (X.2 + 116)].toArray) hC hH hL ?_ (fun r sh' μ' hp => by obtain ⟨rfl, h116, x, rfl⟩ := hp; exact kk x _ h116)
  intro T hT' X'
  obtain ⟨mk, methM, cM, hnamed, hmethM, -, -, -, -, -, -, hsigM⟩ := Cond.codeWith_spec (hts _ w_cw)
  have hstatic : methM.isStatic = true := Cond.static_spec hnamed hmethM (hts _ w_sL)
  obtain ⟨kP, hkP, -⟩ := className_of_methodNamed hnamed
  have hinitP : kP.init = .initialized := Cond.initialized_spec (findClass_of_methodNamed hnamed) hkP (hts _ w_iL)
  obtain ⟨vm₁, X₁, hstep₁⟩ := X'.invokestatic hC.1 hown (hts _ lm_L_23) hnamed hmethM hstatic hkP hinitP (by decide) (g := F0 m pc ls (.ref (X.2 + 116) :: .int i :: .int dev :: .ref (X.2 + 0) :: st)) rfl (argsL := [.ref (X.2 + 0), .int dev, .int i, .ref (X.2 + 116)]) (rest := st) (by
    have h2 : (parseMethodDescriptor yL_answer.desc).map (fun d => d.parameters.length) = some 4 := by decide +kernel
    rw [hsigM] at h2
    exact (Option.some.inj h2).symm) rfl (by rw [hC.2.1]; exact hd)
  have hpx := xpre_at hC hH hE (U := T.setVm vm₁) hT' X₁.warmed
  obtain ⟨v, ⟨U', l2, c2, s2⟩, X2, ⟨g', mk', t, L9, e1, e2, hq, h1, hL9, h2, h3⟩, hsteps⟩ := hBack m meth c ⟨T.setVm vm₁, locs, cs, ss⟩ { F0 m pc ls (.ref (X.2 + 116) :: .int i :: .int dev :: .ref (X.2 + 0) :: st) with stack := st } (.invokestatic 23) mk [Value.ref (X.2 + 0), .int dev, .int i, .ref (X.2 + 116)].toArray X₁ rfl (hL.1.1.trans hC.2.2.1.symm) (by rw [hC.2.1]; exact hd) (xroom h8) (X₁.named hnamed) ⟨hf.1, hf.2, rfl, hpx.1, hpx.2.1, hpx.2.2.1, hT _ hpx.2.2.2.1, fun h => by cases h⟩
  dsimp only [Pt.U, Pt.locs, Pt.cells, Pt.slots] at X2 e1 e2 h1 h2 h3 hsteps
  subst h1
  subst h2
  subst h3
  exact ⟨v, _, t, U', L9, hT', X2, hL9, e1, e2, hq, fun tg r => hstep₁ _ fun acts => by rw [doInvoke_state]; exact hsteps.trans r⟩
end SLW
theorem sw11 (w : Int32) : w = 0 ∨ w = 1 ∨ w = 2 ∨ w = 3 ∨ w = 4 ∨ w = 5 ∨ w = 6 ∨ w = 7 ∨ w = 8 ∨ w = 9 ∨ w = 10 ∨ (w.toInt < 0 ∨ 10 < w.toInt) := by
  by_cases h : w.toInt < 0 ∨ 10 < w.toInt
  · simp [h]
  · have h0 : w.toInt = 0 ∨ w.toInt = 1 ∨ w.toInt = 2 ∨ w.toInt = 3 ∨ w.toInt = 4 ∨ w.toInt = 5 ∨ w.toInt = 6 ∨ w.toInt = 7 ∨ w.toInt = 8 ∨ w.toInt = 9 ∨ w.toInt = 10 := by omega
    rcases h0 with h0 | h0 | h0 | h0 | h0 | h0 | h0 | h0 | h0 | h0 | h0
    · simp [show w = 0 from Int32.toInt_inj.mp h0]
    · simp [show w = 1 from Int32.toInt_inj.mp h0]
    · simp [show w = 2 from Int32.toInt_inj.mp h0]
    · simp [show w = 3 from Int32.toInt_inj.mp h0]
    · simp [show w = 4 from Int32.toInt_inj.mp h0]
    · simp [show w = 5 from Int32.toInt_inj.mp h0]
    · simp [show w = 6 from Int32.toInt_inj.mp h0]
    · simp [show w = 7 from Int32.toInt_inj.mp h0]
    · simp [show w = 8 from Int32.toInt_inj.mp h0]
    · simp [show w = 9 from Int32.toInt_inj.mp h0]
    · simp [show w = 10 from Int32.toInt_inj.mp h0]
