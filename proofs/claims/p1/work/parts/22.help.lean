/-! the law's helper: it calls answer(), which throws, and catches it -/
abbrev hdL : List (Nat × Nat × Nat × Nat) := [(0, 10, 13, 13)]
set_option maxRecDepth 20000 in
theorem w_cw : Cond.codeWith yL_answer cL_answer 5 (some .int) hdL ∈ xws := xwc 499 rfl rfl
theorem w_iL : Cond.initialized RL ∈ xws := xw 35 (by decide +kernel)
theorem w_sL : Cond.static yL_answer ∈ xws := xw 498 (by decide +kernel)
abbrev rmA : Room := { frames := 9, cells := 1, slots := 6, locals := 190 }
section CTH
variable {p : Program} {l : Launch} {e : Env} {R : Room} {s : State} {m : MethodId} {args : Array Value} {below : List Frame} {meth : Method} {c : Code} {T : State} {locs : List Loc} {cells slots : Nat}
theorem callVT (X : Stand p l e R s m args below meth c T locs cells slots) (hexec : p.tables.exec = Jvm.exec) {own C : String} {index : Nat} {y : MethodName} {bytes : ByteArray} {maxL : Nat} {ret : Option FieldType}
    (hown : s.vm.findClass own = some m.cls) (hlink : (Cond.methodLink own index y).before args s = true) (hinst : (Cond.instanceMethod y).before args s = true) (hsel : (Cond.selects C y y).before args s = true)
    (hcode : (Cond.code y bytes maxL ret).before args s = true) (hy : y.cls ≠ "java/lang/invoke/MethodHandle" ∧ y.cls ≠ "java/lang/invoke/VarHandle")
    {W : Nat} {Pre : Pt → Array Value → Prop} {Post : Pt → Array Value → Addr → Pt → Prop} (hK : Jvm.Free.BackT l R p e below s args y 3 W Pre Post)
    {b : Addr} {cellB : Cell} (hcell : T.heap[b]? = some cellB) (hobj : cellB.vm.isStatics = false) (hcls : s.vm.findClass C = some cellB.cls)
    {g : JFrame} (hg : g.method = m) (hsize : g.locals.size = c.maxLocals) {argsL rest : List Value} (hlen : ∀ sig, parseMethodDescriptor y.desc = some sig → argsL.length = sig.parameters.length)
    (hstack : g.stack = argsL.reverse ++ .ref b :: rest) (hW : 2 * g.monitorRoom + (rest.map fun v => v.category).sum ≤ W) (hdg : decode c.code g.pc = .ok (.invokevirtual index, 3))
    (hpre : ∀ vm₁, s.WarmedH vm₁ → Pre ⟨T.setVm vm₁, locs, cells, slots⟩ (Value.ref b :: argsL).toArray) :
    ∃ (v : Addr) (vm₁ : Vm) (B : Pt), s.WarmedH vm₁ ∧ Stand p l e R s m args below meth c B.U B.locs B.cells B.slots ∧ Post ⟨T.setVm vm₁, locs, cells, slots⟩ (Value.ref b :: argsL).toArray v B ∧
      Steps p.tables e below (T.setTop g) ((B.U.setTop { g with stack := rest }).pushFrame (.throwing v)) := by
  obtain ⟨mk, methM, hnamed, hmethM, hstM, habM⟩ := Cond.instanceMethod_spec hinst
  obtain ⟨methM', cM, hmethM', -, -, -, -, -, -, hsigM⟩ := Cond.code_spec hnamed hcode
  cases hmethM.symm.trans hmethM'
  obtain ⟨c2, r2, m2, q1, q2, q3, q4, kP, hkP, hkPi⟩ := Cond.selects_spec hsel
  cases hcls.symm.trans q1
  cases (State.methodFound?_of_named hnamed hy).symm.trans q2
  cases hnamed.symm.trans q3
  have hselP : selectMethod e.platform s.vm cellB.cls mk = .method mk := by rw [Launch.admits_selectMethod X.admits]; exact q4
  obtain ⟨vm₁, X₁, hstep₁⟩ := X.invokevirtual hexec hown hlink hnamed hmethM hstM hkP hkPi hy (a := b) (cell := cellB) hcell
    (fun z h => by rw [h] at hobj; cases hobj) hselP hmethM habM hkP hkPi (g := g) hg (argsL := argsL) (rest := rest) (hlen _ hsigM) hstack hdg
  obtain ⟨v, B, X', hpost, hsteps⟩ := hK m meth c ⟨T.setVm vm₁, locs, cells, slots⟩ { g with stack := rest } (.invokevirtual index) mk (Value.ref b :: argsL).toArray X₁ hg hsize hdg hW (X₁.named hnamed) (hpre vm₁ X₁.warmed)
  exact ⟨v, vm₁, B, X₁.warmed, X', hpost, hstep₁ _ fun acts => by rw [doInvoke_state]; exact hsteps⟩
end CTH
def PoA (μ : xM) : Option Value → List xS → xM → Prop := fun r sh' μ' => shA = sh' ∧ μ = μ' ∧ r = some (.int 1)
set_option maxHeartbeats 1000000 in
set_option maxRecDepth 20000 in
theorem t_help (X : xD) (μ : xM) (hF : Fr μ) (dev i : Int32) (l : Launch) (hl0 : l.stackTraces = false) : MetFree l yL_answer (headSpec (.codeWith yL_answer cL_answer 5 (some .int) hdL :: xws) rmA) (va_Pc [.ref (X.2 + 0), .int dev, .int i, .ref (X.2 + 116)] (xpre X (ExT X.2) false shA μ)) (fun _ _ _ _ _ => True) (fun a st o t => xQ X false shA.length (PoA μ) a st o t ∧ ∃ L, FrameEnd st o t L 1 6 ∧ ∀ q ∈ L, xA X.2 shA.length false q.base) := by
  refine MetFree.of_bodyS (code := cL_answer) (maxLocals := 5) (ret := some .int) (by decide) ?_ ?_
  · intro args s m h hn
    obtain ⟨m', meth, c, h0, h1, h2, h3, h4, -, h5, h6, -⟩ := Cond.codeWith_spec (atoms_spec (ws := .codeWith yL_answer cL_answer 5 (some .int) hdL :: xws) h _ List.mem_cons_self)
    cases hn.symm.trans h0
    exact ⟨meth, c, h1, h2, h3, h4, h5, h6⟩
  · intro p e s m args below meth c s₁ B hml hP _
    obtain ⟨rfl, hPb, hK, hN, hEx, -⟩ := hP
    have hts0 := atoms_spec (ws := .codeWith yL_answer cL_answer 5 (some .int) hdL :: xws) B.pre
    have hts : ∀ w ∈ xws, w.before [Value.ref (X.2 + 0), .int dev, .int i, .ref (X.2 + 116)].toArray s = true := fun w hw => hts0 w (List.mem_cons_of_mem _ hw)
    have hx := B.exec
    have hb := B.bytes
    have hr := B.returns
    have hown : s.vm.findClass RL = some m.cls := findClass_of_methodNamed B.named
    have hlocks := B.notSynchronized
    have hh0 : s₁.heap = s.heap := by rw [B.state]; rfl
    obtain ⟨m', meth', c', h0, h1, h2, -, -, htab, -, -, -⟩ := Cond.codeWith_spec (hts0 _ List.mem_cons_self)
    cases B.named.symm.trans h0
    cases B.method.symm.trans h1
    cases (Stand.of_body B).code.symm.trans h2
    obtain ⟨x0, hx0, hx1, hx2, hx3, hx4⟩ : ∃ x0 : ExceptionTableEntry, c.exceptionTable.toList = [x0] ∧ x0.startPc = 0 ∧ x0.endPc = 10 ∧ x0.handlerPc = 13 ∧ x0.catchType = 13 := by
      cases hc : c.exceptionTable.toList with
      | nil => rw [hc] at htab; cases htab
      | cons x0 r =>
        rw [hc] at htab
        simp only [List.map_cons, List.cons.injEq, Prod.mk.injEq, List.map_eq_nil_iff] at htab
        exact ⟨x0, by rw [htab.2], htab.1.1, htab.1.2.1, htab.1.2.2.1, htab.1.2.2.2⟩
    suffices KK : W p l e rmA s m [Value.ref (X.2 + 0), .int dev, .int i, .ref (X.2 + 116)].toArray below meth c s.heap [] 0 0 (MQ below (xQ X false shA.length (PoA μ)) [Value.ref (X.2 + 0), .int dev, .int i, .ref (X.2 + 116)].toArray s 1 6 (xA X.2 shA.length false)) (entryFrame m [Value.ref (X.2 + 0), .int dev, .int i, .ref (X.2 + 116)].toArray 5) by
      obtain ⟨t, a1, o, b1, b2, b3⟩ := KK s₁ hh0 (Stand.of_body B)
      exact ⟨t, o, a1, b1, b2, ⟨b3.1, b3.2⟩⟩
    have hl := lv_entry ([.ref (X.2 + 0), .int dev, .int i, .ref (X.2 + 116)]) (n := 5) (Nat.le_of_ble_eq_true rfl)
    rw [lg_entry_eq]
    generalize (lg_sl ([.ref (X.2 + 0), .int dev, .int i, .ref (X.2 + 116)]) ++ List.replicate (5 - (lg_sl ([.ref (X.2 + 0), .int dev, .int i, .ref (X.2 + 116)])).length) Slot.unset).toArray = ls at hl ⊢
    have hl : lv_has ls 5 [(0, .ref (X.2 + 0)), (1, .int dev), (2, .int i), (3, .ref (X.2 + 116))] := hl
    refine lv_aload_n hx hb dL_answer_0 rfl (lv_at hl 3 rfl) ?_
    refine lv_iconst (v := 0) hx hb dL_answer_1 (by decide) ?_
    refine lv_aload_n hx hb dL_answer_2 rfl (lv_at hl 0 rfl) ?_
    refine lv_iload_n hx hb dL_answer_3 rfl (lv_at hl 1 rfl) ?_
    refine lv_iload_n hx hb dL_answer_4 rfl (lv_at hl 2 rfl) ?_
    intro T hT X'
    have hW5 := mX5_answer
    have hBT : Jvm.Free.BackT l rmA p e below s [Value.ref (X.2 + 0), .int dev, .int i, .ref (X.2 + 116)].toArray yX5_answer 3 8 (fun A a => A.cells + 1 ≤ 1 ∧ A.slots + 6 ≤ 6 ∧ a = [Value.ref (X.2 + 0), .int dev, .int i].toArray ∧ xpre X (ExT X.2) false shA μ A.U) (fun A a v B' => B'.locs = A.locs ++ [] ∧ B'.cells = A.cells + 1 ∧ B'.slots = A.slots + 6 ∧ ∃ ce : Cell, B'.U.heap[v]? = some ce ∧ ce.vm.isStatics = false ∧ A.U.vm.findClass aioN = some ce.cls ∧ va_P X.1.1 classes (xwl X shA μ) B'.U.heap) := by
      refine Jvm.Free.BackT.of_free (bytes := cX5_answer) (maxL := 3) (ret := some .int) (E := fun a st o t L k n => L = [] ∧ k = 1 ∧ n = 6) (t_answer X μ hF dev i l hl0) (Nat.le_of_ble_eq_true rfl) (Nat.le_of_ble_eq_true rfl) ?_ ?_ (fun _ _ _ _ _ _ _ _ _ => trivial) ?_ ?_
      · intro m1 meth1 c1 A a X1 hp
        exact ⟨atoms_intro fun w hw => pay_in hts (xgood hW5.1) w hw _ _ X1.warmed, pay_in hts (xgood hW5.1) _ List.mem_cons_self _ _ X1.warmed, pay_in hts (xgood hW5.1) _ (List.mem_cons_of_mem _ hW5.1.2.1) _ _ X1.warmed, hp.1, hp.2.1⟩
      · intro m1 meth1 c1 A a g mk X1 hp
        exact xpre_blind ExT_st _ _ _ _ ⟨hp.2.2.1, hp.2.2.2⟩
      · rintro a st o t ⟨a1, ce, rfl, g1, g2, g3, g4, g5⟩
        exact ⟨[], 1, 6, g5, rfl, rfl, rfl⟩
      · rintro m1 meth1 c1 A a g mk v t L k n X1 hp ⟨a1, ce, e0, g1, g2, g3, g4, g5⟩ hFE ⟨rfl, rfl, rfl⟩
        cases e0
        exact ⟨rfl, rfl, rfl, ce, g1, g2, g3, g4⟩
    obtain ⟨cellB, hcB, hoB, hclB⟩ := va_recv hK hPb (q := (RX5, TX5, 5)) (ci := 5) (q0 := 0) rfl (xwl_get μ s_EW)
    obtain ⟨v, vm₁, ⟨U', l2, c2, s2⟩, hW₁, X2, ⟨e1, e2, e3, ce, g1, g2, g3, g4⟩, st⟩ := callVT X' hx (C := RX5) (own := RL) (y := yX5_answer) (bytes := cX5_answer) (maxL := 3) (ret := some .int) hown (hts _ lm_L_7) (hts _ hW5.2.1) (hts _ hW5.2.2) (hts _ hW5.1.1) ⟨hW5.1.2.2.1, hW5.1.2.2.2.1⟩ hBT (b := X.2 + 0) (by rw [hT]; exact hcB) hoB hclB (g := F0 m 5 ls [.int i, .int dev, .ref (X.2 + 0), .int 0, .ref (X.2 + 116)]) rfl (hl.1.trans hml.symm) (argsL := [.int dev, .int i]) (rest := [.int 0, .ref (X.2 + 116)]) (fun sig h => by
        have h2 := hW5.1.2.2.2.2
        rw [h] at h2
        exact (Option.some.inj h2).symm) rfl (xroom (Nat.le_of_ble_eq_true rfl)) (by rw [hb]; exact dL_answer_5) (fun vm1 hw1 => ⟨Nat.le_refl _, Nat.le_refl _, rfl, ⟨by show va_P _ _ _ T.heap; rw [hT]; exact hPb, va_K.moved hw1.alike hK, fun w hw => xnw_warm (xnw_ok w hw) hw1 (hN w hw), ExT_st (X := X) (fr := false) (n := 0) s _ hw1 (by show s.heap.size ≤ T.heap.size; rw [hT]; exact Nat.le_refl _) (fun q _ _ => by show T.heap[q]? = _; rw [hT]) hEx, fun h => by cases h⟩⟩)
    dsimp only [Pt.U, Pt.locs, Pt.cells, Pt.slots] at X2 e1 e2 e3 g1 g2 g3 g4 st
    subst e1
    subst e2
    subst e3
    have g3' : s.vm.findClass aioN = some ce.cls := by
      rw [← hW₁.alike.findClass]
      exact g3
    obtain ⟨vm', XV, st2⟩ := X2.thenCaughtLink v rfl st (own := RL) (name := aioN) hown [] x0 [] (by rw [hx0]; rfl) (fun y hy => by cases hy) (by simp [covers, hx1, hx2]) (by rw [hx4]; decide) (by rw [hx4]; exact hts _ lc_L_13) g3' g1 g2 (va_asg _ _)
    suffices K2 : W p l e rmA s m [Value.ref (X.2 + 0), .int dev, .int i, .ref (X.2 + 116)].toArray below meth c U'.heap ([] ++ []) (0 + 1) (0 + 6) (MQ below (xQ X false shA.length (PoA μ)) [Value.ref (X.2 + 0), .int dev, .int i, .ref (X.2 + 116)].toArray s 1 6 (xA X.2 shA.length false)) (F0 m 13 ls [.ref v]) by
      obtain ⟨t2, a1, b1⟩ := K2 (U'.setVm vm') rfl XV
      rw [hx3] at st2
      exact ⟨t2, st2.trans a1, b1⟩
    refine lv_astore (lv' := [(4, .ref v), (0, .ref (X.2 + 0)), (1, .int dev), (2, .int i), (3, .ref (X.2 + 116))]) hx hb dL_answer_13 hl (by decide) rfl (fun ls hl => ?_)
    refine lv_iconst (v := 1) hx hb dL_answer_15 (by decide) ?_
    have hsz : s.heap.size ≤ U'.heap.size := by
      have := X2.same.2.1
      exact this
    refine W.iret (v := 1) hx hb hr (fun t ht hW => ⟨⟨_, shA, μ, rfl, ⟨rfl, rfl, rfl⟩, by rw [ht]; exact g4, Nat.le_refl _, fun _ => rfl, fun h => by cases h⟩, by rw [ht]; exact hsz, fun q h1 _ => ?_⟩) (fun q hq => by cases hq) dL_answer_16
    have h5 : U'.heap[q]? = some (s.heap[q]'h1) := State.sameButNew.old_cell X2.same (Array.getElem?_eq_getElem h1)
    rw [ht, h5]
    exact (Array.getElem?_eq_getElem h1).symm
