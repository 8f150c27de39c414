set_option maxHeartbeats 1000000 in
set_option maxRecDepth 20000 in
theorem p_answer (X : xD) (Ex : State → Prop) (hE : xEs X false shA.length Ex) (μ : xM) (dev i : Int32) (hb : 0 ≤ dev ∧ dev < 6) (hi : 0 ≤ i ∧ i < μ (2 + 9 * dev.toNatClampNeg + 2) 1) (hL : LB μ) : Ct X Ex false yX5_answer kX5_answer (rmN 1) [.ref (X.2 + 0), .int dev, .int i] shA μ (fun r sh' μ' => shA = sh' ∧ μ = μ' ∧ ∃ x : Int32, r = some (.int x)) := by
  refine Ct.of (L0 := [some (.ref (X.2 + 0)), some (.int dev), some (.int i)]) (by decide) rfl (fun h => by cases h) (by simp [Value.category]) (Nat.le_of_ble_eq_true rfl) rfl (fun l => ?_)
  have hd := clamp_lt (n := 6) hb.1 hb.2 (by decide)
  refine sx_iload_n (pc := 0) dX5_answer_0 rfl rfl ?_
  refine sx_bipush (pc := 1) (v := 6) dX5_answer_1 (by decide) ?_
  refine sx_callS (pc := 3) (As := [.int dev, .int 6]) dX5_answer_3 (c_isBelow X Ex false shA μ _ _) mX5_isBelow lm_X5_41 rfl ⟨Nat.le_of_ble_eq_true rfl, Nat.le_of_ble_eq_true rfl⟩ ⟨Nat.le_of_ble_eq_true rfl, Nat.le_of_ble_eq_true rfl⟩ (Nat.le_of_ble_eq_true rfl) hE (fun r_3 sh1 μ1 h_3 => ?_)
  obtain ⟨rfl, rfl, x_3, rfl, hx_3⟩ := h_3
  refine sx_if_eq (pc := 6) (tgt := 28) dX5_answer_6 (by decide) (fun c_6 => absurd hb (isB_f hx_3 c_6)) (fun c_6 => ?_)
  refine sx_iload_n (pc := 9) dX5_answer_9 rfl rfl ?_
  refine sx_aload_n (pc := 10) dX5_answer_10 rfl rfl ?_
  refine sx_getr (pc := 11) (ci := 5) (j := 0) (r := 1) dX5_answer_11 rfl s_EW rfl (by decide) lf_X5_11 ?_
  refine sx_iload_n (pc := 14) dX5_answer_14 rfl rfl ?_
  refine sx_aald (pc := 15) (r := 2 + 9 * dev.toNatClampNeg) dX5_answer_15 s_lines rfl rfl (vp_in_lt (n := 6) hb.1 hb.2 (by decide)) (el_lines _ hd) ?_
  refine sx_getr (pc := 16) (ci := 2) (j := 6) (r := 2 + 9 * dev.toNatClampNeg + 2) dX5_answer_16 rfl (s_Line _ hd) rfl (by decide) lf_X5_57 ?_
  refine sx_geti (pc := 19) (ci := 4) (j := 1) dX5_answer_19 rfl (s_Lsh _ hd).1 rfl (by decide) lf_X5_61 ?_
  refine sx_callS (pc := 22) (As := [.int i, .int (μ (2 + 9 * dev.toNatClampNeg + 2) 1)]) dX5_answer_22 (c_isBelow X Ex false shA μ _ _) mX5_isBelow lm_X5_41 rfl ⟨Nat.le_of_ble_eq_true rfl, Nat.le_of_ble_eq_true rfl⟩ ⟨Nat.le_of_ble_eq_true rfl, Nat.le_of_ble_eq_true rfl⟩ (Nat.le_of_ble_eq_true rfl) hE (fun r_22 sh1 μ2 h_22 => ?_)
  obtain ⟨rfl, rfl, x_22, rfl, hx_22⟩ := h_22
  refine sx_if_ne (pc := 25) (tgt := 38) dX5_answer_25 (by decide) (fun c_25 => ?_) (fun c_25 => absurd hi (isB_f hx_22 c_25))
  refine sx_aload_n (pc := 38) dX5_answer_38 rfl rfl ?_
  refine sx_getr (pc := 39) (ci := 5) (j := 0) (r := 1) dX5_answer_39 rfl s_EW rfl (by decide) lf_X5_11 ?_
  refine sx_iload_n (pc := 42) dX5_answer_42 rfl rfl ?_
  refine sx_aald (pc := 43) (r := 2 + 9 * dev.toNatClampNeg) dX5_answer_43 s_lines rfl rfl (vp_in_lt (n := 6) hb.1 hb.2 (by decide)) (el_lines _ hd) ?_
  refine sx_getr (pc := 44) (ci := 2) (j := 6) (r := 2 + 9 * dev.toNatClampNeg + 2) dX5_answer_44 rfl (s_Line _ hd) rfl (by decide) lf_X5_57 ?_
  refine sx_getr (pc := 47) (ci := 4) (j := 0) (r := 2 + 9 * dev.toNatClampNeg + 2 + 1) dX5_answer_47 rfl (s_Lsh _ hd).1 rfl (by decide) lf_X5_73 ?_
  refine sx_iload_n (pc := 50) dX5_answer_50 rfl rfl ?_
  refine sx_iald (pc := 51) dX5_answer_51 (s_Lsh _ hd).2 (by decide) rfl (vp_in_lt (n := 13) hi.1 (Int32.lt_of_lt_of_le hi.2 (hL.1 _ ⟨_, hd, Or.inl rfl⟩).2) (by decide)) ?_
  exact sx_iret (pc := 52) dX5_answer_52 rfl rfl (Nat.zero_le _) (Nat.zero_le _) (⟨rfl, rfl, _, rfl⟩)
section SLST
variable {l : Launch} {R : Room} {X : xD} {Ex : State → Prop} {K : xK} {n0 : Nat} {Z : List Frame → Array Value → State → State → Prop} {pc : Nat} {L : List (Option Value)} {st : List Value} {sh : List xS} {μ : xM} {cs ss : Nat}
theorem sx_last {k n : Nat} {i x : Int32} (hd : decode K.2.1 pc = .ok (.lastore, 1)) (hs : sh[k]? = some (.inr (0, n, none))) (hin : vp_in i n)
    (kk : ∀ μ' : xM, μ' = xup μ k i.toNatClampNeg x → sx l R X Ex false K n0 Z (pc + 1) L st sh μ' cs ss) : sx l R X Ex false K n0 Z pc L (.long x.toInt64 :: .int i :: .ref (X.2 + k) :: st) sh μ cs ss := by
  intro p e s m args below meth c H locs ls hC hH hL
  have hkl := (List.getElem?_eq_some_iff.mp hs).1
  refine va_last (f := fun j => (μ k j).toInt64) hC.1 hC.2.1 hC.2.2.2.2.2.2.2.2.1 hH.1 (xwl_D hH.2.2.2.1) hH.2.1 k 0 (by rw [xwl_get μ hs]; rfl) (xtys_at rfl) hin hd (fun H1 locs1 hP _ hS => ?_)
  have e1 : vp_updL (fun j => (μ k j).toInt64) i.toNatClampNeg x.toInt64 = fun j => (upd (μ k) i.toNatClampNeg x j).toInt64 := by
    funext j
    by_cases q : j = i.toNatClampNeg
    · rw [q, pk_uLs, pk_us]
    · rw [pk_uLn q, pk_un q]
  rw [e1] at hP
  have hP' : va_P X.1.1 classes (xwl X sh (xup μ k i.toNatClampNeg x)) H1 := by
    have e2 := xwl_set (X := X) (μ := μ) (s' := .inr (0, n, none)) (f := upd (μ k) i.toNatClampNeg x) hkl
    rw [xsame hs] at e2
    unfold xup
    rw [← e2]
    exact hP
  exact kk _ rfl p e s m args below meth c H1 locs1 ls hC ⟨hP', hS, hH.2.2.1, hH.2.2.2.1, fun h => by cases h⟩ hL
end SLST
theorem in_aio : Cond.instantiable aioN 6 ∈ xws := xw 506 (by decide +kernel)
theorem ii_aio : Cond.initialized aioN ∈ xws := xw 53 (by decide +kernel)
set_option maxHeartbeats 1000000 in
set_option maxRecDepth 20000 in
theorem t_answer (X : xD) (μ : xM) (dev i : Int32) (hNo : ¬ ((0 ≤ dev ∧ dev < 6) ∧ 0 ≤ i ∧ i < μ (2 + 9 * dev.toNatClampNeg + 2) 1)) (l : Launch) (hl0 : l.stackTraces = false) : MetFree l yX5_answer (headSpec (.code yX5_answer cX5_answer 3 (some .int) :: xws) rmT) (va_Pc [.ref (X.2 + 0), .int dev, .int i] (xpre X (ExT X.2) false shA μ)) (fun _ _ _ _ _ => True) (QT X μ) := by
  refine MetFree.of_bodyS (code := cX5_answer) (maxLocals := 3) (ret := some .int) (by decide) ?_ ?_
  · intro args s m h hn
    obtain ⟨meth, c, h1, h2, h3, h4, h5, h6, -, -⟩ := Cond.code_spec hn (atoms_spec (ws := .code yX5_answer cX5_answer 3 (some .int) :: xws) h _ List.mem_cons_self)
    exact ⟨meth, c, h1, h2, h3, h4, h5, h6⟩
  · intro p e s m args below meth c s₁ B hml hP _
    obtain ⟨rfl, hPb, hK, hN, hEx, -⟩ := hP
    have hts0 := atoms_spec (ws := .code yX5_answer cX5_answer 3 (some .int) :: xws) B.pre
    have hts : ∀ w ∈ xws, w.before [Value.ref (X.2 + 0), .int dev, .int i].toArray s = true := fun w hw => hts0 w (List.mem_cons_of_mem _ hw)
    have hcode := hts0 _ List.mem_cons_self
    have hx := B.exec
    have hb := B.bytes
    have hown : s.vm.findClass RX5 = some m.cls := findClass_of_methodNamed B.named
    have hlocks := B.notSynchronized
    have hh0 : s₁.heap = s.heap := by rw [B.state]; rfl
    have htr : e.platform.stackTraces = false := by rw [(Stand.of_body B).admits.platform]; exact hl0
    suffices KK : W p l e rmT s m [Value.ref (X.2 + 0), .int dev, .int i].toArray below meth c s.heap [] 0 0 (fun t => ∃ o, t.status = .running ∧ Ended t below o ∧ QT X μ [Value.ref (X.2 + 0), .int dev, .int i].toArray s o t) (entryFrame m [Value.ref (X.2 + 0), .int dev, .int i].toArray 3) by
      obtain ⟨t, a1, o, b1, b2, b3⟩ := KK s₁ hh0 (Stand.of_body B)
      exact ⟨t, o, a1, b1, b2, b3⟩
    have hl := lv_entry ([.ref (X.2 + 0), .int dev, .int i]) (n := 3) (Nat.le_of_ble_eq_true rfl)
    rw [lg_entry_eq]
    generalize (lg_sl ([.ref (X.2 + 0), .int dev, .int i]) ++ List.replicate (3 - (lg_sl ([.ref (X.2 + 0), .int dev, .int i])).length) Slot.unset).toArray = ls at hl ⊢
    have hl : lv_has ls 3 [(0, .ref (X.2 + 0)), (1, .int dev), (2, .int i)] := hl
    obtain ⟨cX, kX0, hfX, -⟩ := Cond.instantiable_spec (hts _ in_aio)
    have pre0 : ∀ U : State, U.heap = s.heap → s.WarmedH U.vm → xpre X (ExT X.2) false [] μ U := fun U hU hW => ⟨fun k q h => by simp [xwl] at h, va_K.moved hW.alike hK, fun w hw => xnw_warm (xnw_ok w hw) hW (hN w hw), ExT_st (X := X) (fr := false) (n := 0) s U hW (by rw [hU]; exact Nat.le_refl _) (fun q _ _ => by rw [hU]) hEx, fun h => by cases h⟩
    have bl0 : ∀ As : List Value, FrameBlind (va_Pc As (xpre X (ExT X.2) false [] μ)) := fun As => xpre_blind ExT_st
    have thr : W p l e rmT s m [Value.ref (X.2 + 0), .int dev, .int i].toArray below meth c s.heap [] 0 0 (fun t => ∃ o, t.status = .running ∧ Ended t below o ∧ QT X μ [Value.ref (X.2 + 0), .int dev, .int i].toArray s o t) (F0 m 28 ls []) := by
      refine W.newcK hx hb (own := RX5) (C := aioN) hown (hts _ lc_X5_66) (hts _ in_aio) (hts _ ii_aio) rfl dX5_answer_28 (Nat.le_of_ble_eq_true rfl) (Nat.le_of_ble_eq_true rfl) hfX rfl (fun H' kX hkX e1 z1 o1 => ?_)
      refine lv_dup hx hb dX5_answer_31 rfl ?_
      obtain ⟨-, -, -, sa, -, -, -, -, -, hev⟩ := Cond.stringRef_spec hown hEx.1
      refine va_ldcS (q := sa) (tx := aioTx) hx hb hown (vk_R.of hEx.1 hev) dX5_answer_32 ?_
      intro T hT X'
      obtain ⟨U, hsteps, hrun, hend, hW, hsame, ce, hce, KO⟩ := X'.ctorThrowS hx htr (own := RX5) (cls := aioN) (names := aioUp) (ic := 70) hown (by decide +kernel) (by decide +kernel) (oa_all hts hEx) (fun y hy => by cases hy) hfX hkX (by rw [hT]; exact e1) (Nat.le_refl _) (msg := .ref sa) rfl (g := F0 m 34 ls [.ref sa, .ref s.heap.size, .ref s.heap.size]) rfl (hl.1.trans hml.symm) rfl rfl (rest := []) rfl (by rw [hb]; exact dX5_answer_34) (by rw [hb]; exact dX5_answer_37) (covers_of_empty (B.noHandlers hcode) _) (by decide) (Nat.le_of_ble_eq_true rfl)
      refine ⟨U, hsteps, .threw s.heap.size, hrun, hend, s.heap.size, ce, rfl, hce, by rw [KO.vm]; rfl, KO.cls, ?_, ⟨_, rfl⟩, hW, hsame⟩
      refine hPb.kept (fun k q hq => ?_)
      have hlt := (hPb k q hq).lt
      have h5 := State.sameButNew.old_cell hsame (Array.getElem?_eq_getElem hlt)
      exact h5.trans (Array.getElem?_eq_getElem hlt).symm
    refine lv_iload_n hx hb dX5_answer_0 rfl (lv_at hl 1 rfl) ?_
    refine lv_bipush (v := 6) hx hb dX5_answer_1 (by decide) ?_
    refine W_pure (X := X) (va_runS (As := [.int dev, .int 6]) (rest := []) ⟨hx, hb, hml, hown, hts⟩ (c_isBelow X (ExT X.2) false [] μ dev 6 l) ⟨callB_of 2 hts (xgood mX5_isBelow.1) rfl rfl rfl (hts _ mX5_isBelow.1.2.1) (hts _ lm_X5_41) mX5_isBelow.1.2.2 ⟨Nat.le_of_ble_eq_true rfl, Nat.le_of_ble_eq_true rfl⟩, hts _ mX5_isBelow.2⟩ ⟨bl0 _, fun U hU hW => ⟨rfl, pre0 U hU hW⟩⟩ rfl rfl hl.1 rfl (xroom (Nat.le_of_ble_eq_true rfl)) dX5_answer_3 ⟨Nat.le_of_ble_eq_true rfl, Nat.le_of_ble_eq_true rfl⟩) (fun r sh' μ' hp => ?_)
    obtain ⟨-, -, x3, rfl, hx3⟩ := hp
    refine lv_if_eq (tgt := 28) hx hb dX5_answer_6 (by decide) (fun _ => thr) (fun h6 => ?_)
    have hb1 := isB_t hx3 h6
    have hd := clamp_lt (n := 6) hb1.1 hb1.2 (by decide)
    refine lv_iload_n hx hb dX5_answer_9 rfl (lv_at hl 2 rfl) ?_
    refine lv_aload_n hx hb dX5_answer_10 rfl (lv_at hl 0 rfl) ?_
    refine va_get hx hb hts (xcl_ok 5 _ rfl).1 hown hK hPb 0 (xwl_get μ s_EW) rfl 0 (by decide) (hts _ lf_X5_11) (fun _ h => h) (v := .ref (X.2 + 1)) rfl dX5_answer_11 ?_
    refine lv_iload_n hx hb dX5_answer_14 rfl (lv_at hl 1 rfl) ?_
    have hcell : s.heap[X.2 + 1]? = some (arrV (X.1.2 4) 6 (fun j => va_rf ((([some 2, some 11, some 20, some 29, some 38, some 47] : List (Option Nat)).getD j none).map (X.2 + ·)))) := hPb 1 _ (xwl_get μ s_lines)
    refine W.aald (v := .ref (X.2 + (2 + 9 * dev.toNatClampNeg))) hx hb hcell ((hK.2 4 _ (xtys_at rfl)).1 6 _) rfl (fun q => by cases q) (by rw [arrV_size]; exact vp_in_lt (n := 6) hb1.1 hb1.2 (by decide)) (by rw [arrV_read _ _ hd, el_lines _ hd]; rfl) rfl rfl dX5_answer_15 ?_
    refine va_get hx hb hts (xcl_ok 2 _ rfl).1 hown hK hPb (2 + 9 * dev.toNatClampNeg) (xwl_get μ (s_Line _ hd)) rfl 6 (by decide) (hts _ lf_X5_57) (fun _ h => h) (v := .ref (X.2 + (2 + 9 * dev.toNatClampNeg + 2))) rfl dX5_answer_16 ?_
    refine va_get hx hb hts (xcl_ok 4 _ rfl).1 hown hK hPb (2 + 9 * dev.toNatClampNeg + 2) (xwl_get μ (s_Lsh _ hd).1) rfl 1 (by decide) (hts _ lf_X5_61) (fun _ h => h) (v := .int (μ (2 + 9 * dev.toNatClampNeg + 2) 1)) rfl dX5_answer_19 ?_
    refine W_pure (X := X) (va_runS (As := [.int i, .int (μ (2 + 9 * dev.toNatClampNeg + 2) 1)]) (rest := []) ⟨hx, hb, hml, hown, hts⟩ (c_isBelow X (ExT X.2) false [] μ i (μ (2 + 9 * dev.toNatClampNeg + 2) 1) l) ⟨callB_of 2 hts (xgood mX5_isBelow.1) rfl rfl rfl (hts _ mX5_isBelow.1.2.1) (hts _ lm_X5_41) mX5_isBelow.1.2.2 ⟨Nat.le_of_ble_eq_true rfl, Nat.le_of_ble_eq_true rfl⟩, hts _ mX5_isBelow.2⟩ ⟨bl0 _, fun U hU hW => ⟨rfl, pre0 U hU hW⟩⟩ rfl rfl hl.1 rfl (xroom (Nat.le_of_ble_eq_true rfl)) dX5_answer_22 ⟨Nat.le_of_ble_eq_true rfl, Nat.le_of_ble_eq_true rfl⟩) (fun r sh' μ' hp => ?_)
    obtain ⟨-, -, x22, rfl, hx22⟩ := hp
    refine lv_if_ne (tgt := 38) hx hb dX5_answer_25 rfl (fun h => ?_) (fun _ => thr)
    have z := isB_t hx22 h
    exact absurd ⟨hb1, z⟩ hNo
/-! the law's helper: it calls answer(), which throws, and catches it -/
abbrev hdL : List (Nat × Nat × Nat × Nat) := [(0, 10, 13, 13)]
set_option maxRecDepth 20000 in
theorem w_cw : Cond.codeWith yL_answer cL_answer 5 (some .int) hdL ∈ xws := xwc 499 rfl rfl
theorem w_iL : Cond.initialized RL ∈ xws := xw 35 (by decide +kernel)
theorem w_sL : Cond.static yL_answer ∈ xws := xw 498 (by decide +kernel)
abbrev rmA : Room := { frames := 9, cells := 1, slots := 6, locals := 190 }
section CTH
variable {p : Program} {l : Launch} {e : Env} {R : Room} {s : State} {m : MethodId} {args : Array Value} {below : List Frame} {meth : Method} {c : Code} {T : State} {locs : List Loc} {cells slots : Nat}
theorem callVT (X : Stand p l e R s m args below meth c T locs cells slots) (hexec : p.tables.exec = Jvm.exec) {own C : String} {index : Nat} {y : MethodName} {bytes : ByteArray} {maxL : Nat} {ret : Option FieldType}
    (hown : s.vm.findClass own = some m.cls) (hlink : (Cond.methodLink own index y).before args s = true) (hinst : (Cond.instanceMethod y).before args s = true) (hsel : (Cond.selects C y y).before args s = true)
    (hcode : (Cond.code y bytes maxL ret).before args s = true) (hy : y.cls ≠ "java/lang/invoke/MethodHandle" ∧ y.cls ≠ "java/lang/invoke/VarHandle")
    {W : Nat} {Pre : Pt → Array Value → Prop} {Post : Pt → Array Value → Addr → Pt → Prop} (hK : Jvm.Free.BackT l R p e below s args y 3 W Pre Post)
    {b : Addr} {cellB : Cell} (hcell : T.heap[b]? = some cellB) (hobj : cellB.vm.isStatics = false) (hcls : s.vm.findClass C = some cellB.cls)
    {g : JFrame} (hg : g.method = m) (hsize : g.locals.size = c.maxLocals) {argsL rest : List Value} (hlen : ∀ sig, parseMethodDescriptor y.desc = some sig → argsL.length = sig.parameters.length)
    (hstack : g.stack = argsL.reverse ++ .ref b :: rest) (hW : 2 * g.monitorRoom + (rest.map fun v => v.category).sum ≤ W) (hdg : decode c.code g.pc = .ok (.invokevirtual index, 3))
    (hpre : ∀ vm₁, s.WarmedH vm₁ → Pre ⟨T.setVm vm₁, locs, cells, slots⟩ (Value.ref b :: argsL).toArray) :
    ∃ (v : Addr) (vm₁ : Jvm.Vm) (B : Pt), s.WarmedH vm₁ ∧ Stand p l e R s m args below meth c B.U B.locs B.cells B.slots ∧ Post ⟨T.setVm vm₁, locs, cells, slots⟩ (Value.ref b :: argsL).toArray v B ∧
      Steps p.tables e below (T.setTop g) ((B.U.setTop { g with stack := rest }).pushFrame (.throwing v)) := by
  obtain ⟨mk, methM, hnamed, hmethM, hstM, habM⟩ := Cond.instanceMethod_spec hinst
  obtain ⟨methM', cM, hmethM', -, -, -, -, -, -, hsigM⟩ := Cond.code_spec hnamed hcode
  cases hmethM.symm.trans hmethM'
  obtain ⟨c2, r2, m2, q1, q2, q3, q4, kP, hkP, hkPi⟩ := Cond.selects_spec hsel
  cases hcls.symm.trans q1
  cases (State.methodFound?_of_named hnamed hy).symm.trans q2
  cases hnamed.symm.trans q3
  have hselP : selectMethod e.platform s.vm cellB.cls mk = .method mk := by rw [Launch.admits_selectMethod X.admits]; exact q4
  obtain ⟨vm₁, X₁, hstep₁⟩ := X.invokevirtual hexec hown hlink hnamed hmethM hstM hkP hkPi hy (a := b) (cell := cellB) hcell
    (fun z h => by rw [h] at hobj; cases hobj) hselP hmethM habM hkP hkPi (g := g) hg (argsL := argsL) (rest := rest) (hlen _ hsigM) hstack hdg
  obtain ⟨v, B, X', hpost, hsteps⟩ := hK m meth c ⟨T.setVm vm₁, locs, cells, slots⟩ { g with stack := rest } (.invokevirtual index) mk (Value.ref b :: argsL).toArray X₁ hg hsize hdg hW (X₁.named hnamed) (hpre vm₁ X₁.warmed)
  exact ⟨v, vm₁, B, X₁.warmed, X', hpost, hstep₁ _ fun acts => by rw [doInvoke_state]; exact hsteps⟩
end CTH
def PoA (μ : xM) : Option Value → List xS → xM → Prop := fun r sh' μ' => shA = sh' ∧ (∀ a, a ≠ 116 → μ' a = μ a) ∧ ∃ x : Int32, r = some (.int x)
abbrev kL_answer : xK := (RL, cL_answer, 5, (some .int), false)
set_option maxHeartbeats 1000000 in
set_option maxRecDepth 20000 in
theorem h_norm {l : Launch} (X : xD) (μ : xM) (hLB : LB μ) (dev i : Int32) (hb : 0 ≤ dev ∧ dev < 6) (hi : 0 ≤ i ∧ i < μ (2 + 9 * dev.toNatClampNeg + 2) 1) : sx l rmA X (ExT X.2) false kL_answer shA.length (xZ X false shA.length (PoA μ) 1 6) 0 [some (.ref (X.2 + 0)), some (.int dev), some (.int i), some (.ref (X.2 + 116)), none] [] shA μ 0 0 := by
  refine sx_aload_n (pc := 0) dL_answer_0 rfl rfl ?_
  refine sx_iconst (pc := 1) (v := 0) dL_answer_1 (by decide) ?_
  refine sx_aload_n (pc := 2) dL_answer_2 rfl rfl ?_
  refine sx_iload_n (pc := 3) dL_answer_3 rfl rfl ?_
  refine sx_iload_n (pc := 4) dL_answer_4 rfl rfl ?_
  refine sx_callV (pc := 5) (As := [.int dev, .int i]) dL_answer_5 (p_answer X (ExT X.2) ExT_st μ dev i hb hi hLB) mX5_answer lm_L_7 rfl s_EW rfl ⟨(Nat.le_of_ble_eq_true rfl), (Nat.le_of_ble_eq_true rfl)⟩ ⟨(Nat.le_of_ble_eq_true rfl), (Nat.le_of_ble_eq_true rfl)⟩ (Nat.le_of_ble_eq_true rfl) ExT_st (fun r_5 sh1 μ1 h_5 => ?_)
  obtain ⟨rfl, rfl, x_5, rfl⟩ := h_5
  refine sx_i2l (pc := 8) dL_answer_8 rfl ?_
  refine sx_last (pc := 9) dL_answer_9 s_out (by unfold vp_in; decide) (fun μ2 hμ2 => ?_)
  refine sx_goto (pc := 10) (tgt := 17) dL_answer_10 (by decide) ?_
  refine sx_iconst (pc := 17) (v := 0) dL_answer_17 (by decide) ?_
  exact sx_iret (pc := 18) dL_answer_18 rfl rfl (Nat.zero_le _) (Nat.zero_le _) ⟨rfl, fun a ha => by rw [hμ2]; funext b; rw [xup_at, if_neg (fun q => ha q.1)], _, rfl⟩
set_option maxHeartbeats 1000000 in
set_option maxRecDepth 20000 in
theorem t_help (X : xD) (μ : xM) (hLB : LB μ) (dev i : Int32) (l : Launch) (hl0 : l.stackTraces = false) : MetFree l yL_answer (headSpec (.codeWith yL_answer cL_answer 5 (some .int) hdL :: xws) rmA) (va_Pc [.ref (X.2 + 0), .int dev, .int i, .ref (X.2 + 116)] (xpre X (ExT X.2) false shA μ)) (fun _ _ _ _ _ => True) (fun a st o t => xQ X false shA.length (PoA μ) a st o t ∧ ∃ L, FrameEnd st o t L 1 6 ∧ ∀ q ∈ L, xA X.2 shA.length false q.base) := by
  refine MetFree.of_bodyS (code := cL_answer) (maxLocals := 5) (ret := some .int) (by decide) ?_ ?_
  · intro args s m h hn
    obtain ⟨m', meth, c, h0, h1, h2, h3, h4, -, h5, h6, -⟩ := Cond.codeWith_spec (atoms_spec (ws := .codeWith yL_answer cL_answer 5 (some .int) hdL :: xws) h _ List.mem_cons_self)
    cases hn.symm.trans h0
    exact ⟨meth, c, h1, h2, h3, h4, h5, h6⟩
  · intro p e s m args below meth c s₁ B hml hP _
    obtain ⟨rfl, hPb, hK, hN, hEx, -⟩ := hP
    have hts0 := atoms_spec (ws := .codeWith yL_answer cL_answer 5 (some .int) hdL :: xws) B.pre
    have hts : ∀ w ∈ xws, w.before [Value.ref (X.2 + 0), .int dev, .int i, .ref (X.2 + 116)].toArray s = true := fun w hw => hts0 w (List.mem_cons_of_mem _ hw)
    have hx := B.exec
    have hb := B.bytes
    have hr := B.returns
    have hown : s.vm.findClass RL = some m.cls := findClass_of_methodNamed B.named
    have hlocks := B.notSynchronized
    have hh0 : s₁.heap = s.heap := by rw [B.state]; rfl
    obtain ⟨m', meth', c', h0, h1, h2, -, -, htab, -, -, -⟩ := Cond.codeWith_spec (hts0 _ List.mem_cons_self)
    cases B.named.symm.trans h0
    cases B.method.symm.trans h1
    cases (Stand.of_body B).code.symm.trans h2
    obtain ⟨x0, hx0, hx1, hx2, hx3, hx4⟩ : ∃ x0 : ExceptionTableEntry, c.exceptionTable.toList = [x0] ∧ x0.startPc = 0 ∧ x0.endPc = 10 ∧ x0.handlerPc = 13 ∧ x0.catchType = 13 := by
      cases hc : c.exceptionTable.toList with
      | nil => rw [hc] at htab; cases htab
      | cons x0 r =>
        rw [hc] at htab
        simp only [List.map_cons, List.cons.injEq, Prod.mk.injEq, List.map_eq_nil_iff] at htab
        exact ⟨x0, by rw [htab.2], htab.1.1, htab.1.2.1, htab.1.2.2.1, htab.1.2.2.2⟩
    suffices KK : W p l e rmA s m [Value.ref (X.2 + 0), .int dev, .int i, .ref (X.2 + 116)].toArray below meth c s.heap [] 0 0 (MQ below (xQ X false shA.length (PoA μ)) [Value.ref (X.2 + 0), .int dev, .int i, .ref (X.2 + 116)].toArray s 1 6 (xA X.2 shA.length false)) (entryFrame m [Value.ref (X.2 + 0), .int dev, .int i, .ref (X.2 + 116)].toArray 5) by
      obtain ⟨t, a1, o, b1, b2, b3⟩ := KK s₁ hh0 (Stand.of_body B)
      exact ⟨t, o, a1, b1, b2, ⟨b3.1, b3.2⟩⟩
    have hl := lv_entry ([.ref (X.2 + 0), .int dev, .int i, .ref (X.2 + 116)]) (n := 5) (Nat.le_of_ble_eq_true rfl)
    rw [lg_entry_eq]
    generalize (lg_sl ([.ref (X.2 + 0), .int dev, .int i, .ref (X.2 + 116)]) ++ List.replicate (5 - (lg_sl ([.ref (X.2 + 0), .int dev, .int i, .ref (X.2 + 116)])).length) Slot.unset).toArray = ls at hl ⊢
    have hl : lv_has ls 5 [(0, .ref (X.2 + 0)), (1, .int dev), (2, .int i), (3, .ref (X.2 + 116))] := hl
    by_cases hNo : (0 ≤ dev ∧ dev < 6) ∧ 0 ≤ i ∧ i < μ (2 + 9 * dev.toNatClampNeg + 2) 1
    · have hw := h_norm (l := l) X μ hLB dev i hNo.1 hNo.2 p e s m [.ref (X.2 + 0), .int dev, .int i, .ref (X.2 + 116)].toArray below meth c s.heap [] ls ⟨hx, hb, hml, hr, hlocks, hown, hts, hN, hK, hEx, fun h => (by cases h), fun h => (by cases h), fun q hq cell hcell => xNS (fr := false) hPb (fun h => by cases h) hq hcell⟩ ⟨hPb, ⟨Nat.le_refl _, fun _ _ _ => rfl, fun _ h => (by cases h)⟩, Nat.le_refl _, fun _ => rfl, fun h => (by cases h)⟩ ⟨hl, fun j v h => (by
        match j, h with
        | 0, h => cases h; rfl
        | 1, h => cases h; rfl
        | 2, h => cases h; rfl
        | 3, h => cases h; rfl
        | 4, h => cases h
        | j + 5, h => cases h)⟩
      exact hw
    refine lv_aload_n hx hb dL_answer_0 rfl (lv_at hl 3 rfl) ?_
    refine lv_iconst (v := 0) hx hb dL_answer_1 (by decide) ?_
    refine lv_aload_n hx hb dL_answer_2 rfl (lv_at hl 0 rfl) ?_
    refine lv_iload_n hx hb dL_answer_3 rfl (lv_at hl 1 rfl) ?_
    refine lv_iload_n hx hb dL_answer_4 rfl (lv_at hl 2 rfl) ?_
    intro T hT X'
    have hW5 := mX5_answer
    have hBT : Jvm.Free.BackT l rmA p e below s [Value.ref (X.2 + 0), .int dev, .int i, .ref (X.2 + 116)].toArray yX5_answer 3 8 (fun A a => A.cells + 1 ≤ 1 ∧ A.slots + 6 ≤ 6 ∧ a = [Value.ref (X.2 + 0), .int dev, .int i].toArray ∧ xpre X (ExT X.2) false shA μ A.U) (fun A a v B' => B'.locs = A.locs ++ [] ∧ B'.cells = A.cells + 1 ∧ B'.slots = A.slots + 6 ∧ ∃ ce : Cell, B'.U.heap[v]? = some ce ∧ ce.vm.isStatics = false ∧ A.U.vm.findClass aioN = some ce.cls ∧ va_P X.1.1 classes (xwl X shA μ) B'.U.heap) := by
      refine Jvm.Free.BackT.of_free (bytes := cX5_answer) (maxL := 3) (ret := some .int) (E := fun a st o t L k n => L = [] ∧ k = 1 ∧ n = 6) (t_answer X μ dev i hNo l hl0) (Nat.le_of_ble_eq_true rfl) (Nat.le_of_ble_eq_true rfl) ?_ ?_ (fun _ _ _ _ _ _ _ _ _ => trivial) ?_ ?_
      · intro m1 meth1 c1 A a X1 hp
        exact ⟨atoms_intro fun w hw => pay_in hts (xgood hW5.1) w hw _ _ X1.warmed, pay_in hts (xgood hW5.1) _ List.mem_cons_self _ _ X1.warmed, pay_in hts (xgood hW5.1) _ (List.mem_cons_of_mem _ hW5.1.2.1) _ _ X1.warmed, hp.1, hp.2.1⟩
      · intro m1 meth1 c1 A a g mk X1 hp
        exact xpre_blind ExT_st _ _ _ _ ⟨hp.2.2.1, hp.2.2.2⟩
      · rintro a st o t ⟨a1, ce, rfl, g1, g2, g3, g4, g5⟩
        exact ⟨[], 1, 6, g5, rfl, rfl, rfl⟩
      · rintro m1 meth1 c1 A a g mk v t L k n X1 hp ⟨a1, ce, e0, g1, g2, g3, g4, g5⟩ hFE ⟨rfl, rfl, rfl⟩
        cases e0
        exact ⟨rfl, rfl, rfl, ce, g1, g2, g3, g4⟩
    obtain ⟨cellB, hcB, hoB, hclB⟩ := va_recv hK hPb (q := (RX5, TX5, 5)) (ci := 5) (q0 := 0) rfl (xwl_get μ s_EW)
    obtain ⟨v, vm₁, ⟨U', l2, c2, s2⟩, hW₁, X2, ⟨e1, e2, e3, ce, g1, g2, g3, g4⟩, st⟩ := callVT X' hx (C := RX5) (own := RL) (y := yX5_answer) (bytes := cX5_answer) (maxL := 3) (ret := some .int) hown (hts _ lm_L_7) (hts _ hW5.2.1) (hts _ hW5.2.2) (hts _ hW5.1.1) ⟨hW5.1.2.2.1, hW5.1.2.2.2.1⟩ hBT (b := X.2 + 0) (by rw [hT]; exact hcB) hoB hclB (g := F0 m 5 ls [.int i, .int dev, .ref (X.2 + 0), .int 0, .ref (X.2 + 116)]) rfl (hl.1.trans hml.symm) (argsL := [.int dev, .int i]) (rest := [.int 0, .ref (X.2 + 116)]) (fun sig h => by
        have h2 := hW5.1.2.2.2.2
        rw [h] at h2
        exact (Option.some.inj h2).symm) rfl (xroom (Nat.le_of_ble_eq_true rfl)) (by rw [hb]; exact dL_answer_5) (fun vm1 hw1 => ⟨Nat.le_refl _, Nat.le_refl _, rfl, ⟨by show va_P _ _ _ T.heap; rw [hT]; exact hPb, va_K.moved hw1.alike hK, fun w hw => xnw_warm (xnw_ok w hw) hw1 (hN w hw), ExT_st (X := X) (fr := false) (n := 0) s _ hw1 (by show s.heap.size ≤ T.heap.size; rw [hT]; exact Nat.le_refl _) (fun q _ _ => by show T.heap[q]? = _; rw [hT]) hEx, fun h => by cases h⟩⟩)
    dsimp only [Pt.U, Pt.locs, Pt.cells, Pt.slots] at X2 e1 e2 e3 g1 g2 g3 g4 st
    subst e1
    subst e2
    subst e3
    have g3' : s.vm.findClass aioN = some ce.cls := by
      rw [← hW₁.alike.findClass]
      exact g3
    obtain ⟨vm', XV, st2⟩ := X2.thenCaughtLink v rfl st (own := RL) (name := aioN) hown [] x0 [] (by rw [hx0]; rfl) (fun y hy => by cases hy) (by simp [covers, hx1, hx2]) (by rw [hx4]; decide) (by rw [hx4]; exact hts _ lc_L_13) g3' g1 g2 (va_asg _ _)
    suffices K2 : W p l e rmA s m [Value.ref (X.2 + 0), .int dev, .int i, .ref (X.2 + 116)].toArray below meth c U'.heap ([] ++ []) (0 + 1) (0 + 6) (MQ below (xQ X false shA.length (PoA μ)) [Value.ref (X.2 + 0), .int dev, .int i, .ref (X.2 + 116)].toArray s 1 6 (xA X.2 shA.length false)) (F0 m 13 ls [.ref v]) by
      obtain ⟨t2, a1, b1⟩ := K2 (U'.setVm vm') rfl XV
      rw [hx3] at st2
      exact ⟨t2, st2.trans a1, b1⟩
    refine lv_astore (lv' := [(4, .ref v), (0, .ref (X.2 + 0)), (1, .int dev), (2, .int i), (3, .ref (X.2 + 116))]) hx hb dL_answer_13 hl (by decide) rfl (fun ls hl => ?_)
    refine lv_iconst (v := 1) hx hb dL_answer_15 (by decide) ?_
    have hsz : s.heap.size ≤ U'.heap.size := by
      have := X2.same.2.1
      exact this
    refine W.iret (v := 1) hx hb hr (fun t ht hW => ⟨⟨_, shA, μ, rfl, ⟨rfl, fun _ _ => rfl, 1, rfl⟩, by rw [ht]; exact g4, Nat.le_refl _, fun _ => rfl, fun h => by cases h⟩, by rw [ht]; exact hsz, fun q h1 _ => ?_⟩) (fun q hq => by cases hq) dL_answer_16
    have h5 : U'.heap[q]? = some (s.heap[q]'h1) := State.sameButNew.old_cell X2.same (Array.getElem?_eq_getElem h1)
    rw [ht, h5]
    exact (Array.getElem?_eq_getElem h1).symm
