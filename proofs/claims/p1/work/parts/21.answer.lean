theorem in_aio : Cond.instantiable aioN 6 ∈ xws := xw 506 (by decide +kernel)
theorem ii_aio : Cond.initialized aioN ∈ xws := xw 53 (by decide +kernel)
set_option maxHeartbeats 1000000 in
set_option maxRecDepth 20000 in
theorem t_answer (X : xD) (μ : xM) (hF : Fr μ) (dev i : Int32) (l : Launch) (hl0 : l.stackTraces = false) : MetFree l yX5_answer (headSpec (.code yX5_answer cX5_answer 3 (some .int) :: xws) rmT) (va_Pc [.ref (X.2 + 0), .int dev, .int i] (xpre X (ExT X.2) false shA μ)) (fun _ _ _ _ _ => True) (QT X μ) := by
  refine MetFree.of_bodyS (code := cX5_answer) (maxLocals := 3) (ret := some .int) (by decide) ?_ ?_
  · intro args s m h hn
    obtain ⟨meth, c, h1, h2, h3, h4, h5, h6, -, -⟩ := Cond.code_spec hn (atoms_spec (ws := .code yX5_answer cX5_answer 3 (some .int) :: xws) h _ List.mem_cons_self)
    exact ⟨meth, c, h1, h2, h3, h4, h5, h6⟩
  · intro p e s m args below meth c s₁ B hml hP _
    obtain ⟨rfl, hPb, hK, hN, hEx, -⟩ := hP
    have hts0 := atoms_spec (ws := .code yX5_answer cX5_answer 3 (some .int) :: xws) B.pre
    have hts : ∀ w ∈ xws, w.before [Value.ref (X.2 + 0), .int dev, .int i].toArray s = true := fun w hw => hts0 w (List.mem_cons_of_mem _ hw)
    have hcode := hts0 _ List.mem_cons_self
    have hx := B.exec
    have hb := B.bytes
    have hown : s.vm.findClass RX5 = some m.cls := findClass_of_methodNamed B.named
    have hlocks := B.notSynchronized
    have hh0 : s₁.heap = s.heap := by rw [B.state]; rfl
    have htr : e.platform.stackTraces = false := by rw [(Stand.of_body B).admits.platform]; exact hl0
    suffices KK : W p l e rmT s m [Value.ref (X.2 + 0), .int dev, .int i].toArray below meth c s.heap [] 0 0 (fun t => ∃ o, t.status = .running ∧ Ended t below o ∧ QT X μ [Value.ref (X.2 + 0), .int dev, .int i].toArray s o t) (entryFrame m [Value.ref (X.2 + 0), .int dev, .int i].toArray 3) by
      obtain ⟨t, a1, o, b1, b2, b3⟩ := KK s₁ hh0 (Stand.of_body B)
      exact ⟨t, o, a1, b1, b2, b3⟩
    have hl := lv_entry ([.ref (X.2 + 0), .int dev, .int i]) (n := 3) (Nat.le_of_ble_eq_true rfl)
    rw [lg_entry_eq]
    generalize (lg_sl ([.ref (X.2 + 0), .int dev, .int i]) ++ List.replicate (3 - (lg_sl ([.ref (X.2 + 0), .int dev, .int i])).length) Slot.unset).toArray = ls at hl ⊢
    have hl : lv_has ls 3 [(0, .ref (X.2 + 0)), (1, .int dev), (2, .int i)] := hl
    obtain ⟨cX, kX0, hfX, -⟩ := Cond.instantiable_spec (hts _ in_aio)
    have pre0 : ∀ U : State, U.heap = s.heap → s.WarmedH U.vm → xpre X (ExT X.2) false [] μ U := fun U hU hW => ⟨fun k q h => by simp [xwl] at h, va_K.moved hW.alike hK, fun w hw => xnw_warm (xnw_ok w hw) hW (hN w hw), ExT_st (X := X) (fr := false) (n := 0) s U hW (by rw [hU]; exact Nat.le_refl _) (fun q _ _ => by rw [hU]) hEx, fun h => by cases h⟩
    have bl0 : ∀ As : List Value, FrameBlind (va_Pc As (xpre X (ExT X.2) false [] μ)) := fun As => xpre_blind ExT_st
    have thr : W p l e rmT s m [Value.ref (X.2 + 0), .int dev, .int i].toArray below meth c s.heap [] 0 0 (fun t => ∃ o, t.status = .running ∧ Ended t below o ∧ QT X μ [Value.ref (X.2 + 0), .int dev, .int i].toArray s o t) (F0 m 28 ls []) := by
      refine W.newcK hx hb (own := RX5) (C := aioN) hown (hts _ lc_X5_66) (hts _ in_aio) (hts _ ii_aio) rfl dX5_answer_28 (Nat.le_of_ble_eq_true rfl) (Nat.le_of_ble_eq_true rfl) hfX rfl (fun H' kX hkX e1 z1 o1 => ?_)
      refine lv_dup hx hb dX5_answer_31 rfl ?_
      obtain ⟨-, -, -, sa, -, -, -, -, -, hev⟩ := Cond.stringRef_spec hown hEx.1
      refine va_ldcS (q := sa) (tx := aioTx) hx hb hown (vk_R.of hEx.1 hev) dX5_answer_32 ?_
      intro T hT X'
      obtain ⟨U, hsteps, hrun, hend, hW, hsame, ce, hce, KO⟩ := X'.ctorThrowS hx htr (own := RX5) (cls := aioN) (names := aioUp) (ic := 70) hown (by decide +kernel) (by decide +kernel) (oa_all hts hEx) (fun y hy => by cases hy) hfX hkX (by rw [hT]; exact e1) (Nat.le_refl _) (msg := .ref sa) rfl (g := F0 m 34 ls [.ref sa, .ref s.heap.size, .ref s.heap.size]) rfl (hl.1.trans hml.symm) rfl rfl (rest := []) rfl (by rw [hb]; exact dX5_answer_34) (by rw [hb]; exact dX5_answer_37) (covers_of_empty (B.noHandlers hcode) _) (by decide) (Nat.le_of_ble_eq_true rfl)
      refine ⟨U, hsteps, .threw s.heap.size, hrun, hend, s.heap.size, ce, rfl, hce, by rw [KO.vm]; rfl, KO.cls, ?_, ⟨_, rfl⟩, hW, hsame⟩
      refine hPb.kept (fun k q hq => ?_)
      have hlt := (hPb k q hq).lt
      have h5 := State.sameButNew.old_cell hsame (Array.getElem?_eq_getElem hlt)
      exact h5.trans (Array.getElem?_eq_getElem hlt).symm
    refine lv_iload_n hx hb dX5_answer_0 rfl (lv_at hl 1 rfl) ?_
    refine lv_bipush (v := 6) hx hb dX5_answer_1 (by decide) ?_
    refine W_pure (X := X) (va_runS (As := [.int dev, .int 6]) (rest := []) ⟨hx, hb, hml, hown, hts⟩ (c_isBelow X (ExT X.2) false [] μ dev 6 l) ⟨callB_of 2 hts (xgood mX5_isBelow.1) rfl rfl rfl (hts _ mX5_isBelow.1.2.1) (hts _ lm_X5_41) mX5_isBelow.1.2.2 ⟨Nat.le_of_ble_eq_true rfl, Nat.le_of_ble_eq_true rfl⟩, hts _ mX5_isBelow.2⟩ ⟨bl0 _, fun U hU hW => ⟨rfl, pre0 U hU hW⟩⟩ rfl rfl hl.1 rfl (xroom (Nat.le_of_ble_eq_true rfl)) dX5_answer_3 ⟨Nat.le_of_ble_eq_true rfl, Nat.le_of_ble_eq_true rfl⟩) (fun r sh' μ' hp => ?_)
    obtain ⟨-, -, x3, rfl, hx3⟩ := hp
    refine lv_if_eq (tgt := 28) hx hb dX5_answer_6 (by decide) (fun _ => thr) (fun h6 => ?_)
    have hb1 := isB_t hx3 h6
    have hd := clamp_lt (n := 6) hb1.1 hb1.2 (by decide)
    have hf := hF.1 _ hd
    refine lv_iload_n hx hb dX5_answer_9 rfl (lv_at hl 2 rfl) ?_
    refine lv_aload_n hx hb dX5_answer_10 rfl (lv_at hl 0 rfl) ?_
    refine va_get hx hb hts (xcl_ok 5 _ rfl).1 hown hK hPb 0 (xwl_get μ s_EW) rfl 0 (by decide) (hts _ lf_X5_11) (fun _ h => h) (v := .ref (X.2 + 1)) rfl dX5_answer_11 ?_
    refine lv_iload_n hx hb dX5_answer_14 rfl (lv_at hl 1 rfl) ?_
    have hcell : s.heap[X.2 + 1]? = some (arrV (X.1.2 4) 6 (fun j => va_rf ((([some 2, some 11, some 20, some 29, some 38, some 47] : List (Option Nat)).getD j none).map (X.2 + ·)))) := hPb 1 _ (xwl_get μ s_lines)
    refine W.aald (v := .ref (X.2 + (2 + 9 * dev.toNatClampNeg))) hx hb hcell ((hK.2 4 _ (xtys_at rfl)).1 6 _) rfl (fun q => by cases q) (by rw [arrV_size]; exact vp_in_lt (n := 6) hb1.1 hb1.2 (by decide)) (by rw [arrV_read _ _ hd, el_lines _ hd]; rfl) rfl rfl dX5_answer_15 ?_
    refine va_get hx hb hts (xcl_ok 2 _ rfl).1 hown hK hPb (2 + 9 * dev.toNatClampNeg) (xwl_get μ (s_Line _ hd)) rfl 6 (by decide) (hts _ lf_X5_57) (fun _ h => h) (v := .ref (X.2 + (2 + 9 * dev.toNatClampNeg + 2))) rfl dX5_answer_16 ?_
    refine va_get hx hb hts (xcl_ok 4 _ rfl).1 hown hK hPb (2 + 9 * dev.toNatClampNeg + 2) (xwl_get μ (s_Lsh _ hd).1) rfl 1 (by decide) (hts _ lf_X5_61) (fun _ h => h) (v := .int (μ (2 + 9 * dev.toNatClampNeg + 2) 1)) rfl dX5_answer_19 ?_
    refine W_pure (X := X) (va_runS (As := [.int i, .int (μ (2 + 9 * dev.toNatClampNeg + 2) 1)]) (rest := []) ⟨hx, hb, hml, hown, hts⟩ (c_isBelow X (ExT X.2) false [] μ i (μ (2 + 9 * dev.toNatClampNeg + 2) 1) l) ⟨callB_of 2 hts (xgood mX5_isBelow.1) rfl rfl rfl (hts _ mX5_isBelow.1.2.1) (hts _ lm_X5_41) mX5_isBelow.1.2.2 ⟨Nat.le_of_ble_eq_true rfl, Nat.le_of_ble_eq_true rfl⟩, hts _ mX5_isBelow.2⟩ ⟨bl0 _, fun U hU hW => ⟨rfl, pre0 U hU hW⟩⟩ rfl rfl hl.1 rfl (xroom (Nat.le_of_ble_eq_true rfl)) dX5_answer_22 ⟨Nat.le_of_ble_eq_true rfl, Nat.le_of_ble_eq_true rfl⟩) (fun r sh' μ' hp => ?_)
    obtain ⟨-, -, x22, rfl, hx22⟩ := hp
    refine lv_if_ne (tgt := 38) hx hb dX5_answer_25 rfl (fun h => ?_) (fun _ => thr)
    have z := isB_t hx22 h
    rw [hf.2.2.2.2.2.2] at z
    exact absurd (Int32.lt_of_le_of_lt z.1 z.2) (by decide)
