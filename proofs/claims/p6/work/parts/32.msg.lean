/-! a copy of an array of ints; Math.min -/
section SXY
variable {l : Launch} {R : Room} {X : xD} {Ex : State → Prop} {fr : Bool} {K : xK} {n0 : Nat} {Z : List Frame → Array Value → State → State → Prop} {pc : Nat} {L : List (Option Value)} {st : List Value} {sh : List xS} {μ : xM} {cs ss : Nat}
theorem sx_copy {i k0 k1 na nb : Nat} {n : Int32} (hfr : fr = false) (hd : decode K.2.1 pc = .ok (.invokestatic i, 3)) (hl : Cond.methodLink K.1 i arraycopyName ∈ xws) (hs0 : sh[k0]? = some (shI na)) (hs1 : sh[k1]? = some (shI nb)) (h3 : ¬ n < 0) (h4 : n.toNatClampNeg ≤ na) (h5 : n.toNatClampNeg ≤ nb) (hf : 1 ≤ R.frames) (h8 : (st.map fun v => v.category).sum + (nativeFrameWords "java/lang/System" "arraycopy" 5 + 11) ≤ R.locals)
    (kk : ∀ μ' : xM, μ' = va_up μ k1 (va_cpy (μ k0) (μ k1) 0 0 n.toNatClampNeg) → sx l R X Ex fr K n0 Z (pc + 3) L st sh μ' cs ss) : sx l R X Ex fr K n0 Z pc L (.int n :: .int 0 :: .ref (X.2 + k1) :: .int 0 :: .ref (X.2 + k0) :: st) sh μ cs ss := by
  intro p e s m args below meth c H locs ls hC hH hL
  have hts := hC.2.2.2.2.2.2.1
  have hkl := (List.getElem?_eq_some_iff.mp hs1).1
  refine va_copyi (ty := .int) (n0 := na) (n1 := nb) (f := μ k0) (g := μ k1) hC.1 hC.2.1 (hC.2.2.1.trans hL.1.1.symm) hC.2.2.2.2.2.1 (hts _ hl) (hts _ (xw 441 (by decide +kernel))) (hts _ (xw 440 (by decide +kernel))) (hts _ (xw 48 (by decide +kernel))) hC.2.2.2.2.2.2.2.2.1 hH.1 (xwl_D hH.2.2.2.1) hH.2.1 k0 k1 1 1 (by rw [xwl_get μ hs0]; exact congrArg (fun z => some (X.2 + k0, z)) (xpic_i (X := X) (n := na) (f := μ k0) (by decide))) (by rw [xwl_get μ hs1]; exact congrArg (fun z => some (X.2 + k1, z)) (xpic_i (X := X) (n := nb) (f := μ k1) (by decide))) (xtys_at rfl) (xtys_at rfl) rfl (by decide) (by decide) h3 (by show 0 + _ ≤ _; omega) (by show 0 + _ ≤ _; omega) (fun _ _ => rfl) hf h8 hd (fun H1 locs1 hP hD hS => ?_)
  have e0 : (0 : Int32).toNatClampNeg = 0 := by decide
  rw [e0] at hP hD
  have hP' : va_P X.1.1 classes (xwl X sh (va_up μ k1 (va_cpy (μ k0) (μ k1) 0 0 n.toNatClampNeg))) H1 := by
    have e1 := xwl_set (X := X) (μ := μ) (s' := shI nb) (f := va_cpy (μ k0) (μ k1) 0 0 n.toNatClampNeg) hkl
    rw [xsame hs1] at e1
    rw [← e1]
    exact hP
  exact kk _ rfl p e s m args below meth c H1 locs1 ls hC ⟨hP', hS, hH.2.2.1, hH.2.2.2.1, fun h => by rw [hfr] at h; cases h⟩ hL
theorem sx_mmin {i : Nat} {x y : Int32} (hd : decode K.2.1 pc = .ok (.invokestatic i, 3)) (hl : Cond.methodLink K.1 i Lib.Math.min.name ∈ xws) (hf : 1 ≤ R.frames) (h8 : (st.map fun v => v.category).sum + 13 ≤ R.locals)
    (kk : sx l R X Ex fr K n0 Z (pc + 3) L (.int (if y < x then y else x) :: st) sh μ 0 0) : sx l R X Ex fr K n0 Z pc L (.int y :: .int x :: st) sh μ 0 0 := by
  intro p e s m args below meth c H locs ls hC hH hL
  have hts := hC.2.2.2.2.2.2.1
  exact va_mmin hC.1 hC.2.1 (hC.2.2.1.trans hL.1.1.symm) hC.2.2.2.2.2.1 (hts _ hl) (hts _ (xw 317 (by decide +kernel))) (hts _ (xw 47 (by decide +kernel))) (hts _ (xwc 318 rfl rfl)) hf h8 (Nat.zero_le _) (Nat.zero_le _) hd (kk p e s m args below meth c H locs ls hC hH hL)
end SXY
theorem Ch.up {S : Nat → Prop} {μ μ1 μ2 : xM} {k : Nat} {f : Nat → Int32} (h : Ch S μ μ1) (e : μ2 = va_up μ1 k f) (hs : S k) (hk : k ≠ 91 ∧ ∀ d, d < 6 → k ≠ 2 + 9 * d + 2 ∧ k ≠ 2 + 9 * d + 4) : Ch S μ μ2 := by
  have e2 : ∀ a, a ≠ k → μ2 a = μ1 a := fun a ha => by rw [e]; simp [va_up, ha]
  refine ⟨fun a ha => ?_, fun z => ?_⟩
  · rw [e2 a (fun q => ha (by rw [q]; exact hs)), h.1 a ha]
  · have z1 := h.2 z
    refine ⟨fun q hq => ?_, fun i hi => ?_⟩
    · rw [e2 q (fun w => by obtain ⟨d, hd, hc⟩ := hq; have := hk.2 d hd; omega)]
      exact z1.1 q hq
    · rw [e2 91 (fun w => hk.1 w.symm)]
      exact z1.2 i hi
set_option maxHeartbeats 1000000 in
set_option maxRecDepth 20000 in
theorem c_copy (X : xD) (Ex : State → Prop) (hE : xEs X false shA.length Ex) (μ : xM) (k k2 : Nat) (hR : shA[k]? = some (shReply k) ∧ shA[k + 1]? = some (shI 13)) (hk : RK k) (hR2 : shA[k2]? = some (shReply k2) ∧ shA[k2 + 1]? = some (shI 13)) (hk2 : RK k2) (hL : LB μ) : Ct X Ex false yX4_copy kX4_copy (rmN 1) [.ref (X.2 + k), .ref (X.2 + k2)] shA μ (fun r sh' μ' => shA = sh' ∧ r = none ∧ Ch (SR k) μ μ') := by
  refine Ct.of (L0 := [some (.ref (X.2 + k)), some (.ref (X.2 + k2))]) (by decide) rfl (fun h => by cases h) (by simp [Value.category]) (Nat.le_of_ble_eq_true rfl) rfl (fun l => ?_)
  refine sx_aload_n (pc := 0) dX4_copy_0 rfl rfl ?_
  refine sx_getr (pc := 1) (ci := 4) (j := 0) (r := k2 + 1) dX4_copy_1 rfl hR2.1 rfl (by decide) lf_X4_11 ?_
  refine sx_iconst (pc := 4) (v := 0) dX4_copy_4 (by decide) ?_
  refine sx_aload_n (pc := 5) dX4_copy_5 rfl rfl ?_
  refine sx_getr (pc := 6) (ci := 4) (j := 0) (r := k + 1) dX4_copy_6 rfl hR.1 rfl (by decide) lf_X4_11 ?_
  refine sx_iconst (pc := 9) (v := 0) dX4_copy_9 (by decide) ?_
  refine sx_bipush (pc := 10) (v := 13) dX4_copy_10 (by decide) ?_
  refine sx_copy (pc := 12) (k0 := k2 + 1) (k1 := k + 1) (na := 13) (nb := 13) rfl dX4_copy_12 lm_X4_33 hR2.2 hR.2 (by decide) (by decide) (by decide) (Nat.le_of_ble_eq_true rfl) (Nat.le_of_ble_eq_true rfl) (fun μ1 hμ1 => ?_)
  refine sx_aload_n (pc := 15) dX4_copy_15 rfl rfl ?_
  refine sx_aload_n (pc := 16) dX4_copy_16 rfl rfl ?_
  refine sx_geti (pc := 17) (ci := 4) (j := 1) dX4_copy_17 rfl hR2.1 rfl (by decide) lf_X4_15 ?_
  refine sx_puti (pc := 20) (ci := 4) (j := 1) (ty := .int) dX4_copy_20 rfl hR.1 rfl (by decide) lf_X4_15 rfl (by decide +kernel) rfl rfl (fun μ2 hμ2 => ?_)
  exact sx_vret (pc := 23) dX4_copy_23 rfl (Nat.zero_le _) (Nat.zero_le _) (⟨rfl, rfl, (Ch.put (Ch.up (Ch.rf) hμ1 (by omega) hk.off) hμ2 (by omega) (LB.len hμ2 hk (by have e : k2 ≠ k + 1 := (fun w => by obtain ⟨d, hd, hc⟩ := hk; obtain ⟨d2, hd2, hc2⟩ := hk2; omega); rw [hμ1]; simp only [va_up, if_neg e]; exact hL.1 k2 hk2)))⟩)
set_option maxHeartbeats 1000000 in
set_option maxRecDepth 20000 in
theorem c_forget (X : xD) (Ex : State → Prop) (hE : xEs X false shA.length Ex) (μ : xM)  : Ct X Ex false yX3_forget kX3_forget (rmN 0) [.ref (X.2 + 94)] shA μ (fun r sh' μ' => shA = sh' ∧ r = none ∧ Ch SM μ μ') := by
  refine Ct.of (L0 := [some (.ref (X.2 + 94))]) (by decide) rfl (fun h => by cases h) (by simp [Value.category]) (Nat.le_of_ble_eq_true rfl) rfl (fun l => ?_)
  refine sx_aload_n (pc := 0) dX3_forget_0 rfl rfl ?_
  refine sx_iconst (pc := 1) (v := 0) dX3_forget_1 (by decide) ?_
  refine sx_puti (pc := 2) (ci := 3) (j := 0) (ty := .int) dX3_forget_2 rfl s_Me rfl (by decide) lf_X3_9 rfl (by decide +kernel) rfl rfl (fun μ1 hμ1 => ?_)
  refine sx_aload_n (pc := 5) dX3_forget_5 rfl rfl ?_
  refine sx_iconst (pc := 6) (v := (-1)) dX3_forget_6 (by decide) ?_
  refine sx_puti (pc := 7) (ci := 3) (j := 1) (ty := .int) dX3_forget_7 rfl s_Me rfl (by decide) lf_X3_15 rfl (by decide +kernel) rfl rfl (fun μ2 hμ2 => ?_)
  refine sx_aload_n (pc := 10) dX3_forget_10 rfl rfl ?_
  refine sx_iconst (pc := 11) (v := (-1)) dX3_forget_11 (by decide) ?_
  refine sx_puti (pc := 12) (ci := 3) (j := 2) (ty := .int) dX3_forget_12 rfl s_Me rfl (by decide) lf_X3_18 rfl (by decide +kernel) rfl rfl (fun μ3 hμ3 => ?_)
  refine sx_aload_n (pc := 15) dX3_forget_15 rfl rfl ?_
  refine sx_iconst (pc := 16) (v := (-1)) dX3_forget_16 (by decide) ?_
  refine sx_puti (pc := 17) (ci := 3) (j := 3) (ty := .int) dX3_forget_17 rfl s_Me rfl (by decide) lf_X3_21 rfl (by decide +kernel) rfl rfl (fun μ4 hμ4 => ?_)
  refine sx_aload_n (pc := 20) dX3_forget_20 rfl rfl ?_
  refine sx_iconst (pc := 21) (v := (-1)) dX3_forget_21 (by decide) ?_
  refine sx_puti (pc := 22) (ci := 3) (j := 4) (ty := .int) dX3_forget_22 rfl s_Me rfl (by decide) lf_X3_24 rfl (by decide +kernel) rfl rfl (fun μ5 hμ5 => ?_)
  exact sx_vret (pc := 25) dX3_forget_25 rfl (Nat.zero_le _) (Nat.zero_le _) (⟨rfl, rfl, (Ch.put (Ch.put (Ch.put (Ch.put (Ch.put (Ch.rf) hμ1 (by omega) (LB.off hμ1 ⟨by omega, fun _ _ => by omega⟩)) hμ2 (by omega) (LB.off hμ2 ⟨by omega, fun _ _ => by omega⟩)) hμ3 (by omega) (LB.off hμ3 ⟨by omega, fun _ _ => by omega⟩)) hμ4 (by omega) (LB.off hμ4 ⟨by omega, fun _ _ => by omega⟩)) hμ5 (by omega) (LB.off hμ5 ⟨by omega, fun _ _ => by omega⟩))⟩)
set_option maxHeartbeats 1000000 in
set_option maxRecDepth 20000 in
theorem c_fill (X : xD) (Ex : State → Prop) (hE : xEs X false shA.length Ex) (μ : xM) (a b c : Int32) : Ct X Ex false yX3_fillFromRow kX3_fillFromRow (rmN 1) [.ref (X.2 + 94), .int a, .int b, .int c] shA μ (fun r sh' μ' => shA = sh' ∧ r = none ∧ Ch SM μ μ' ∧ μ' 94 0 = a ∧ μ' 94 3 = b ∧ μ' 94 2 = c) := by
  refine Ct.of (L0 := [some (.ref (X.2 + 94)), some (.int a), some (.int b), some (.int c)]) (by decide) rfl (fun h => by cases h) (by simp [Value.category]) (Nat.le_of_ble_eq_true rfl) rfl (fun l => ?_)
  refine sx_aload_n (pc := 0) dX3_fillFromRow_0 rfl rfl ?_
  refine sx_callV (pc := 1) (As := []) dX3_fillFromRow_1 (c_forget X Ex hE μ) mX3_forget lm_X3_27 rfl s_Me rfl ⟨Nat.le_of_ble_eq_true rfl, Nat.le_of_ble_eq_true rfl⟩ ⟨Nat.le_of_ble_eq_true rfl, Nat.le_of_ble_eq_true rfl⟩ (Nat.le_of_ble_eq_true rfl) hE (fun r_1 sh1 μ1 h_1 => ?_)
  obtain ⟨rfl, rfl, k_1⟩ := h_1
  refine sx_aload_n (pc := 4) dX3_fillFromRow_4 rfl rfl ?_
  refine sx_iload_n (pc := 5) dX3_fillFromRow_5 rfl rfl ?_
  refine sx_puti (pc := 6) (ci := 3) (j := 0) (ty := .int) dX3_fillFromRow_6 rfl s_Me rfl (by decide) lf_X3_9 rfl (by decide +kernel) rfl rfl (fun μ2 hμ2 => ?_)
  refine sx_aload_n (pc := 9) dX3_fillFromRow_9 rfl rfl ?_
  refine sx_iload_n (pc := 10) dX3_fillFromRow_10 rfl rfl ?_
  refine sx_puti (pc := 11) (ci := 3) (j := 3) (ty := .int) dX3_fillFromRow_11 rfl s_Me rfl (by decide) lf_X3_21 rfl (by decide +kernel) rfl rfl (fun μ3 hμ3 => ?_)
  refine sx_aload_n (pc := 14) dX3_fillFromRow_14 rfl rfl ?_
  refine sx_iload_n (pc := 15) dX3_fillFromRow_15 rfl rfl ?_
  refine sx_puti (pc := 16) (ci := 3) (j := 2) (ty := .int) dX3_fillFromRow_16 rfl s_Me rfl (by decide) lf_X3_18 rfl (by decide +kernel) rfl rfl (fun μ4 hμ4 => ?_)
  exact sx_vret (pc := 19) dX3_fillFromRow_19 rfl (Nat.zero_le _) (Nat.zero_le _) (⟨rfl, rfl, (Ch.put (Ch.put (Ch.put (Ch.trans (Ch.rf) k_1) hμ2 (by omega) (LB.off hμ2 ⟨by omega, fun _ _ => by omega⟩)) hμ3 (by omega) (LB.off hμ3 ⟨by omega, fun _ _ => by omega⟩)) hμ4 (by omega) (LB.off hμ4 ⟨by omega, fun _ _ => by omega⟩)), by subst hμ4; subst hμ3; subst hμ2; simp [xup_at], by subst hμ4; subst hμ3; subst hμ2; simp [xup_at], by subst hμ4; subst hμ3; subst hμ2; simp [xup_at]⟩)
set_option maxHeartbeats 1000000 in
set_option maxRecDepth 20000 in
theorem c_keep (X : xD) (Ex : State → Prop) (hE : xEs X false shA.length Ex) (μ : xM) (a b : Int32) : Ct X Ex false yX3_keepField kX3_keepField (rmN 0) [.ref (X.2 + 94), .int a, .int b] shA μ (fun r sh' μ' => shA = sh' ∧ r = none ∧ Ch SM μ μ') := by
  refine Ct.of (L0 := [some (.ref (X.2 + 94)), some (.int a), some (.int b)]) (by decide) rfl (fun h => by cases h) (by simp [Value.category]) (Nat.le_of_ble_eq_true rfl) rfl (fun l => ?_)
  refine sx_iload_n (pc := 0) dX3_keepField_0 rfl rfl ?_
  refine sx_bipush (pc := 1) (v := 97) dX3_keepField_1 (by decide) ?_
  refine sx_icmp_ne (pc := 3) (tgt := 14) dX3_keepField_3 (by decide) (fun c_3 => ?_) (fun c_3 => ?_)
  · have h_3t := c_3
    refine sx_iload_n (pc := 14) dX3_keepField_14 rfl rfl ?_
    refine sx_bipush (pc := 15) (v := 98) dX3_keepField_15 (by decide) ?_
    refine sx_icmp_ne (pc := 17) (tgt := 28) dX3_keepField_17 (by decide) (fun c_17 => ?_) (fun c_17 => ?_)
    · have h_17t := c_17
      refine sx_aload_n (pc := 28) dX3_keepField_28 rfl rfl ?_
      refine sx_iload_n (pc := 29) dX3_keepField_29 rfl rfl ?_
      refine sx_puti (pc := 30) (ci := 3) (j := 4) (ty := .int) dX3_keepField_30 rfl s_Me rfl (by decide) lf_X3_24 rfl (by decide +kernel) rfl rfl (fun μ1 hμ1 => ?_)
      exact sx_vret (pc := 33) dX3_keepField_33 rfl (Nat.zero_le _) (Nat.zero_le _) (⟨rfl, rfl, (Ch.put (Ch.rf) hμ1 (by omega) (LB.off hμ1 ⟨by omega, fun _ _ => by omega⟩))⟩)
    · have h_17f := c_17
      refine sx_aload_n (pc := 20) dX3_keepField_20 rfl rfl ?_
      refine sx_iload_n (pc := 21) dX3_keepField_21 rfl rfl ?_
      refine sx_puti (pc := 22) (ci := 3) (j := 3) (ty := .int) dX3_keepField_22 rfl s_Me rfl (by decide) lf_X3_21 rfl (by decide +kernel) rfl rfl (fun μ2 hμ2 => ?_)
      refine sx_goto (pc := 25) (tgt := 33) dX3_keepField_25 (by decide) ?_
      exact sx_vret (pc := 33) dX3_keepField_33 rfl (Nat.zero_le _) (Nat.zero_le _) (⟨rfl, rfl, (Ch.put (Ch.rf) hμ2 (by omega) (LB.off hμ2 ⟨by omega, fun _ _ => by omega⟩))⟩)
  · have h_3f := c_3
    refine sx_aload_n (pc := 6) dX3_keepField_6 rfl rfl ?_
    refine sx_iload_n (pc := 7) dX3_keepField_7 rfl rfl ?_
    refine sx_puti (pc := 8) (ci := 3) (j := 2) (ty := .int) dX3_keepField_8 rfl s_Me rfl (by decide) lf_X3_18 rfl (by decide +kernel) rfl rfl (fun μ3 hμ3 => ?_)
    refine sx_goto (pc := 11) (tgt := 33) dX3_keepField_11 (by decide) ?_
    exact sx_vret (pc := 33) dX3_keepField_33 rfl (Nat.zero_le _) (Nat.zero_le _) (⟨rfl, rfl, (Ch.put (Ch.rf) hμ3 (by omega) (LB.off hμ3 ⟨by omega, fun _ _ => by omega⟩))⟩)
set_option maxHeartbeats 1000000 in
set_option maxRecDepth 20000 in
theorem c_good (X : xD) (Ex : State → Prop) (hE : xEs X false shA.length Ex) (μ : xM) (a : Int32) : Ct X Ex false yX3_isGoodField kX3_isGoodField (rmN 1) [.ref (X.2 + 94), .int a] shA μ (fun r sh' μ' => shA = sh' ∧ μ = μ' ∧ ∃ x : Int32, r = some (.int x) ∧ (x = 0 ∨ x = 1) ∧ (x ≠ 0 → (a = 97 → 0 ≤ μ 94 2 ∧ μ 94 2 < 30) ∧ (a = 98 → 0 ≤ μ 94 3 ∧ μ 94 3 < 30))) := by
  refine Ct.of (L0 := [some (.ref (X.2 + 94)), some (.int a)]) (by decide) rfl (fun h => by cases h) (by simp [Value.category]) (Nat.le_of_ble_eq_true rfl) rfl (fun l => ?_)
  refine sx_iload_n (pc := 0) dX3_isGoodField_0 rfl rfl ?_
  refine sx_bipush (pc := 1) (v := 97) dX3_isGoodField_1 (by decide) ?_
  refine sx_icmp_ne (pc := 3) (tgt := 16) dX3_isGoodField_3 (by decide) (fun c_3 => ?_) (fun c_3 => ?_)
  · have h_3t := c_3
    refine sx_iload_n (pc := 16) dX3_isGoodField_16 rfl rfl ?_
    refine sx_bipush (pc := 17) (v := 98) dX3_isGoodField_17 (by decide) ?_
    refine sx_icmp_ne (pc := 19) (tgt := 32) dX3_isGoodField_19 (by decide) (fun c_19 => ?_) (fun c_19 => ?_)
    · have h_19t := c_19
      refine sx_aload_n (pc := 32) dX3_isGoodField_32 rfl rfl ?_
      refine sx_geti (pc := 33) (ci := 3) (j := 4) dX3_isGoodField_33 rfl s_Me rfl (by decide) lf_X3_24 ?_
      refine sx_if_lt (pc := 36) (tgt := 52) dX3_isGoodField_36 (by decide) (fun c_36 => ?_) (fun c_36 => ?_)
      · have h_36t := c_36
        refine sx_iconst (pc := 52) (v := 0) dX3_isGoodField_52 (by decide) ?_
        exact sx_iret (pc := 53) dX3_isGoodField_53 rfl rfl (Nat.zero_le _) (Nat.zero_le _) (⟨rfl, rfl, _, rfl, by decide, fun _ => ⟨fun w => absurd w h_3t, fun w => absurd w h_19t⟩⟩)
      · have h_36f := c_36
        refine sx_aload_n (pc := 39) dX3_isGoodField_39 rfl rfl ?_
        refine sx_geti (pc := 40) (ci := 3) (j := 4) dX3_isGoodField_40 rfl s_Me rfl (by decide) lf_X3_24 ?_
        refine sx_ldc (pc := 43) dX3_isGoodField_43 ld_X3_83 ?_
        refine sx_icmp_gt (pc := 45) (tgt := 52) dX3_isGoodField_45 (by decide) (fun c_45 => ?_) (fun c_45 => ?_)
        · have h_45t := c_45
          refine sx_iconst (pc := 52) (v := 0) dX3_isGoodField_52 (by decide) ?_
          exact sx_iret (pc := 53) dX3_isGoodField_53 rfl rfl (Nat.zero_le _) (Nat.zero_le _) (⟨rfl, rfl, _, rfl, by decide, fun _ => ⟨fun w => absurd w h_3t, fun w => absurd w h_19t⟩⟩)
        · have h_45f := c_45
          refine sx_iconst (pc := 48) (v := 1) dX3_isGoodField_48 (by decide) ?_
          refine sx_goto (pc := 49) (tgt := 53) dX3_isGoodField_49 (by decide) ?_
          exact sx_iret (pc := 53) dX3_isGoodField_53 rfl rfl (Nat.zero_le _) (Nat.zero_le _) (⟨rfl, rfl, _, rfl, by decide, fun _ => ⟨fun w => absurd w h_3t, fun w => absurd w h_19t⟩⟩)
    · have h_19f := c_19
      refine sx_aload_n (pc := 22) dX3_isGoodField_22 rfl rfl ?_
      refine sx_geti (pc := 23) (ci := 3) (j := 3) dX3_isGoodField_23 rfl s_Me rfl (by decide) lf_X3_21 ?_
      refine sx_bipush (pc := 26) (v := 30) dX3_isGoodField_26 (by decide) ?_
      refine sx_callSN (host := "ExchangeWire") (pc := 28) (As := [.int (μ 94 3), .int 30]) dX3_isGoodField_28 (c_isBelow X Ex false shA μ _ _) mX5_isBelow (by decide +kernel) rfl ⟨Nat.le_of_ble_eq_true rfl, Nat.le_of_ble_eq_true rfl⟩ ⟨Nat.le_of_ble_eq_true rfl, Nat.le_of_ble_eq_true rfl⟩ (Nat.le_of_ble_eq_true rfl) hE (fun r_28 sh1 μ1 h_28 => ?_)
      obtain ⟨rfl, rfl, x_28, rfl, hx_28⟩ := h_28
      exact sx_iret (pc := 31) dX3_isGoodField_31 rfl (bool_n (isB_b hx_28)) (Nat.zero_le _) (Nat.zero_le _) (⟨rfl, rfl, _, rfl, isB_b hx_28, fun q => ⟨fun w => absurd w h_3t, fun _ => isB_t hx_28 q⟩⟩)
  · have h_3f := c_3
    refine sx_aload_n (pc := 6) dX3_isGoodField_6 rfl rfl ?_
    refine sx_geti (pc := 7) (ci := 3) (j := 2) dX3_isGoodField_7 rfl s_Me rfl (by decide) lf_X3_18 ?_
    refine sx_bipush (pc := 10) (v := 30) dX3_isGoodField_10 (by decide) ?_
    refine sx_callSN (host := "ExchangeWire") (pc := 12) (As := [.int (μ 94 2), .int 30]) dX3_isGoodField_12 (c_isBelow X Ex false shA μ _ _) mX5_isBelow (by decide +kernel) rfl ⟨Nat.le_of_ble_eq_true rfl, Nat.le_of_ble_eq_true rfl⟩ ⟨Nat.le_of_ble_eq_true rfl, Nat.le_of_ble_eq_true rfl⟩ (Nat.le_of_ble_eq_true rfl) hE (fun r_12 sh1 μ2 h_12 => ?_)
    obtain ⟨rfl, rfl, x_12, rfl, hx_12⟩ := h_12
    exact sx_iret (pc := 15) dX3_isGoodField_15 rfl (bool_n (isB_b hx_12)) (Nat.zero_le _) (Nat.zero_le _) (⟨rfl, rfl, _, rfl, isB_b hx_12, fun q => ⟨fun _ => isB_t hx_12 q, fun w => absurd (h_3f.symm.trans w) (by decide)⟩⟩)
set_option maxHeartbeats 1000000 in
set_option maxRecDepth 20000 in
theorem c_changes (X : xD) (Ex : State → Prop) (hE : xEs X false shA.length Ex) (μ : xM)  : Ct X Ex false yX3_changesTheHouse kX3_changesTheHouse (rmN 0) [.ref (X.2 + 94)] shA μ (fun r sh' μ' => shA = sh' ∧ μ = μ' ∧ ∃ x : Int32, r = some (.int x) ∧ (x = 0 ∨ x = 1)) := by
  refine Ct.of (L0 := [some (.ref (X.2 + 94))]) (by decide) rfl (fun h => by cases h) (by simp [Value.category]) (Nat.le_of_ble_eq_true rfl) rfl (fun l => ?_)
  refine sx_aload_n (pc := 0) dX3_changesTheHouse_0 rfl rfl ?_
  refine sx_geti (pc := 1) (ci := 3) (j := 0) dX3_changesTheHouse_1 rfl s_Me rfl (by decide) lf_X3_9 ?_
  refine sx_bipush (pc := 4) (v := 67) dX3_changesTheHouse_4 (by decide) ?_
  refine sx_icmp_eq (pc := 6) (tgt := 45) dX3_changesTheHouse_6 (by decide) (fun c_6 => ?_) (fun c_6 => ?_)
  · have h_6t := c_6
    refine sx_iconst (pc := 45) (v := 1) dX3_changesTheHouse_45 (by decide) ?_
    refine sx_goto (pc := 46) (tgt := 50) dX3_changesTheHouse_46 (by decide) ?_
    exact sx_iret (pc := 50) dX3_changesTheHouse_50 rfl rfl (Nat.zero_le _) (Nat.zero_le _) (⟨rfl, rfl, _, rfl, by decide⟩)
  · have h_6f := c_6
    refine sx_aload_n (pc := 9) dX3_changesTheHouse_9 rfl rfl ?_
    refine sx_geti (pc := 10) (ci := 3) (j := 0) dX3_changesTheHouse_10 rfl s_Me rfl (by decide) lf_X3_9 ?_
    refine sx_bipush (pc := 13) (v := 66) dX3_changesTheHouse_13 (by decide) ?_
    refine sx_icmp_eq (pc := 15) (tgt := 45) dX3_changesTheHouse_15 (by decide) (fun c_15 => ?_) (fun c_15 => ?_)
    · have h_15t := c_15
      refine sx_iconst (pc := 45) (v := 1) dX3_changesTheHouse_45 (by decide) ?_
      refine sx_goto (pc := 46) (tgt := 50) dX3_changesTheHouse_46 (by decide) ?_
      exact sx_iret (pc := 50) dX3_changesTheHouse_50 rfl rfl (Nat.zero_le _) (Nat.zero_le _) (⟨rfl, rfl, _, rfl, by decide⟩)
    · have h_15f := c_15
      refine sx_aload_n (pc := 18) dX3_changesTheHouse_18 rfl rfl ?_
      refine sx_geti (pc := 19) (ci := 3) (j := 0) dX3_changesTheHouse_19 rfl s_Me rfl (by decide) lf_X3_9 ?_
      refine sx_bipush (pc := 22) (v := 70) dX3_changesTheHouse_22 (by decide) ?_
      refine sx_icmp_eq (pc := 24) (tgt := 45) dX3_changesTheHouse_24 (by decide) (fun c_24 => ?_) (fun c_24 => ?_)
      · have h_24t := c_24
        refine sx_iconst (pc := 45) (v := 1) dX3_changesTheHouse_45 (by decide) ?_
        refine sx_goto (pc := 46) (tgt := 50) dX3_changesTheHouse_46 (by decide) ?_
        exact sx_iret (pc := 50) dX3_changesTheHouse_50 rfl rfl (Nat.zero_le _) (Nat.zero_le _) (⟨rfl, rfl, _, rfl, by decide⟩)
      · have h_24f := c_24
        refine sx_aload_n (pc := 27) dX3_changesTheHouse_27 rfl rfl ?_
        refine sx_geti (pc := 28) (ci := 3) (j := 0) dX3_changesTheHouse_28 rfl s_Me rfl (by decide) lf_X3_9 ?_
        refine sx_bipush (pc := 31) (v := 72) dX3_changesTheHouse_31 (by decide) ?_
        refine sx_icmp_eq (pc := 33) (tgt := 45) dX3_changesTheHouse_33 (by decide) (fun c_33 => ?_) (fun c_33 => ?_)
        · have h_33t := c_33
          refine sx_iconst (pc := 45) (v := 1) dX3_changesTheHouse_45 (by decide) ?_
          refine sx_goto (pc := 46) (tgt := 50) dX3_changesTheHouse_46 (by decide) ?_
          exact sx_iret (pc := 50) dX3_changesTheHouse_50 rfl rfl (Nat.zero_le _) (Nat.zero_le _) (⟨rfl, rfl, _, rfl, by decide⟩)
        · have h_33f := c_33
          refine sx_aload_n (pc := 36) dX3_changesTheHouse_36 rfl rfl ?_
          refine sx_geti (pc := 37) (ci := 3) (j := 0) dX3_changesTheHouse_37 rfl s_Me rfl (by decide) lf_X3_9 ?_
          refine sx_bipush (pc := 40) (v := 82) dX3_changesTheHouse_40 (by decide) ?_
          refine sx_icmp_ne (pc := 42) (tgt := 49) dX3_changesTheHouse_42 (by decide) (fun c_42 => ?_) (fun c_42 => ?_)
          · have h_42t := c_42
            refine sx_iconst (pc := 49) (v := 0) dX3_changesTheHouse_49 (by decide) ?_
            exact sx_iret (pc := 50) dX3_changesTheHouse_50 rfl rfl (Nat.zero_le _) (Nat.zero_le _) (⟨rfl, rfl, _, rfl, by decide⟩)
          · have h_42f := c_42
            refine sx_iconst (pc := 45) (v := 1) dX3_changesTheHouse_45 (by decide) ?_
            refine sx_goto (pc := 46) (tgt := 50) dX3_changesTheHouse_46 (by decide) ?_
            exact sx_iret (pc := 50) dX3_changesTheHouse_50 rfl rfl (Nat.zero_le _) (Nat.zero_le _) (⟨rfl, rfl, _, rfl, by decide⟩)
theorem ews_in {a cnt : Int32} (hc : 0 ≤ a ∧ a ≤ cnt ∧ cnt ≤ 60) (h : cnt = a + 3) (t : Nat) (ht : t < 3) : vp_in (if t = 0 then a else a + nI t) 60 := by
  obtain ⟨j, hj, rfl⟩ := nI_of2 (x := a) (M := 60) (n := 60) rfl (Int32.not_lt.mpr hc.1) (Int32.le_trans hc.2.1 hc.2.2)
  have h60 : nI (j + 3) ≤ nI 60 := by
    have h3 := hc.2.2
    rw [h, show (3 : Int32) = nI 3 from rfl, nI_add] at h3
    exact h3
  rw [nI_leI (by omega) (by omega)] at h60
  by_cases h0 : t = 0
  · rw [if_pos h0]
    exact vp_in_nI (by omega) (by decide)
  · rw [if_neg h0, nI_add]
    exact vp_in_nI (by omega) (by decide)
set_option maxHeartbeats 1000000 in
set_option maxRecDepth 20000 in
theorem c_endsWithSum (X : xD) (Ex : State → Prop) (hE : xEs X false shA.length Ex) (μ : xM) (k : Nat) (hs : shA[k]? = some (shI 60)) (cnt a : Int32) (hc : 0 ≤ a ∧ a ≤ cnt ∧ cnt ≤ 60) : Ct X Ex false yX3_endsWithSum kX3_endsWithSum (rmN 1) [.ref (X.2 + k), .int cnt, .int a] shA μ (fun r sh' μ' => shA = sh' ∧ μ = μ' ∧ ∃ x : Int32, r = some (.int x) ∧ (x = 0 ∨ x = 1)) := by
  refine Ct.of (L0 := [some (.ref (X.2 + k)), some (.int cnt), some (.int a), none]) (by decide) rfl (fun h => by cases h) (by simp [Value.category]) (Nat.le_of_ble_eq_true rfl) rfl (fun l => ?_)
  refine sx_iload_n (pc := 0) dX3_endsWithSum_0 rfl rfl ?_
  refine sx_iload_n (pc := 1) dX3_endsWithSum_1 rfl rfl ?_
  refine sx_iconst (pc := 2) (v := 3) dX3_endsWithSum_2 (by decide) ?_
  refine sx_iadd (pc := 3) dX3_endsWithSum_3 ?_
  refine sx_icmp_ne (pc := 4) (tgt := 15) dX3_endsWithSum_4 (by decide) (fun c_4 => ?_) (fun c_4 => ?_)
  · have h_4t := c_4
    refine sx_iconst (pc := 15) (v := 0) dX3_endsWithSum_15 (by decide) ?_
    exact sx_iret (pc := 16) dX3_endsWithSum_16 rfl rfl (Nat.zero_le _) (Nat.zero_le _) (⟨rfl, rfl, _, rfl, by decide⟩)
  · have h_4f := c_4
    refine sx_aload_n (pc := 7) dX3_endsWithSum_7 rfl rfl ?_
    refine sx_iload_n (pc := 8) dX3_endsWithSum_8 rfl rfl ?_
    refine sx_iald (pc := 9) dX3_endsWithSum_9 hs (by decide) rfl (ews_in hc h_4f 0 (by omega)) ?_
    refine sx_bipush (pc := 10) (v := 90) dX3_endsWithSum_10 (by decide) ?_
    refine sx_icmp_eq (pc := 12) (tgt := 17) dX3_endsWithSum_12 (by decide) (fun c_12 => ?_) (fun c_12 => ?_)
    · have h_12t := c_12
      refine sx_aload_n (pc := 17) dX3_endsWithSum_17 rfl rfl ?_
      refine sx_iload_n (pc := 18) dX3_endsWithSum_18 rfl rfl ?_
      refine sx_callSN (host := "ExchangeWire") (pc := 19) (As := [.ref (X.2 + k), .int a]) dX3_endsWithSum_19 (c_sumOf X Ex hE μ k 60 _ hs (by decide)) mX5_sumOf (by decide +kernel) rfl ⟨Nat.le_of_ble_eq_true rfl, Nat.le_of_ble_eq_true rfl⟩ ⟨Nat.le_of_ble_eq_true rfl, Nat.le_of_ble_eq_true rfl⟩ (Nat.le_of_ble_eq_true rfl) hE (fun r_19 sh1 μ1 h_19 => ?_)
      obtain ⟨rfl, rfl, x_19, rfl⟩ := h_19
      refine sx_istore_n (pc := 22) (L' := [some (.ref (X.2 + k)), some (.int cnt), some (.int a), some (.int x_19)]) dX3_endsWithSum_22 rfl (by decide) rfl ?_
      refine sx_aload_n (pc := 23) dX3_endsWithSum_23 rfl rfl ?_
      refine sx_iload_n (pc := 24) dX3_endsWithSum_24 rfl rfl ?_
      refine sx_iconst (pc := 25) (v := 1) dX3_endsWithSum_25 (by decide) ?_
      refine sx_iadd (pc := 26) dX3_endsWithSum_26 ?_
      refine sx_iald (pc := 27) dX3_endsWithSum_27 hs (by decide) rfl (ews_in hc h_4f 1 (by omega)) ?_
      refine sx_iload_n (pc := 28) dX3_endsWithSum_28 rfl rfl ?_
      refine sx_iconst (pc := 29) (v := 4) dX3_endsWithSum_29 (by decide) ?_
      refine sx_ishr (pc := 30) dX3_endsWithSum_30 ?_
      refine sx_callSN (host := "ExchangeWire") (pc := 31) (As := [.int (x_19 >>> (4 &&& 31))]) dX3_endsWithSum_31 (c_hexDigit X Ex false shA μ _) mX5_hexDigit (by decide +kernel) rfl ⟨Nat.le_of_ble_eq_true rfl, Nat.le_of_ble_eq_true rfl⟩ ⟨Nat.le_of_ble_eq_true rfl, Nat.le_of_ble_eq_true rfl⟩ (Nat.le_of_ble_eq_true rfl) hE (fun r_31 sh1 μ2 h_31 => ?_)
      obtain ⟨rfl, rfl, x_31, rfl⟩ := h_31
      refine sx_icmp_ne (pc := 34) (tgt := 53) dX3_endsWithSum_34 (by decide) (fun c_34 => ?_) (fun c_34 => ?_)
      · have h_34t := c_34
        refine sx_iconst (pc := 53) (v := 0) dX3_endsWithSum_53 (by decide) ?_
        exact sx_iret (pc := 54) dX3_endsWithSum_54 rfl rfl (Nat.zero_le _) (Nat.zero_le _) (⟨rfl, rfl, _, rfl, by decide⟩)
      · have h_34f := c_34
        refine sx_aload_n (pc := 37) dX3_endsWithSum_37 rfl rfl ?_
        refine sx_iload_n (pc := 38) dX3_endsWithSum_38 rfl rfl ?_
        refine sx_iconst (pc := 39) (v := 2) dX3_endsWithSum_39 (by decide) ?_
        refine sx_iadd (pc := 40) dX3_endsWithSum_40 ?_
        refine sx_iald (pc := 41) dX3_endsWithSum_41 hs (by decide) rfl (ews_in hc h_4f 2 (by omega)) ?_
        refine sx_iload_n (pc := 42) dX3_endsWithSum_42 rfl rfl ?_
        refine sx_callSN (host := "ExchangeWire") (pc := 43) (As := [.int x_19]) dX3_endsWithSum_43 (c_hexDigit X Ex false shA μ _) mX5_hexDigit (by decide +kernel) rfl ⟨Nat.le_of_ble_eq_true rfl, Nat.le_of_ble_eq_true rfl⟩ ⟨Nat.le_of_ble_eq_true rfl, Nat.le_of_ble_eq_true rfl⟩ (Nat.le_of_ble_eq_true rfl) hE (fun r_43 sh1 μ3 h_43 => ?_)
        obtain ⟨rfl, rfl, x_43, rfl⟩ := h_43
        refine sx_icmp_ne (pc := 46) (tgt := 53) dX3_endsWithSum_46 (by decide) (fun c_46 => ?_) (fun c_46 => ?_)
        · have h_46t := c_46
          refine sx_iconst (pc := 53) (v := 0) dX3_endsWithSum_53 (by decide) ?_
          exact sx_iret (pc := 54) dX3_endsWithSum_54 rfl rfl (Nat.zero_le _) (Nat.zero_le _) (⟨rfl, rfl, _, rfl, by decide⟩)
        · have h_46f := c_46
          refine sx_iconst (pc := 49) (v := 1) dX3_endsWithSum_49 (by decide) ?_
          refine sx_goto (pc := 50) (tgt := 54) dX3_endsWithSum_50 (by decide) ?_
          exact sx_iret (pc := 54) dX3_endsWithSum_54 rfl rfl (Nat.zero_le _) (Nat.zero_le _) (⟨rfl, rfl, _, rfl, by decide⟩)
    · have h_12f := c_12
      refine sx_iconst (pc := 15) (v := 0) dX3_endsWithSum_15 (by decide) ?_
      exact sx_iret (pc := 16) dX3_endsWithSum_16 rfl rfl (Nat.zero_le _) (Nat.zero_le _) (⟨rfl, rfl, _, rfl, by decide⟩)
