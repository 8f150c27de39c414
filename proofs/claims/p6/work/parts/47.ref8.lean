theorem rm_ok {μ m1 m2 m3 m4 m5 m6 m7 : xM} {v : VT} {dev w x : Int32} (hV : Vm μ v) (hb : isD dev) (hw : w = 0) (hx : x = 0) (e1 : m1 = xup μ 96 dev.toNatClampNeg 0) (e2 : m2 = xup m1 98 dev.toNatClampNeg w) (e3 : m3 = xup m2 99 dev.toNatClampNeg x) (e4 : m4 = xup m3 100 dev.toNatClampNeg (-1)) (e5 : m5 = xup m4 102 dev.toNatClampNeg 0) (e6 : m6 = xup m5 104 dev.toNatClampNeg 0) (e7 : m7 = xup m6 101 dev.toNatClampNeg 0) : Kl μ m7 ∧ Vm m7 (oReset dev v) := by
  obtain ⟨hv, hT⟩ := hV
  subst hv
  have k : ∀ a, a ≠ 96 → a ≠ 98 → a ≠ 99 → a ≠ 100 → a ≠ 101 → a ≠ 102 → a ≠ 104 → m7 a = μ a := fun a a1 a2 a3 a4 a5 a6 a7 => by rw [xk e7 a5, xk e6 a7, xk e5 a6, xk e4 a4, xk e3 a3, xk e2 a2, xk e1 a1]
  have k102 : m7 102 = m5 102 := by rw [xk e7 (by decide), xk e6 (by decide)]
  have k104 : m7 104 = m6 104 := by rw [xk e7 (by decide)]
  have j102 : m4 102 = μ 102 := by rw [xk e4 (by decide), xk e3 (by decide), xk e2 (by decide), xk e1 (by decide)]
  have j104 : m5 104 = μ 104 := by rw [xk e5 (by decide), xk e4 (by decide), xk e3 (by decide), xk e2 (by decide), xk e1 (by decide)]
  rw [oReset, if_pos hb]
  refine ⟨fun a ha => k a (by omega) (by omega) (by omega) (by omega) (by omega) (by omega) (by omega), ⟨?_, fun e he => ?_⟩⟩
  · rw [e7, e6, e5, e4, e3, e2, e1, hw, hx]; rfl
  · rw [k102, k104]
    by_cases q : e = dev.toNatClampNeg
    · rw [q, xv e5, xv e6]; exact ⟨⟨0, by omega, rfl⟩, ⟨0, by omega, rfl⟩⟩
    · rw [xo e5 q, xo e6 q, j102, j104]; exact hT e he
theorem fm_ok {μ m1 m2 m3 m4 : xM} {v : VT} {n : Nat} {dev kd it ps : Int32} (hV : Vm μ v) (hD : VD n v) (hall : isD dev ∧ (0 ≤ kd ∧ kd < 2) ∧ (0 ≤ it ∧ it < 30) ∧ (0 ≤ ps ∧ ps < 30)) (h20 : ¬ μ 106 dev.toNatClampNeg = 20) (e1 : m1 = xup μ 107 (20 * dev + μ 106 dev.toNatClampNeg).toNatClampNeg kd) (e2 : m2 = xup m1 108 (20 * dev + μ 106 dev.toNatClampNeg).toNatClampNeg it) (e3 : m3 = xup m2 109 (20 * dev + μ 106 dev.toNatClampNeg).toNatClampNeg ps) (e4 : m4 = xup m3 106 dev.toNatClampNeg (m3 106 dev.toNatClampNeg + 1)) : Kl μ m4 ∧ Vm m4 (oOff dev kd it ps v).1 ∧ m4 106 dev.toNatClampNeg = (oOff dev kd it ps v).2 := by
  have hb := hall.1
  have hd := clamp_lt (n := 6) hb.1 hb.2 (by decide)
  obtain ⟨hv, hT⟩ := hV
  subst hv
  obtain ⟨z, hz1, hze⟩ := nI_of2 (x := μ 106 dev.toNatClampNeg) (M := 20) (n := 20) rfl (Int32.not_lt.mpr (hD.1 _ hd).2.2.2.1) (hD.1 _ hd).2.2.2.2
  have ei : (20 * dev + μ 106 dev.toNatClampNeg).toNatClampNeg = 20 * dev.toNatClampNeg + (μ 106 dev.toNatClampNeg).toNatClampNeg := by rw [hze, nI_clamp (n := z) (by omega)]; exact ix_c hb 20 z (by decide) (by omega)
  rw [ei] at e1 e2 e3
  have k : ∀ a, a ≠ 106 → a ≠ 107 → a ≠ 108 → a ≠ 109 → m4 a = μ a := fun a a1 a2 a3 a4 => by rw [xk e4 a1, xk e3 a4, xk e2 a3, xk e1 a2]
  have i106 : m3 106 = μ 106 := by rw [xk e3 (by decide), xk e2 (by decide), xk e1 (by decide)]
  rw [oOff, if_pos hall, if_neg (show ¬ lR (vw μ) (dev.toNatClampNeg) = 20 from h20)]
  refine ⟨fun a ha => k a (by omega) (by omega) (by omega) (by omega), ⟨?_, hT.same (k 102 (by decide) (by decide) (by decide) (by decide)) (k 104 (by decide) (by decide) (by decide) (by decide))⟩, by rw [xv e4, i106]; rfl⟩
  rw [e4, e3, e2, e1]; rfl
theorem sum_mod {s c : Int32} (h0 : 0 ≤ s) (h1 : s < 256) : (s + (c &&& 255)) - (s + (c &&& 255)) / 256 * 256 = (s + c) &&& 255 := by
  obtain ⟨a, ha, rfl⟩ := nI_of (Int32.not_lt.mpr h0)
  have h2 : a < 256 := by
    rw [show (256 : Int32) = nI 256 from rfl, nI_ltI ha (by decide)] at h1
    exact h1
  have e1 : c &&& 255 = nI (c.toBitVec.toNat % 2 ^ 8) := pk_and c (m := 255) 8 (by decide)
  have e2 : (nI a + c) &&& 255 = nI ((nI a + c).toBitVec.toNat % 2 ^ 8) := pk_and _ (m := 255) 8 (by decide)
  rw [e1, e2, nI_add, show (256 : Int32) = nI 256 from rfl, pk_rem (by omega) (by decide) (by decide)]
  congr 1
  have e3 : (nI a + c).toBitVec.toNat = ((nI a).toBitVec.toNat + c.toBitVec.toNat) % 2 ^ 32 := BitVec.toNat_add _ _
  rw [e3, pk_tn (by omega)]
  omega
set_option maxHeartbeats 1000000 in
set_option maxRecDepth 20000 in
theorem q_reset (X : xD) (Ex : State → Prop) (hE : xEs X false shA.length Ex) (μ : xM) (dev : Int32) {v : VT} {n : Nat} (hn : n + 30 < 2 ^ 20) (hV : Vm μ v) (hD : VD n v) : Ct X Ex false yX6_reset kX6_reset (rmN 2) [.ref (X.2 + 95), .int dev] shA μ (fun r sh' μ' => shA = sh' ∧ Kl μ μ' ∧ Vm μ' (oReset dev v) ∧ ∃ x : Int32, r = some (.int x)) := by
  refine Ct.of (L0 := [some (.ref (X.2 + 95)), some (.int dev), none]) (by decide) rfl (fun h => by cases h) (by simp [Value.category]) (Nat.le_of_ble_eq_true rfl) rfl (fun l => ?_)
  refine sx_aload_n (pc := 0) dX6_reset_0 rfl rfl ?_
  refine sx_iconst (pc := 1) (v := 0) dX6_reset_1 (by decide) ?_
  refine sx_puti (pc := 2) (ci := 6) (j := 0) (ty := .int) dX6_reset_2 rfl s_Mo rfl (by decide) lf_X6_72 rfl (by decide +kernel) rfl rfl (fun μ1 hμ1 => ?_)
  obtain ⟨hV1, hK1⟩ := hV.thr hμ1
  refine sx_iload_n (pc := 5) dX6_reset_5 rfl rfl ?_
  refine sx_callS (pc := 6) (As := [.int dev]) dX6_reset_6 (c_isDevice X Ex hE μ1 _) mX6_isDevice lm_X6_171 rfl ⟨Nat.le_of_ble_eq_true rfl, Nat.le_of_ble_eq_true rfl⟩ ⟨Nat.le_of_ble_eq_true rfl, Nat.le_of_ble_eq_true rfl⟩ (Nat.le_of_ble_eq_true rfl) hE (fun r_6 sh1 μ2 h_6 => ?_)
  obtain ⟨rfl, rfl, x_6, rfl, hx_6⟩ := h_6
  refine sx_if_ne (pc := 9) (tgt := 14) dX6_reset_9 (by decide) (fun c_9 => ?_) (fun c_9 => ?_)
  · have h_9t := c_9
    have hb := isB_t hx_6 h_9t
    have hd := clamp_lt (n := 6) hb.1 hb.2 (by decide)
    refine sx_aload_n (pc := 14) dX6_reset_14 rfl rfl ?_
    refine sx_getr (pc := 15) (ci := 6) (j := 1) (r := 96) dX6_reset_15 rfl s_Mo rfl (by decide) lf_X6_7 ?_
    refine sx_iload_n (pc := 18) dX6_reset_18 rfl rfl ?_
    refine sx_iald (pc := 19) dX6_reset_19 s_M1 (by decide) rfl (vp_in_lt (n := 6) hb.1 hb.2 (by decide)) ?_
    refine sx_istore_n (pc := 20) (L' := [some (.ref (X.2 + 95)), some (.int dev), some (.int (μ1 96 dev.toNatClampNeg))]) dX6_reset_20 rfl (by decide) rfl ?_
    refine sx_aload_n (pc := 21) dX6_reset_21 rfl rfl ?_
    refine sx_getr (pc := 22) (ci := 6) (j := 1) (r := 96) dX6_reset_22 rfl s_Mo rfl (by decide) lf_X6_7 ?_
    refine sx_iload_n (pc := 25) dX6_reset_25 rfl rfl ?_
    refine sx_iconst (pc := 26) (v := 0) dX6_reset_26 (by decide) ?_
    refine sx_iast (pc := 27) dX6_reset_27 s_M1 (by decide) rfl (vp_in_lt (n := 6) hb.1 hb.2 (by decide)) (fun μ3 hμ3 => ?_)
    have e_27 := hμ3
    refine sx_aload_n (pc := 28) dX6_reset_28 rfl rfl ?_
    refine sx_getr (pc := 29) (ci := 6) (j := 3) (r := 98) dX6_reset_29 rfl s_Mo rfl (by decide) lf_X6_17 ?_
    refine sx_iload_n (pc := 32) dX6_reset_32 rfl rfl ?_
    refine sx_iconst (pc := 33) (v := 0) dX6_reset_33 (by decide) ?_
    refine sx_zast (pc := 34) rfl dX6_reset_34 s_M3 (by decide) rfl (vp_in_lt (n := 6) hb.1 hb.2 (by decide)) (fun μ4 hμ4 => ?_)
    have e_34 := hμ4
    refine sx_aload_n (pc := 35) dX6_reset_35 rfl rfl ?_
    refine sx_getr (pc := 36) (ci := 6) (j := 4) (r := 99) dX6_reset_36 rfl s_Mo rfl (by decide) lf_X6_21 ?_
    refine sx_iload_n (pc := 39) dX6_reset_39 rfl rfl ?_
    refine sx_iconst (pc := 40) (v := 0) dX6_reset_40 (by decide) ?_
    refine sx_zast (pc := 41) rfl dX6_reset_41 s_M4 (by decide) rfl (vp_in_lt (n := 6) hb.1 hb.2 (by decide)) (fun μ5 hμ5 => ?_)
    have e_41 := hμ5
    refine sx_aload_n (pc := 42) dX6_reset_42 rfl rfl ?_
    refine sx_getr (pc := 43) (ci := 6) (j := 5) (r := 100) dX6_reset_43 rfl s_Mo rfl (by decide) lf_X6_24 ?_
    refine sx_iload_n (pc := 46) dX6_reset_46 rfl rfl ?_
    refine sx_iconst (pc := 47) (v := (-1)) dX6_reset_47 (by decide) ?_
    refine sx_iast (pc := 48) dX6_reset_48 s_M5 (by decide) rfl (vp_in_lt (n := 6) hb.1 hb.2 (by decide)) (fun μ6 hμ6 => ?_)
    have e_48 := hμ6
    refine sx_aload_n (pc := 49) dX6_reset_49 rfl rfl ?_
    refine sx_getr (pc := 50) (ci := 6) (j := 7) (r := 102) dX6_reset_50 rfl s_Mo rfl (by decide) lf_X6_30 ?_
    refine sx_iload_n (pc := 53) dX6_reset_53 rfl rfl ?_
    refine sx_iconst (pc := 54) (v := 0) dX6_reset_54 (by decide) ?_
    refine sx_iast (pc := 55) dX6_reset_55 s_M7 (by decide) rfl (vp_in_lt (n := 6) hb.1 hb.2 (by decide)) (fun μ7 hμ7 => ?_)
    have e_55 := hμ7
    refine sx_aload_n (pc := 56) dX6_reset_56 rfl rfl ?_
    refine sx_getr (pc := 57) (ci := 6) (j := 9) (r := 104) dX6_reset_57 rfl s_Mo rfl (by decide) lf_X6_36 ?_
    refine sx_iload_n (pc := 60) dX6_reset_60 rfl rfl ?_
    refine sx_iconst (pc := 61) (v := 0) dX6_reset_61 (by decide) ?_
    refine sx_iast (pc := 62) dX6_reset_62 s_M9 (by decide) rfl (vp_in_lt (n := 6) hb.1 hb.2 (by decide)) (fun μ8 hμ8 => ?_)
    have e_62 := hμ8
    refine sx_aload_n (pc := 63) dX6_reset_63 rfl rfl ?_
    refine sx_getr (pc := 64) (ci := 6) (j := 6) (r := 101) dX6_reset_64 rfl s_Mo rfl (by decide) lf_X6_27 ?_
    refine sx_iload_n (pc := 67) dX6_reset_67 rfl rfl ?_
    refine sx_iconst (pc := 68) (v := 0) dX6_reset_68 (by decide) ?_
    refine sx_iast (pc := 69) dX6_reset_69 s_M6 (by decide) rfl (vp_in_lt (n := 6) hb.1 hb.2 (by decide)) (fun μ9 hμ9 => ?_)
    have e_69 := hμ9
    refine sx_iload_n (pc := 70) dX6_reset_70 rfl rfl ?_
    exact sx_iret (pc := 71) dX6_reset_71 rfl rfl (Nat.zero_le _) (Nat.zero_le _) (by obtain ⟨g1, g2⟩ := rm_ok hV1 hb (by decide) (by decide) e_27 e_34 e_41 e_48 e_55 e_62 e_69; exact ⟨rfl, hK1.tr g1, g2, _, rfl⟩)
  · have h_9f := c_9
    refine sx_iconst (pc := 12) (v := (-1)) dX6_reset_12 (by decide) ?_
    exact sx_iret (pc := 13) dX6_reset_13 rfl rfl (Nat.zero_le _) (Nat.zero_le _) (⟨rfl, hK1, by rw [oReset, if_neg (isB_f hx_6 h_9f)]; exact hV1, _, rfl⟩)
set_option maxHeartbeats 1000000 in
set_option maxRecDepth 20000 in
theorem q_offline (X : xD) (Ex : State → Prop) (hE : xEs X false shA.length Ex) (μ : xM) (dev kd it ps : Int32) {v : VT} {n : Nat} (hn : n + 30 < 2 ^ 20) (hV : Vm μ v) (hD : VD n v) : Ct X Ex false yX6_offline kX6_offline (rmN 2) [.ref (X.2 + 95), .int dev, .int kd, .int it, .int ps] shA μ (fun r sh' μ' => shA = sh' ∧ Kl μ μ' ∧ Vm μ' ((oOff dev kd it ps v).1) ∧ r = some (.int ((oOff dev kd it ps v).2))) := by
  refine Ct.of (L0 := [some (.ref (X.2 + 95)), some (.int dev), some (.int kd), some (.int it), some (.int ps), none]) (by decide) rfl (fun h => by cases h) (by simp [Value.category]) (Nat.le_of_ble_eq_true rfl) rfl (fun l => ?_)
  refine sx_aload_n (pc := 0) dX6_offline_0 rfl rfl ?_
  refine sx_iconst (pc := 1) (v := 0) dX6_offline_1 (by decide) ?_
  refine sx_puti (pc := 2) (ci := 6) (j := 0) (ty := .int) dX6_offline_2 rfl s_Mo rfl (by decide) lf_X6_72 rfl (by decide +kernel) rfl rfl (fun μ1 hμ1 => ?_)
  obtain ⟨hV1, hK1⟩ := hV.thr hμ1
  refine sx_iload_n (pc := 5) dX6_offline_5 rfl rfl ?_
  refine sx_callS (pc := 6) (As := [.int dev]) dX6_offline_6 (c_isDevice X Ex hE μ1 _) mX6_isDevice lm_X6_171 rfl ⟨Nat.le_of_ble_eq_true rfl, Nat.le_of_ble_eq_true rfl⟩ ⟨Nat.le_of_ble_eq_true rfl, Nat.le_of_ble_eq_true rfl⟩ (Nat.le_of_ble_eq_true rfl) hE (fun r_6 sh1 μ2 h_6 => ?_)
  obtain ⟨rfl, rfl, x_6, rfl, hx_6⟩ := h_6
  refine sx_if_eq (pc := 9) (tgt := 42) dX6_offline_9 (by decide) (fun c_9 => ?_) (fun c_9 => ?_)
  · have h_9t := c_9
    refine sx_iconst (pc := 42) (v := (-1)) dX6_offline_42 (by decide) ?_
    exact sx_iret (pc := 43) dX6_offline_43 rfl rfl (Nat.zero_le _) (Nat.zero_le _) (⟨rfl, hK1, by rw [oOff, if_neg (by rintro ⟨z1, z2, z3, z4⟩; first | exact isB_f hx_6 h_9t z1 | exact isB_f hx_15 h_18t z2 | exact isB_f hx_25 h_28t z3 | exact isB_f hx_36 h_39f z4)]; exact hV1, by rw [oOff, if_neg (by rintro ⟨z1, z2, z3, z4⟩; first | exact isB_f hx_6 h_9t z1 | exact isB_f hx_15 h_18t z2 | exact isB_f hx_25 h_28t z3 | exact isB_f hx_36 h_39f z4)]⟩)
  · have h_9f := c_9
    refine sx_iload_n (pc := 12) dX6_offline_12 rfl rfl ?_
    refine sx_iconst (pc := 13) (v := 0) dX6_offline_13 (by decide) ?_
    refine sx_iconst (pc := 14) (v := 1) dX6_offline_14 (by decide) ?_
    refine sx_callS (pc := 15) (As := [.int kd, .int 0, .int 1]) dX6_offline_15 (c_in X Ex false shA μ1 _ 0 1) mX6_in lm_X6_76 rfl ⟨Nat.le_of_ble_eq_true rfl, Nat.le_of_ble_eq_true rfl⟩ ⟨Nat.le_of_ble_eq_true rfl, Nat.le_of_ble_eq_true rfl⟩ (Nat.le_of_ble_eq_true rfl) hE (fun r_15 sh1 μ3 h_15 => ?_)
    obtain ⟨rfl, rfl, x_15, rfl, zx_15⟩ := h_15
    have hx_15 := inB 1 (by decide) zx_15
    refine sx_if_eq (pc := 18) (tgt := 42) dX6_offline_18 (by decide) (fun c_18 => ?_) (fun c_18 => ?_)
    · have h_18t := c_18
      refine sx_iconst (pc := 42) (v := (-1)) dX6_offline_42 (by decide) ?_
      exact sx_iret (pc := 43) dX6_offline_43 rfl rfl (Nat.zero_le _) (Nat.zero_le _) (⟨rfl, hK1, by rw [oOff, if_neg (by rintro ⟨z1, z2, z3, z4⟩; first | exact isB_f hx_6 h_9t z1 | exact isB_f hx_15 h_18t z2 | exact isB_f hx_25 h_28t z3 | exact isB_f hx_36 h_39f z4)]; exact hV1, by rw [oOff, if_neg (by rintro ⟨z1, z2, z3, z4⟩; first | exact isB_f hx_6 h_9t z1 | exact isB_f hx_15 h_18t z2 | exact isB_f hx_25 h_28t z3 | exact isB_f hx_36 h_39f z4)]⟩)
    · have h_18f := c_18
      refine sx_iload_n (pc := 21) dX6_offline_21 rfl rfl ?_
      refine sx_iconst (pc := 22) (v := 0) dX6_offline_22 (by decide) ?_
      refine sx_bipush (pc := 23) (v := 29) dX6_offline_23 (by decide) ?_
      refine sx_callS (pc := 25) (As := [.int it, .int 0, .int 29]) dX6_offline_25 (c_in X Ex false shA μ1 _ 0 29) mX6_in lm_X6_76 rfl ⟨Nat.le_of_ble_eq_true rfl, Nat.le_of_ble_eq_true rfl⟩ ⟨Nat.le_of_ble_eq_true rfl, Nat.le_of_ble_eq_true rfl⟩ (Nat.le_of_ble_eq_true rfl) hE (fun r_25 sh1 μ4 h_25 => ?_)
      obtain ⟨rfl, rfl, x_25, rfl, zx_25⟩ := h_25
      have hx_25 := inB 29 (by decide) zx_25
      refine sx_if_eq (pc := 28) (tgt := 42) dX6_offline_28 (by decide) (fun c_28 => ?_) (fun c_28 => ?_)
      · have h_28t := c_28
        refine sx_iconst (pc := 42) (v := (-1)) dX6_offline_42 (by decide) ?_
        exact sx_iret (pc := 43) dX6_offline_43 rfl rfl (Nat.zero_le _) (Nat.zero_le _) (⟨rfl, hK1, by rw [oOff, if_neg (by rintro ⟨z1, z2, z3, z4⟩; first | exact isB_f hx_6 h_9t z1 | exact isB_f hx_15 h_18t z2 | exact isB_f hx_25 h_28t z3 | exact isB_f hx_36 h_39f z4)]; exact hV1, by rw [oOff, if_neg (by rintro ⟨z1, z2, z3, z4⟩; first | exact isB_f hx_6 h_9t z1 | exact isB_f hx_15 h_18t z2 | exact isB_f hx_25 h_28t z3 | exact isB_f hx_36 h_39f z4)]⟩)
      · have h_28f := c_28
        refine sx_iload (pc := 31) dX6_offline_31 rfl ?_
        refine sx_iconst (pc := 33) (v := 0) dX6_offline_33 (by decide) ?_
        refine sx_bipush (pc := 34) (v := 29) dX6_offline_34 (by decide) ?_
        refine sx_callS (pc := 36) (As := [.int ps, .int 0, .int 29]) dX6_offline_36 (c_in X Ex false shA μ1 _ 0 29) mX6_in lm_X6_76 rfl ⟨Nat.le_of_ble_eq_true rfl, Nat.le_of_ble_eq_true rfl⟩ ⟨Nat.le_of_ble_eq_true rfl, Nat.le_of_ble_eq_true rfl⟩ (Nat.le_of_ble_eq_true rfl) hE (fun r_36 sh1 μ5 h_36 => ?_)
        obtain ⟨rfl, rfl, x_36, rfl, zx_36⟩ := h_36
        have hx_36 := inB 29 (by decide) zx_36
        refine sx_if_ne (pc := 39) (tgt := 44) dX6_offline_39 (by decide) (fun c_39 => ?_) (fun c_39 => ?_)
        · have h_39t := c_39
          have hb := isB_t hx_6 h_9f
          have hd := clamp_lt (n := 6) hb.1 hb.2 (by decide)
          have h106 : μ1 106 dev.toNatClampNeg = lR v dev.toNatClampNeg := congrArg (fun y : VT => lR y dev.toNatClampNeg) hV1.1
          refine sx_aload_n (pc := 44) dX6_offline_44 rfl rfl ?_
          refine sx_getr (pc := 45) (ci := 6) (j := 11) (r := 106) dX6_offline_45 rfl s_Mo rfl (by decide) lf_X6_42 ?_
          refine sx_iload_n (pc := 48) dX6_offline_48 rfl rfl ?_
          refine sx_iald (pc := 49) dX6_offline_49 s_M11 (by decide) rfl (vp_in_lt (n := 6) hb.1 hb.2 (by decide)) ?_
          refine sx_bipush (pc := 50) (v := 20) dX6_offline_50 (by decide) ?_
          refine sx_icmp_ne (pc := 52) (tgt := 58) dX6_offline_52 (by decide) (fun c_52 => ?_) (fun c_52 => ?_)
          · have h_52t := c_52
            refine sx_bipush (pc := 58) (v := 20) dX6_offline_58 (by decide) ?_
            refine sx_iload_n (pc := 60) dX6_offline_60 rfl rfl ?_
            refine sx_imul (pc := 61) dX6_offline_61 ?_
            refine sx_aload_n (pc := 62) dX6_offline_62 rfl rfl ?_
            refine sx_getr (pc := 63) (ci := 6) (j := 11) (r := 106) dX6_offline_63 rfl s_Mo rfl (by decide) lf_X6_42 ?_
            refine sx_iload_n (pc := 66) dX6_offline_66 rfl rfl ?_
            refine sx_iald (pc := 67) dX6_offline_67 s_M11 (by decide) rfl (vp_in_lt (n := 6) hb.1 hb.2 (by decide)) ?_
            refine sx_iadd (pc := 68) dX6_offline_68 ?_
            refine sx_istore (pc := 69) (L' := [some (.ref (X.2 + 95)), some (.int dev), some (.int kd), some (.int it), some (.int ps), some (.int ((20 * dev) + (μ1 106 dev.toNatClampNeg)))]) dX6_offline_69 (by decide) rfl ?_
            refine sx_aload_n (pc := 71) dX6_offline_71 rfl rfl ?_
            refine sx_getr (pc := 72) (ci := 6) (j := 12) (r := 107) dX6_offline_72 rfl s_Mo rfl (by decide) lf_X6_45 ?_
            refine sx_iload (pc := 75) dX6_offline_75 rfl ?_
            refine sx_iload_n (pc := 77) dX6_offline_77 rfl rfl ?_
            refine sx_iast (pc := 78) dX6_offline_78 s_M12 (by decide) rfl (by have h7 := hD.1 _ hd; obtain ⟨q, hq, e⟩ := nI_of2 (x := μ1 106 dev.toNatClampNeg) (M := 20) (n := 20) rfl (by rw [h106]; exact Int32.not_lt.mpr h7.2.2.2.1) (by rw [h106]; exact h7.2.2.2.2); have h20 := h_52t; rw [e] at h20 ⊢; have : q < 20 := Nat.lt_of_not_le (fun z => h20 (by rw [show q = 20 by omega]; rfl)); exact ix_mul hb 20 q 120 (fun k hk => by omega) (by decide) (by decide)) (fun μ6 hμ6 => ?_)
            have e_78 := hμ6
            refine sx_aload_n (pc := 79) dX6_offline_79 rfl rfl ?_
            refine sx_getr (pc := 80) (ci := 6) (j := 13) (r := 108) dX6_offline_80 rfl s_Mo rfl (by decide) lf_X6_48 ?_
            refine sx_iload (pc := 83) dX6_offline_83 rfl ?_
            refine sx_iload_n (pc := 85) dX6_offline_85 rfl rfl ?_
            refine sx_iast (pc := 86) dX6_offline_86 s_M13 (by decide) rfl (by have h7 := hD.1 _ hd; obtain ⟨q, hq, e⟩ := nI_of2 (x := μ1 106 dev.toNatClampNeg) (M := 20) (n := 20) rfl (by rw [h106]; exact Int32.not_lt.mpr h7.2.2.2.1) (by rw [h106]; exact h7.2.2.2.2); have h20 := h_52t; rw [e] at h20 ⊢; have : q < 20 := Nat.lt_of_not_le (fun z => h20 (by rw [show q = 20 by omega]; rfl)); exact ix_mul hb 20 q 120 (fun k hk => by omega) (by decide) (by decide)) (fun μ7 hμ7 => ?_)
            have e_86 := hμ7
            refine sx_aload_n (pc := 87) dX6_offline_87 rfl rfl ?_
            refine sx_getr (pc := 88) (ci := 6) (j := 14) (r := 109) dX6_offline_88 rfl s_Mo rfl (by decide) lf_X6_51 ?_
            refine sx_iload (pc := 91) dX6_offline_91 rfl ?_
            refine sx_iload (pc := 93) dX6_offline_93 rfl ?_
            refine sx_iast (pc := 95) dX6_offline_95 s_M14 (by decide) rfl (by have h7 := hD.1 _ hd; obtain ⟨q, hq, e⟩ := nI_of2 (x := μ1 106 dev.toNatClampNeg) (M := 20) (n := 20) rfl (by rw [h106]; exact Int32.not_lt.mpr h7.2.2.2.1) (by rw [h106]; exact h7.2.2.2.2); have h20 := h_52t; rw [e] at h20 ⊢; have : q < 20 := Nat.lt_of_not_le (fun z => h20 (by rw [show q = 20 by omega]; rfl)); exact ix_mul hb 20 q 120 (fun k hk => by omega) (by decide) (by decide)) (fun μ8 hμ8 => ?_)
            have e_95 := hμ8
            refine sx_aload_n (pc := 96) dX6_offline_96 rfl rfl ?_
            refine sx_getr (pc := 97) (ci := 6) (j := 11) (r := 106) dX6_offline_97 rfl s_Mo rfl (by decide) lf_X6_42 ?_
            refine sx_iload_n (pc := 100) dX6_offline_100 rfl rfl ?_
            refine sx_dup2 (pc := 101) dX6_offline_101 rfl rfl ?_
            refine sx_iald (pc := 102) dX6_offline_102 s_M11 (by decide) rfl (vp_in_lt (n := 6) hb.1 hb.2 (by decide)) ?_
            refine sx_iconst (pc := 103) (v := 1) dX6_offline_103 (by decide) ?_
            refine sx_iadd (pc := 104) dX6_offline_104 ?_
            refine sx_iast (pc := 105) dX6_offline_105 s_M11 (by decide) rfl (vp_in_lt (n := 6) hb.1 hb.2 (by decide)) (fun μ9 hμ9 => ?_)
            have e_105 := hμ9
            refine sx_aload_n (pc := 106) dX6_offline_106 rfl rfl ?_
            refine sx_getr (pc := 107) (ci := 6) (j := 11) (r := 106) dX6_offline_107 rfl s_Mo rfl (by decide) lf_X6_42 ?_
            refine sx_iload_n (pc := 110) dX6_offline_110 rfl rfl ?_
            refine sx_iald (pc := 111) dX6_offline_111 s_M11 (by decide) rfl (vp_in_lt (n := 6) hb.1 hb.2 (by decide)) ?_
            exact sx_iret (pc := 112) dX6_offline_112 rfl rfl (Nat.zero_le _) (Nat.zero_le _) (by obtain ⟨g1, g2, g3⟩ := fm_ok hV1 hD ⟨isB_t hx_6 h_9f, isB_t hx_15 h_18f, isB_t hx_25 h_28f, isB_t hx_36 h_39t⟩ h_52t e_78 e_86 e_95 e_105; exact ⟨rfl, hK1.tr g1, g2, by rw [g3]⟩)
          · have h_52f := c_52
            refine sx_bipush (pc := 55) (v := (-2)) dX6_offline_55 (by decide) ?_
            exact sx_iret (pc := 57) dX6_offline_57 rfl rfl (Nat.zero_le _) (Nat.zero_le _) (by have h6 := h106.symm.trans h_52f; exact ⟨rfl, hK1, by rw [oOff, if_pos ⟨isB_t hx_6 h_9f, isB_t hx_15 h_18f, isB_t hx_25 h_28f, isB_t hx_36 h_39t⟩, if_pos h6]; exact hV1, by rw [oOff, if_pos ⟨isB_t hx_6 h_9f, isB_t hx_15 h_18f, isB_t hx_25 h_28f, isB_t hx_36 h_39t⟩, if_pos h6]⟩)
        · have h_39f := c_39
          refine sx_iconst (pc := 42) (v := (-1)) dX6_offline_42 (by decide) ?_
          exact sx_iret (pc := 43) dX6_offline_43 rfl rfl (Nat.zero_le _) (Nat.zero_le _) (⟨rfl, hK1, by rw [oOff, if_neg (by rintro ⟨z1, z2, z3, z4⟩; first | exact isB_f hx_6 h_9t z1 | exact isB_f hx_15 h_18t z2 | exact isB_f hx_25 h_28t z3 | exact isB_f hx_36 h_39f z4)]; exact hV1, by rw [oOff, if_neg (by rintro ⟨z1, z2, z3, z4⟩; first | exact isB_f hx_6 h_9t z1 | exact isB_f hx_15 h_18t z2 | exact isB_f hx_25 h_28t z3 | exact isB_f hx_36 h_39f z4)]⟩)
set_option maxHeartbeats 1000000 in
set_option maxRecDepth 20000 in
theorem q_owes (X : xD) (Ex : State → Prop) (hE : xEs X false shA.length Ex) (μ : xM) (pr c : Int32) {v : VT} {n : Nat} (hn : n + 30 < 2 ^ 20) (hV : Vm μ v) (hD : VD n v) : Ct X Ex false yX6_owes kX6_owes (rmN 1) [.ref (X.2 + 95), .int pr, .int c] shA μ (fun r sh' μ' => shA = sh' ∧ Kl μ μ' ∧ Vm μ' ((oOwes pr c v).1) ∧ r = some (.int ((oOwes pr c v).2))) := by
  refine Ct.of (L0 := [some (.ref (X.2 + 95)), some (.int pr), some (.int c), none]) (by decide) rfl (fun h => by cases h) (by simp [Value.category]) (Nat.le_of_ble_eq_true rfl) rfl (fun l => ?_)
  refine sx_aload_n (pc := 0) dX6_owes_0 rfl rfl ?_
  refine sx_iconst (pc := 1) (v := 0) dX6_owes_1 (by decide) ?_
  refine sx_puti (pc := 2) (ci := 6) (j := 0) (ty := .int) dX6_owes_2 rfl s_Mo rfl (by decide) lf_X6_72 rfl (by decide +kernel) rfl rfl (fun μ1 hμ1 => ?_)
  obtain ⟨hV1, hK1⟩ := hV.thr hμ1
  refine sx_iload_n (pc := 5) dX6_owes_5 rfl rfl ?_
  refine sx_iconst (pc := 6) (v := 0) dX6_owes_6 (by decide) ?_
  refine sx_bipush (pc := 7) (v := 29) dX6_owes_7 (by decide) ?_
  refine sx_callS (pc := 9) (As := [.int pr, .int 0, .int 29]) dX6_owes_9 (c_in X Ex false shA μ1 _ 0 29) mX6_in lm_X6_76 rfl ⟨Nat.le_of_ble_eq_true rfl, Nat.le_of_ble_eq_true rfl⟩ ⟨Nat.le_of_ble_eq_true rfl, Nat.le_of_ble_eq_true rfl⟩ (Nat.le_of_ble_eq_true rfl) hE (fun r_9 sh1 μ2 h_9 => ?_)
  obtain ⟨rfl, rfl, x_9, rfl, zx_9⟩ := h_9
  have hx_9 := inB 29 (by decide) zx_9
  refine sx_if_eq (pc := 12) (tgt := 25) dX6_owes_12 (by decide) (fun c_12 => ?_) (fun c_12 => ?_)
  · have h_12t := c_12
    refine sx_iconst (pc := 25) (v := (-1)) dX6_owes_25 (by decide) ?_
    exact sx_iret (pc := 26) dX6_owes_26 rfl rfl (Nat.zero_le _) (Nat.zero_le _) (⟨rfl, hK1, by rw [oOwes, if_neg (by rintro ⟨z1, z2⟩; first | exact isB_f hx_9 h_12t z1 | exact dq_f hx_19 h_22f z2)]; exact hV1, by rw [oOwes, if_neg (by rintro ⟨z1, z2⟩; first | exact isB_f hx_9 h_12t z1 | exact dq_f hx_19 h_22f z2)]⟩)
  · have h_12f := c_12
    refine sx_iload_n (pc := 15) dX6_owes_15 rfl rfl ?_
    refine sx_iconst (pc := 16) (v := 0) dX6_owes_16 (by decide) ?_
    refine sx_ldc (pc := 17) dX6_owes_17 ld_X6_176 ?_
    refine sx_callS (pc := 19) (As := [.int c, .int 0, .int 100000]) dX6_owes_19 (c_in X Ex false shA μ1 _ _ _) mX6_in lm_X6_76 rfl ⟨Nat.le_of_ble_eq_true rfl, Nat.le_of_ble_eq_true rfl⟩ ⟨Nat.le_of_ble_eq_true rfl, Nat.le_of_ble_eq_true rfl⟩ (Nat.le_of_ble_eq_true rfl) hE (fun r_19 sh1 μ3 h_19 => ?_)
    obtain ⟨rfl, rfl, x_19, rfl, hx_19⟩ := h_19
    refine sx_if_ne (pc := 22) (tgt := 27) dX6_owes_22 (by decide) (fun c_22 => ?_) (fun c_22 => ?_)
    · have h_22t := c_22
      refine sx_aload_n (pc := 27) dX6_owes_27 rfl rfl ?_
      refine sx_getr (pc := 28) (ci := 6) (j := 15) (r := 110) dX6_owes_28 rfl s_Mo rfl (by decide) lf_X6_54 ?_
      refine sx_iload_n (pc := 31) dX6_owes_31 rfl rfl ?_
      refine sx_iald (pc := 32) dX6_owes_32 s_M15 (by decide) rfl (vp_in_lt (n := 30) (isB_t hx_9 h_12f).1 (isB_t hx_9 h_12f).2 (by decide)) ?_
      refine sx_istore_n (pc := 33) (L' := [some (.ref (X.2 + 95)), some (.int pr), some (.int c), some (.int (μ1 110 pr.toNatClampNeg))]) dX6_owes_33 rfl (by decide) rfl ?_
      refine sx_aload_n (pc := 34) dX6_owes_34 rfl rfl ?_
      refine sx_getr (pc := 35) (ci := 6) (j := 15) (r := 110) dX6_owes_35 rfl s_Mo rfl (by decide) lf_X6_54 ?_
      refine sx_iload_n (pc := 38) dX6_owes_38 rfl rfl ?_
      refine sx_iload_n (pc := 39) dX6_owes_39 rfl rfl ?_
      refine sx_iast (pc := 40) dX6_owes_40 s_M15 (by decide) rfl (vp_in_lt (n := 30) (isB_t hx_9 h_12f).1 (isB_t hx_9 h_12f).2 (by decide)) (fun μ4 hμ4 => ?_)
      have e_40 := hμ4
      refine sx_iload_n (pc := 41) dX6_owes_41 rfl rfl ?_
      exact sx_iret (pc := 42) dX6_owes_42 rfl rfl (Nat.zero_le _) (Nat.zero_le _) (by obtain ⟨hv, hT⟩ := hV1; subst hv; rw [oOwes, if_pos ⟨isB_t hx_9 h_12f, dq_t hx_19 h_22t⟩]; exact ⟨rfl, hK1.tr (fun a ha => xk e_40 (by omega)), ⟨by rw [e_40]; rfl, hT.same (xk e_40 (by decide)) (xk e_40 (by decide))⟩, rfl⟩)
    · have h_22f := c_22
      refine sx_iconst (pc := 25) (v := (-1)) dX6_owes_25 (by decide) ?_
      exact sx_iret (pc := 26) dX6_owes_26 rfl rfl (Nat.zero_le _) (Nat.zero_le _) (⟨rfl, hK1, by rw [oOwes, if_neg (by rintro ⟨z1, z2⟩; first | exact isB_f hx_9 h_12t z1 | exact dq_f hx_19 h_22f z2)]; exact hV1, by rw [oOwes, if_neg (by rintro ⟨z1, z2⟩; first | exact isB_f hx_9 h_12t z1 | exact dq_f hx_19 h_22f z2)]⟩)
set_option maxHeartbeats 1000000 in
set_option maxRecDepth 20000 in
theorem q_acts (X : xD) (Ex : State → Prop) (hE : xEs X false shA.length Ex) (μ : xM) {v : VT} {n : Nat} (hn : n + 30 < 2 ^ 20) (hV : Vm μ v) (hD : VD n v) : Ct X Ex false yX6_acts kX6_acts (rmN 0) [.ref (X.2 + 95)] shA μ (fun r sh' μ' => shA = sh' ∧ Kl μ μ' ∧ Vm μ' (v) ∧ r = some (.int (oActs v))) := by
  refine Ct.of (L0 := [some (.ref (X.2 + 95))]) (by decide) rfl (fun h => by cases h) (by simp [Value.category]) (Nat.le_of_ble_eq_true rfl) rfl (fun l => ?_)
  refine sx_aload_n (pc := 0) dX6_acts_0 rfl rfl ?_
  refine sx_iconst (pc := 1) (v := 0) dX6_acts_1 (by decide) ?_
  refine sx_puti (pc := 2) (ci := 6) (j := 0) (ty := .int) dX6_acts_2 rfl s_Mo rfl (by decide) lf_X6_72 rfl (by decide +kernel) rfl rfl (fun μ1 hμ1 => ?_)
  obtain ⟨hV1, hK1⟩ := hV.thr hμ1
  refine sx_aload_n (pc := 5) dX6_acts_5 rfl rfl ?_
  refine sx_geti (pc := 6) (ci := 6) (j := 20) dX6_acts_6 rfl s_Mo rfl (by decide) lf_X6_152 ?_
  exact sx_iret (pc := 9) dX6_acts_9 rfl rfl (Nat.zero_le _) (Nat.zero_le _) (⟨rfl, hK1, hV1, by rw [← hV1.1]; rfl⟩)
theorem aix {i w : Int32} {c : Int32} (h : 0 ≤ i ∧ i ≤ c) (h1 : ¬ 1000 ≤ i) (hw : 0 ≤ w ∧ w ≤ 4) : vp_in (5 * i + w) 5000 := by
  obtain ⟨a, ha, rfl⟩ := nI_of (Int32.not_lt.mpr h.1)
  obtain ⟨b, hb, e⟩ := nI_of2 (x := w) (M := 4) (n := 4) rfl (Int32.not_lt.mpr hw.1) hw.2
  rw [show (1000 : Int32) = nI 1000 from rfl, nI_leI (by decide) ha] at h1
  rw [e, show (5 : Int32) = nI 5 from rfl, pk_mul, nI_add]
  exact vp_in_nI (by omega) (by decide)
theorem le_pred {i c : Int32} {k : Nat} (hk : k < 2 ^ 20) (hc : c = nI k) (h0 : 0 ≤ i) : i ≤ c - 1 ↔ i < c := by
  obtain ⟨j, hj, rfl⟩ := nI_of (Int32.not_lt.mpr h0)
  rw [hc, nI_ltI hj (by omega)]
  rcases Nat.eq_zero_or_pos k with z | z
  · subst z
    refine ⟨fun q => ?_, fun q => absurd q (Nat.not_lt_zero _)⟩
    rw [Int32.le_iff_toInt_le, nI_toInt hj, show (nI 0 - 1 : Int32).toInt = -1 by decide] at q
    omega
  · rw [show (1 : Int32) = nI 1 from rfl, pk_sub z, nI_leI hj (by omega)]
    omega
set_option maxHeartbeats 1000000 in
set_option maxRecDepth 20000 in
theorem q_act (X : xD) (Ex : State → Prop) (hE : xEs X false shA.length Ex) (μ : xM) (i w : Int32) {v : VT} {n : Nat} (hn : n + 30 < 2 ^ 20) (hV : Vm μ v) (hD : VD n v) : Ct X Ex false yX6_act kX6_act (rmN 1) [.ref (X.2 + 95), .int i, .int w] shA μ (fun r sh' μ' => shA = sh' ∧ Kl μ μ' ∧ Vm μ' (v) ∧ r = some (.int (oAct i w v))) := by
  refine Ct.of (L0 := [some (.ref (X.2 + 95)), some (.int i), some (.int w)]) (by decide) rfl (fun h => by cases h) (by simp [Value.category]) (Nat.le_of_ble_eq_true rfl) rfl (fun l => ?_)
  refine sx_aload_n (pc := 0) dX6_act_0 rfl rfl ?_
  refine sx_iconst (pc := 1) (v := 0) dX6_act_1 (by decide) ?_
  refine sx_puti (pc := 2) (ci := 6) (j := 0) (ty := .int) dX6_act_2 rfl s_Mo rfl (by decide) lf_X6_72 rfl (by decide +kernel) rfl rfl (fun μ1 hμ1 => ?_)
  obtain ⟨hV1, hK1⟩ := hV.thr hμ1
  refine sx_iload_n (pc := 5) dX6_act_5 rfl rfl ?_
  refine sx_iconst (pc := 6) (v := 0) dX6_act_6 (by decide) ?_
  refine sx_aload_n (pc := 7) dX6_act_7 rfl rfl ?_
  refine sx_geti (pc := 8) (ci := 6) (j := 20) dX6_act_8 rfl s_Mo rfl (by decide) lf_X6_152 ?_
  refine sx_iconst (pc := 11) (v := 1) dX6_act_11 (by decide) ?_
  refine sx_isub (pc := 12) dX6_act_12 ?_
  refine sx_callS (pc := 13) (As := [.int i, .int 0, .int ((μ1 95 20) - 1)]) dX6_act_13 (c_in X Ex false shA μ1 _ _ _) mX6_in lm_X6_76 rfl ⟨Nat.le_of_ble_eq_true rfl, Nat.le_of_ble_eq_true rfl⟩ ⟨Nat.le_of_ble_eq_true rfl, Nat.le_of_ble_eq_true rfl⟩ (Nat.le_of_ble_eq_true rfl) hE (fun r_13 sh1 μ2 h_13 => ?_)
  obtain ⟨rfl, rfl, x_13, rfl, hx_13⟩ := h_13
  refine sx_if_eq (pc := 16) (tgt := 48) dX6_act_16 (by decide) (fun c_16 => ?_) (fun c_16 => ?_)
  · have h_16t := c_16
    refine sx_iconst (pc := 48) (v := (-1)) dX6_act_48 (by decide) ?_
    exact sx_iret (pc := 49) dX6_act_49 rfl rfl (Nat.zero_le _) (Nat.zero_le _) (by first | exact (by obtain ⟨hv, hT⟩ := hV1; subst hv; obtain ⟨k9, hk9, ek9⟩ := hD.2.2.2.2; rw [oAct, if_pos ⟨⟨⟨(dq_t hx_13 h_16f).1, (le_pred (k := k9) (by omega) ek9 (dq_t hx_13 h_16f).1).mp (dq_t hx_13 h_16f).2⟩, Int32.not_le.mp h_23f⟩, (dq_t hx_29 h_32f).1, (lt_of_le _ 4 (by decide)).mp (dq_t hx_29 h_32f).2⟩]; exact ⟨rfl, hK1, ⟨rfl, hT⟩, rfl⟩) | exact (by obtain ⟨hv, hT⟩ := hV1; subst hv; obtain ⟨k9, hk9, ek9⟩ := hD.2.2.2.2; rw [oAct, if_neg (fun q => by first | exact dq_f hx_13 h_16t ⟨q.1.1.1, (le_pred (k := k9) (by omega) ek9 q.1.1.1).mpr q.1.1.2⟩ | exact absurd h_23t (Int32.not_le.mpr q.1.2) | exact dq_f hx_29 h_32t ⟨q.2.1, (lt_of_le _ 4 (by decide)).mpr q.2.2⟩)]; exact ⟨rfl, hK1, ⟨rfl, hT⟩, rfl⟩))
  · have h_16f := c_16
    refine sx_iload_n (pc := 19) dX6_act_19 rfl rfl ?_
    refine sx_sipush (pc := 20) (v := 1000) dX6_act_20 (by decide) ?_
    refine sx_icmp_ge (pc := 23) (tgt := 48) dX6_act_23 (by decide) (fun c_23 => ?_) (fun c_23 => ?_)
    · have h_23t := c_23
      refine sx_iconst (pc := 48) (v := (-1)) dX6_act_48 (by decide) ?_
      exact sx_iret (pc := 49) dX6_act_49 rfl rfl (Nat.zero_le _) (Nat.zero_le _) (by first | exact (by obtain ⟨hv, hT⟩ := hV1; subst hv; obtain ⟨k9, hk9, ek9⟩ := hD.2.2.2.2; rw [oAct, if_pos ⟨⟨⟨(dq_t hx_13 h_16f).1, (le_pred (k := k9) (by omega) ek9 (dq_t hx_13 h_16f).1).mp (dq_t hx_13 h_16f).2⟩, Int32.not_le.mp h_23f⟩, (dq_t hx_29 h_32f).1, (lt_of_le _ 4 (by decide)).mp (dq_t hx_29 h_32f).2⟩]; exact ⟨rfl, hK1, ⟨rfl, hT⟩, rfl⟩) | exact (by obtain ⟨hv, hT⟩ := hV1; subst hv; obtain ⟨k9, hk9, ek9⟩ := hD.2.2.2.2; rw [oAct, if_neg (fun q => by first | exact dq_f hx_13 h_16t ⟨q.1.1.1, (le_pred (k := k9) (by omega) ek9 q.1.1.1).mpr q.1.1.2⟩ | exact absurd h_23t (Int32.not_le.mpr q.1.2) | exact dq_f hx_29 h_32t ⟨q.2.1, (lt_of_le _ 4 (by decide)).mpr q.2.2⟩)]; exact ⟨rfl, hK1, ⟨rfl, hT⟩, rfl⟩))
    · have h_23f := c_23
      refine sx_iload_n (pc := 26) dX6_act_26 rfl rfl ?_
      refine sx_iconst (pc := 27) (v := 0) dX6_act_27 (by decide) ?_
      refine sx_iconst (pc := 28) (v := 4) dX6_act_28 (by decide) ?_
      refine sx_callS (pc := 29) (As := [.int w, .int 0, .int 4]) dX6_act_29 (c_in X Ex false shA μ1 _ _ _) mX6_in lm_X6_76 rfl ⟨Nat.le_of_ble_eq_true rfl, Nat.le_of_ble_eq_true rfl⟩ ⟨Nat.le_of_ble_eq_true rfl, Nat.le_of_ble_eq_true rfl⟩ (Nat.le_of_ble_eq_true rfl) hE (fun r_29 sh1 μ3 h_29 => ?_)
      obtain ⟨rfl, rfl, x_29, rfl, hx_29⟩ := h_29
      refine sx_if_eq (pc := 32) (tgt := 48) dX6_act_32 (by decide) (fun c_32 => ?_) (fun c_32 => ?_)
      · have h_32t := c_32
        refine sx_iconst (pc := 48) (v := (-1)) dX6_act_48 (by decide) ?_
        exact sx_iret (pc := 49) dX6_act_49 rfl rfl (Nat.zero_le _) (Nat.zero_le _) (by first | exact (by obtain ⟨hv, hT⟩ := hV1; subst hv; obtain ⟨k9, hk9, ek9⟩ := hD.2.2.2.2; rw [oAct, if_pos ⟨⟨⟨(dq_t hx_13 h_16f).1, (le_pred (k := k9) (by omega) ek9 (dq_t hx_13 h_16f).1).mp (dq_t hx_13 h_16f).2⟩, Int32.not_le.mp h_23f⟩, (dq_t hx_29 h_32f).1, (lt_of_le _ 4 (by decide)).mp (dq_t hx_29 h_32f).2⟩]; exact ⟨rfl, hK1, ⟨rfl, hT⟩, rfl⟩) | exact (by obtain ⟨hv, hT⟩ := hV1; subst hv; obtain ⟨k9, hk9, ek9⟩ := hD.2.2.2.2; rw [oAct, if_neg (fun q => by first | exact dq_f hx_13 h_16t ⟨q.1.1.1, (le_pred (k := k9) (by omega) ek9 q.1.1.1).mpr q.1.1.2⟩ | exact absurd h_23t (Int32.not_le.mpr q.1.2) | exact dq_f hx_29 h_32t ⟨q.2.1, (lt_of_le _ 4 (by decide)).mpr q.2.2⟩)]; exact ⟨rfl, hK1, ⟨rfl, hT⟩, rfl⟩))
      · have h_32f := c_32
        refine sx_aload_n (pc := 35) dX6_act_35 rfl rfl ?_
        refine sx_getr (pc := 36) (ci := 6) (j := 21) (r := 115) dX6_act_36 rfl s_Mo rfl (by decide) lf_X6_69 ?_
        refine sx_iconst (pc := 39) (v := 5) dX6_act_39 (by decide) ?_
        refine sx_iload_n (pc := 40) dX6_act_40 rfl rfl ?_
        refine sx_imul (pc := 41) dX6_act_41 ?_
        refine sx_iload_n (pc := 42) dX6_act_42 rfl rfl ?_
        refine sx_iadd (pc := 43) dX6_act_43 ?_
        refine sx_iald (pc := 44) dX6_act_44 s_M21 (by decide) rfl (aix (dq_t hx_13 h_16f) h_23f (dq_t hx_29 h_32f)) ?_
        refine sx_goto (pc := 45) (tgt := 49) dX6_act_45 (by decide) ?_
        exact sx_iret (pc := 49) dX6_act_49 rfl rfl (Nat.zero_le _) (Nat.zero_le _) (by first | exact (by obtain ⟨hv, hT⟩ := hV1; subst hv; obtain ⟨k9, hk9, ek9⟩ := hD.2.2.2.2; rw [oAct, if_pos ⟨⟨⟨(dq_t hx_13 h_16f).1, (le_pred (k := k9) (by omega) ek9 (dq_t hx_13 h_16f).1).mp (dq_t hx_13 h_16f).2⟩, Int32.not_le.mp h_23f⟩, (dq_t hx_29 h_32f).1, (lt_of_le _ 4 (by decide)).mp (dq_t hx_29 h_32f).2⟩]; exact ⟨rfl, hK1, ⟨rfl, hT⟩, rfl⟩) | exact (by obtain ⟨hv, hT⟩ := hV1; subst hv; obtain ⟨k9, hk9, ek9⟩ := hD.2.2.2.2; rw [oAct, if_neg (fun q => by first | exact dq_f hx_13 h_16t ⟨q.1.1.1, (le_pred (k := k9) (by omega) ek9 q.1.1.1).mpr q.1.1.2⟩ | exact absurd h_23t (Int32.not_le.mpr q.1.2) | exact dq_f hx_29 h_32t ⟨q.2.1, (lt_of_le _ 4 (by decide)).mpr q.2.2⟩)]; exact ⟨rfl, hK1, ⟨rfl, hT⟩, rfl⟩))
theorem vw_sum {μ μ' : xM} {v : VT} {x y : Int32} (h : Vm μ v) (e : μ' = xup μ 95 22 x) (hx : x = y) : Vm μ' ((lS v, lY v, lB v, lG v, lD v, lW v, lR v, lK v, lI v, lP v, y), v.2) := by
  obtain ⟨hv, hT⟩ := h
  subst hv
  refine ⟨?_, hT.same (xk e (by decide)) (xk e (by decide))⟩
  rw [e, hx]; rfl
set_option maxHeartbeats 1000000 in
set_option maxRecDepth 20000 in
theorem q_sum (X : xD) (Ex : State → Prop) (hE : xEs X false shA.length Ex) (μ : xM) (c : Int32) {v : VT} {n : Nat} (hn : n + 30 < 2 ^ 20) (hV : Vm μ v) (hD : VD n v) : Ct X Ex false yX6_sum kX6_sum (rmN 0) [.ref (X.2 + 95), .int c] shA μ (fun r sh' μ' => shA = sh' ∧ Kl μ μ' ∧ Vm μ' ((oSum c v).1) ∧ r = some (.int ((oSum c v).2))) := by
  refine Ct.of (L0 := [some (.ref (X.2 + 95)), some (.int c), none]) (by decide) rfl (fun h => by cases h) (by simp [Value.category]) (Nat.le_of_ble_eq_true rfl) rfl (fun l => ?_)
  refine sx_aload_n (pc := 0) dX6_sum_0 rfl rfl ?_
  refine sx_iconst (pc := 1) (v := 0) dX6_sum_1 (by decide) ?_
  refine sx_puti (pc := 2) (ci := 6) (j := 0) (ty := .int) dX6_sum_2 rfl s_Mo rfl (by decide) lf_X6_72 rfl (by decide +kernel) rfl rfl (fun μ1 hμ1 => ?_)
  obtain ⟨hV1, hK1⟩ := hV.thr hμ1
  refine sx_iload_n (pc := 5) dX6_sum_5 rfl rfl ?_
  refine sx_if_ge (pc := 6) (tgt := 21) dX6_sum_6 (by decide) (fun c_6 => ?_) (fun c_6 => ?_)
  · have h_6t := c_6
    refine sx_aload_n (pc := 21) dX6_sum_21 rfl rfl ?_
    refine sx_aload_n (pc := 22) dX6_sum_22 rfl rfl ?_
    refine sx_geti (pc := 23) (ci := 6) (j := 22) dX6_sum_23 rfl s_Mo rfl (by decide) lf_X6_177 ?_
    refine sx_iload_n (pc := 26) dX6_sum_26 rfl rfl ?_
    refine sx_sipush (pc := 27) (v := 255) dX6_sum_27 (by decide) ?_
    refine sx_iand (pc := 30) dX6_sum_30 ?_
    refine sx_iadd (pc := 31) dX6_sum_31 ?_
    refine sx_sipush (pc := 32) (v := 256) dX6_sum_32 (by decide) ?_
    refine sx_irem (pc := 35) dX6_sum_35 (by decide) ?_
    refine sx_puti (pc := 36) (ci := 6) (j := 22) (ty := .int) dX6_sum_36 rfl s_Mo rfl (by decide) lf_X6_177 rfl (by decide +kernel) rfl rfl (fun μ2 hμ2 => ?_)
    have e_36 := hμ2
    refine sx_aload_n (pc := 39) dX6_sum_39 rfl rfl ?_
    refine sx_geti (pc := 40) (ci := 6) (j := 22) dX6_sum_40 rfl s_Mo rfl (by decide) lf_X6_177 ?_
    exact sx_iret (pc := 43) dX6_sum_43 rfl rfl (Nat.zero_le _) (Nat.zero_le _) (by have q1 : μ1 95 22 = lM v := congrArg (fun y : VT => lM y) hV1.1; exact ⟨rfl, hK1.tr (fun a ha => xk e_36 (by omega)), by rw [oSum, if_neg (Int32.not_lt.mpr h_6t)]; exact vw_sum hV1 e_36 (by rw [show μ1 95 22 = lM v from q1]; exact sum_mod hD.2.2.1.1 hD.2.2.1.2), by rw [oSum, if_neg (Int32.not_lt.mpr h_6t), xv e_36, show μ1 95 22 = lM v from q1, sum_mod hD.2.2.1.1 hD.2.2.1.2]⟩)
  · have h_6f := c_6
    refine sx_aload_n (pc := 9) dX6_sum_9 rfl rfl ?_
    refine sx_geti (pc := 10) (ci := 6) (j := 22) dX6_sum_10 rfl s_Mo rfl (by decide) lf_X6_177 ?_
    refine sx_istore_n (pc := 13) (L' := [some (.ref (X.2 + 95)), some (.int c), some (.int (μ1 95 22))]) dX6_sum_13 rfl (by decide) rfl ?_
    refine sx_aload_n (pc := 14) dX6_sum_14 rfl rfl ?_
    refine sx_iconst (pc := 15) (v := 0) dX6_sum_15 (by decide) ?_
    refine sx_puti (pc := 16) (ci := 6) (j := 22) (ty := .int) dX6_sum_16 rfl s_Mo rfl (by decide) lf_X6_177 rfl (by decide +kernel) rfl rfl (fun μ3 hμ3 => ?_)
    have e_16 := hμ3
    refine sx_iload_n (pc := 19) dX6_sum_19 rfl rfl ?_
    exact sx_iret (pc := 20) dX6_sum_20 rfl rfl (Nat.zero_le _) (Nat.zero_le _) (by have q1 : μ1 95 22 = lM v := congrArg (fun y : VT => lM y) hV1.1; exact ⟨rfl, hK1.tr (fun a ha => xk e_16 (by omega)), by rw [oSum, if_pos (Int32.not_le.mp h_6f)]; exact vw_sum hV1 e_16 rfl, by rw [oSum, if_pos (Int32.not_le.mp h_6f)]; exact congrArg (fun z => some (Value.int z)) q1⟩)
set_option maxHeartbeats 1000000 in
set_option maxRecDepth 20000 in
theorem q_state (X : xD) (Ex : State → Prop) (hE : xEs X false shA.length Ex) (μ : xM) (dev w : Int32) {v : VT} {n : Nat} (hn : n + 30 < 2 ^ 20) (hV : Vm μ v) (hD : VD n v) : Ct X Ex false yX6_state kX6_state (rmN 2) [.ref (X.2 + 95), .int dev, .int w] shA μ (fun r sh' μ' => shA = sh' ∧ Kl μ μ' ∧ Vm μ' (v) ∧ r = some (.int (oState dev w v))) := by
  refine Ct.of (L0 := [some (.ref (X.2 + 95)), some (.int dev), some (.int w)]) (by decide) rfl (fun h => by cases h) (by simp [Value.category]) (Nat.le_of_ble_eq_true rfl) rfl (fun l => ?_)
  refine sx_aload_n (pc := 0) dX6_state_0 rfl rfl ?_
  refine sx_iconst (pc := 1) (v := 0) dX6_state_1 (by decide) ?_
  refine sx_puti (pc := 2) (ci := 6) (j := 0) (ty := .int) dX6_state_2 rfl s_Mo rfl (by decide) lf_X6_72 rfl (by decide +kernel) rfl rfl (fun μ1 hμ1 => ?_)
  obtain ⟨hV1, hK1⟩ := hV.thr hμ1
  refine sx_iload_n (pc := 5) dX6_state_5 rfl rfl ?_
  refine sx_callS (pc := 6) (As := [.int dev]) dX6_state_6 (c_isDevice X Ex hE μ1 _) mX6_isDevice lm_X6_171 rfl ⟨Nat.le_of_ble_eq_true rfl, Nat.le_of_ble_eq_true rfl⟩ ⟨Nat.le_of_ble_eq_true rfl, Nat.le_of_ble_eq_true rfl⟩ (Nat.le_of_ble_eq_true rfl) hE (fun r_6 sh1 μ2 h_6 => ?_)
  obtain ⟨rfl, rfl, x_6, rfl, hx_6⟩ := h_6
  refine sx_if_ne (pc := 9) (tgt := 14) dX6_state_9 (by decide) (fun c_9 => ?_) (fun c_9 => ?_)
  · have h_9t := c_9
    have hb := isB_t hx_6 h_9t
    have hd := clamp_lt (n := 6) hb.1 hb.2 (by decide)
    refine sx_iload_n (pc := 14) dX6_state_14 rfl rfl ?_
    rcases sw5 w with rfl | rfl | rfl | rfl | rfl | w_15
    · refine sx_tableIn (pc := 15) (off := 33) (tgt := 48) dX6_state_15 (by decide) (by decide) (by decide) (by decide) ?_
      refine sx_aload_n (pc := 48) dX6_state_48 rfl rfl ?_
      refine sx_getr (pc := 49) (ci := 6) (j := 5) (r := 100) dX6_state_49 rfl s_Mo rfl (by decide) lf_X6_24 ?_
      refine sx_iload_n (pc := 52) dX6_state_52 rfl rfl ?_
      refine sx_iald (pc := 53) dX6_state_53 s_M5 (by decide) rfl (vp_in_lt (n := 6) hb.1 hb.2 (by decide)) ?_
      exact sx_iret (pc := 54) dX6_state_54 rfl rfl (Nat.zero_le _) (Nat.zero_le _) (by obtain ⟨hv, hT⟩ := hV1; subst hv; rw [oState, if_pos hb]; refine ⟨rfl, hK1, ⟨rfl, hT⟩, ?_⟩; first | (rw [if_neg (sw5n w_15).1, if_neg (sw5n w_15).2.1, if_neg (sw5n w_15).2.2.1, if_neg (sw5n w_15).2.2.2.1, if_neg (sw5n w_15).2.2.2.2]) | (rw [if_pos rfl]; rfl) | (rw [if_neg (by decide), if_neg (by decide), if_neg (by decide), if_pos rfl]; rfl) | (rw [if_neg (by decide), if_neg (by decide), if_neg (by decide), if_neg (by decide), if_pos rfl]; rfl) | (rw [if_neg (by decide), if_pos rfl, if_pos (show lG (vw _) (dev.toNatClampNeg) = 0 from h_61t)]) | (rw [if_neg (by decide), if_pos rfl, if_neg (show ¬ lG (vw _) (dev.toNatClampNeg) = 0 from h_61f)]) | (rw [if_neg (by decide), if_neg (by decide), if_pos rfl, if_pos (show lB (vw _) (dev.toNatClampNeg) = 0 from h_76t)]) | (rw [if_neg (by decide), if_neg (by decide), if_pos rfl, if_neg (show ¬ lB (vw _) (dev.toNatClampNeg) = 0 from h_76f)]))
    · refine sx_tableIn (pc := 15) (off := 40) (tgt := 55) dX6_state_15 (by decide) (by decide) (by decide) (by decide) ?_
      refine sx_aload_n (pc := 55) dX6_state_55 rfl rfl ?_
      refine sx_getr (pc := 56) (ci := 6) (j := 4) (r := 99) dX6_state_56 rfl s_Mo rfl (by decide) lf_X6_21 ?_
      refine sx_iload_n (pc := 59) dX6_state_59 rfl rfl ?_
      refine sx_zald (pc := 60) dX6_state_60 s_M4 (by decide) rfl (vp_in_lt (n := 6) hb.1 hb.2 (by decide)) ?_
      refine sx_if_eq (pc := 61) (tgt := 68) dX6_state_61 (by decide) (fun c_61 => ?_) (fun c_61 => ?_)
      · have h_61t := c_61
        refine sx_iconst (pc := 68) (v := 0) dX6_state_68 (by decide) ?_
        exact sx_iret (pc := 69) dX6_state_69 rfl rfl (Nat.zero_le _) (Nat.zero_le _) (by obtain ⟨hv, hT⟩ := hV1; subst hv; rw [oState, if_pos hb]; refine ⟨rfl, hK1, ⟨rfl, hT⟩, ?_⟩; first | (rw [if_neg (sw5n w_15).1, if_neg (sw5n w_15).2.1, if_neg (sw5n w_15).2.2.1, if_neg (sw5n w_15).2.2.2.1, if_neg (sw5n w_15).2.2.2.2]) | (rw [if_pos rfl]; rfl) | (rw [if_neg (by decide), if_neg (by decide), if_neg (by decide), if_pos rfl]; rfl) | (rw [if_neg (by decide), if_neg (by decide), if_neg (by decide), if_neg (by decide), if_pos rfl]; rfl) | (rw [if_neg (by decide), if_pos rfl, if_pos (show lG (vw _) (dev.toNatClampNeg) = 0 from h_61t)]) | (rw [if_neg (by decide), if_pos rfl, if_neg (show ¬ lG (vw _) (dev.toNatClampNeg) = 0 from h_61f)]) | (rw [if_neg (by decide), if_neg (by decide), if_pos rfl, if_pos (show lB (vw _) (dev.toNatClampNeg) = 0 from h_76t)]) | (rw [if_neg (by decide), if_neg (by decide), if_pos rfl, if_neg (show ¬ lB (vw _) (dev.toNatClampNeg) = 0 from h_76f)]))
      · have h_61f := c_61
        refine sx_iconst (pc := 64) (v := 1) dX6_state_64 (by decide) ?_
        refine sx_goto (pc := 65) (tgt := 69) dX6_state_65 (by decide) ?_
        exact sx_iret (pc := 69) dX6_state_69 rfl rfl (Nat.zero_le _) (Nat.zero_le _) (by obtain ⟨hv, hT⟩ := hV1; subst hv; rw [oState, if_pos hb]; refine ⟨rfl, hK1, ⟨rfl, hT⟩, ?_⟩; first | (rw [if_neg (sw5n w_15).1, if_neg (sw5n w_15).2.1, if_neg (sw5n w_15).2.2.1, if_neg (sw5n w_15).2.2.2.1, if_neg (sw5n w_15).2.2.2.2]) | (rw [if_pos rfl]; rfl) | (rw [if_neg (by decide), if_neg (by decide), if_neg (by decide), if_pos rfl]; rfl) | (rw [if_neg (by decide), if_neg (by decide), if_neg (by decide), if_neg (by decide), if_pos rfl]; rfl) | (rw [if_neg (by decide), if_pos rfl, if_pos (show lG (vw _) (dev.toNatClampNeg) = 0 from h_61t)]) | (rw [if_neg (by decide), if_pos rfl, if_neg (show ¬ lG (vw _) (dev.toNatClampNeg) = 0 from h_61f)]) | (rw [if_neg (by decide), if_neg (by decide), if_pos rfl, if_pos (show lB (vw _) (dev.toNatClampNeg) = 0 from h_76t)]) | (rw [if_neg (by decide), if_neg (by decide), if_pos rfl, if_neg (show ¬ lB (vw _) (dev.toNatClampNeg) = 0 from h_76f)]))
    · refine sx_tableIn (pc := 15) (off := 55) (tgt := 70) dX6_state_15 (by decide) (by decide) (by decide) (by decide) ?_
      refine sx_aload_n (pc := 70) dX6_state_70 rfl rfl ?_
      refine sx_getr (pc := 71) (ci := 6) (j := 3) (r := 98) dX6_state_71 rfl s_Mo rfl (by decide) lf_X6_17 ?_
      refine sx_iload_n (pc := 74) dX6_state_74 rfl rfl ?_
      refine sx_zald (pc := 75) dX6_state_75 s_M3 (by decide) rfl (vp_in_lt (n := 6) hb.1 hb.2 (by decide)) ?_
      refine sx_if_eq (pc := 76) (tgt := 83) dX6_state_76 (by decide) (fun c_76 => ?_) (fun c_76 => ?_)
      · have h_76t := c_76
        refine sx_iconst (pc := 83) (v := 0) dX6_state_83 (by decide) ?_
        exact sx_iret (pc := 84) dX6_state_84 rfl rfl (Nat.zero_le _) (Nat.zero_le _) (by obtain ⟨hv, hT⟩ := hV1; subst hv; rw [oState, if_pos hb]; refine ⟨rfl, hK1, ⟨rfl, hT⟩, ?_⟩; first | (rw [if_neg (sw5n w_15).1, if_neg (sw5n w_15).2.1, if_neg (sw5n w_15).2.2.1, if_neg (sw5n w_15).2.2.2.1, if_neg (sw5n w_15).2.2.2.2]) | (rw [if_pos rfl]; rfl) | (rw [if_neg (by decide), if_neg (by decide), if_neg (by decide), if_pos rfl]; rfl) | (rw [if_neg (by decide), if_neg (by decide), if_neg (by decide), if_neg (by decide), if_pos rfl]; rfl) | (rw [if_neg (by decide), if_pos rfl, if_pos (show lG (vw _) (dev.toNatClampNeg) = 0 from h_61t)]) | (rw [if_neg (by decide), if_pos rfl, if_neg (show ¬ lG (vw _) (dev.toNatClampNeg) = 0 from h_61f)]) | (rw [if_neg (by decide), if_neg (by decide), if_pos rfl, if_pos (show lB (vw _) (dev.toNatClampNeg) = 0 from h_76t)]) | (rw [if_neg (by decide), if_neg (by decide), if_pos rfl, if_neg (show ¬ lB (vw _) (dev.toNatClampNeg) = 0 from h_76f)]))
      · have h_76f := c_76
        refine sx_iconst (pc := 79) (v := 1) dX6_state_79 (by decide) ?_
        refine sx_goto (pc := 80) (tgt := 84) dX6_state_80 (by decide) ?_
        exact sx_iret (pc := 84) dX6_state_84 rfl rfl (Nat.zero_le _) (Nat.zero_le _) (by obtain ⟨hv, hT⟩ := hV1; subst hv; rw [oState, if_pos hb]; refine ⟨rfl, hK1, ⟨rfl, hT⟩, ?_⟩; first | (rw [if_neg (sw5n w_15).1, if_neg (sw5n w_15).2.1, if_neg (sw5n w_15).2.2.1, if_neg (sw5n w_15).2.2.2.1, if_neg (sw5n w_15).2.2.2.2]) | (rw [if_pos rfl]; rfl) | (rw [if_neg (by decide), if_neg (by decide), if_neg (by decide), if_pos rfl]; rfl) | (rw [if_neg (by decide), if_neg (by decide), if_neg (by decide), if_neg (by decide), if_pos rfl]; rfl) | (rw [if_neg (by decide), if_pos rfl, if_pos (show lG (vw _) (dev.toNatClampNeg) = 0 from h_61t)]) | (rw [if_neg (by decide), if_pos rfl, if_neg (show ¬ lG (vw _) (dev.toNatClampNeg) = 0 from h_61f)]) | (rw [if_neg (by decide), if_neg (by decide), if_pos rfl, if_pos (show lB (vw _) (dev.toNatClampNeg) = 0 from h_76t)]) | (rw [if_neg (by decide), if_neg (by decide), if_pos rfl, if_neg (show ¬ lB (vw _) (dev.toNatClampNeg) = 0 from h_76f)]))
    · refine sx_tableIn (pc := 15) (off := 70) (tgt := 85) dX6_state_15 (by decide) (by decide) (by decide) (by decide) ?_
      refine sx_aload_n (pc := 85) dX6_state_85 rfl rfl ?_
      refine sx_getr (pc := 86) (ci := 6) (j := 11) (r := 106) dX6_state_86 rfl s_Mo rfl (by decide) lf_X6_42 ?_
      refine sx_iload_n (pc := 89) dX6_state_89 rfl rfl ?_
      refine sx_iald (pc := 90) dX6_state_90 s_M11 (by decide) rfl (vp_in_lt (n := 6) hb.1 hb.2 (by decide)) ?_
      exact sx_iret (pc := 91) dX6_state_91 rfl rfl (Nat.zero_le _) (Nat.zero_le _) (by obtain ⟨hv, hT⟩ := hV1; subst hv; rw [oState, if_pos hb]; refine ⟨rfl, hK1, ⟨rfl, hT⟩, ?_⟩; first | (rw [if_neg (sw5n w_15).1, if_neg (sw5n w_15).2.1, if_neg (sw5n w_15).2.2.1, if_neg (sw5n w_15).2.2.2.1, if_neg (sw5n w_15).2.2.2.2]) | (rw [if_pos rfl]; rfl) | (rw [if_neg (by decide), if_neg (by decide), if_neg (by decide), if_pos rfl]; rfl) | (rw [if_neg (by decide), if_neg (by decide), if_neg (by decide), if_neg (by decide), if_pos rfl]; rfl) | (rw [if_neg (by decide), if_pos rfl, if_pos (show lG (vw _) (dev.toNatClampNeg) = 0 from h_61t)]) | (rw [if_neg (by decide), if_pos rfl, if_neg (show ¬ lG (vw _) (dev.toNatClampNeg) = 0 from h_61f)]) | (rw [if_neg (by decide), if_neg (by decide), if_pos rfl, if_pos (show lB (vw _) (dev.toNatClampNeg) = 0 from h_76t)]) | (rw [if_neg (by decide), if_neg (by decide), if_pos rfl, if_neg (show ¬ lB (vw _) (dev.toNatClampNeg) = 0 from h_76f)]))
    · refine sx_tableIn (pc := 15) (off := 77) (tgt := 92) dX6_state_15 (by decide) (by decide) (by decide) (by decide) ?_
      refine sx_aload_n (pc := 92) dX6_state_92 rfl rfl ?_
      refine sx_getr (pc := 93) (ci := 6) (j := 6) (r := 101) dX6_state_93 rfl s_Mo rfl (by decide) lf_X6_27 ?_
      refine sx_iload_n (pc := 96) dX6_state_96 rfl rfl ?_
      refine sx_iald (pc := 97) dX6_state_97 s_M6 (by decide) rfl (vp_in_lt (n := 6) hb.1 hb.2 (by decide)) ?_
      exact sx_iret (pc := 98) dX6_state_98 rfl rfl (Nat.zero_le _) (Nat.zero_le _) (by obtain ⟨hv, hT⟩ := hV1; subst hv; rw [oState, if_pos hb]; refine ⟨rfl, hK1, ⟨rfl, hT⟩, ?_⟩; first | (rw [if_neg (sw5n w_15).1, if_neg (sw5n w_15).2.1, if_neg (sw5n w_15).2.2.1, if_neg (sw5n w_15).2.2.2.1, if_neg (sw5n w_15).2.2.2.2]) | (rw [if_pos rfl]; rfl) | (rw [if_neg (by decide), if_neg (by decide), if_neg (by decide), if_pos rfl]; rfl) | (rw [if_neg (by decide), if_neg (by decide), if_neg (by decide), if_neg (by decide), if_pos rfl]; rfl) | (rw [if_neg (by decide), if_pos rfl, if_pos (show lG (vw _) (dev.toNatClampNeg) = 0 from h_61t)]) | (rw [if_neg (by decide), if_pos rfl, if_neg (show ¬ lG (vw _) (dev.toNatClampNeg) = 0 from h_61f)]) | (rw [if_neg (by decide), if_neg (by decide), if_pos rfl, if_pos (show lB (vw _) (dev.toNatClampNeg) = 0 from h_76t)]) | (rw [if_neg (by decide), if_neg (by decide), if_pos rfl, if_neg (show ¬ lB (vw _) (dev.toNatClampNeg) = 0 from h_76f)]))
    · refine sx_tableOut (pc := 15) (tgt := 99) dX6_state_15 w_15 (by decide) ?_
      refine sx_iconst (pc := 99) (v := (-1)) dX6_state_99 (by decide) ?_
      exact sx_iret (pc := 100) dX6_state_100 rfl rfl (Nat.zero_le _) (Nat.zero_le _) (by obtain ⟨hv, hT⟩ := hV1; subst hv; rw [oState, if_pos hb]; refine ⟨rfl, hK1, ⟨rfl, hT⟩, ?_⟩; first | (rw [if_neg (sw5n w_15).1, if_neg (sw5n w_15).2.1, if_neg (sw5n w_15).2.2.1, if_neg (sw5n w_15).2.2.2.1, if_neg (sw5n w_15).2.2.2.2]) | (rw [if_pos rfl]; rfl) | (rw [if_neg (by decide), if_neg (by decide), if_neg (by decide), if_pos rfl]; rfl) | (rw [if_neg (by decide), if_neg (by decide), if_neg (by decide), if_neg (by decide), if_pos rfl]; rfl) | (rw [if_neg (by decide), if_pos rfl, if_pos (show lG (vw _) (dev.toNatClampNeg) = 0 from h_61t)]) | (rw [if_neg (by decide), if_pos rfl, if_neg (show ¬ lG (vw _) (dev.toNatClampNeg) = 0 from h_61f)]) | (rw [if_neg (by decide), if_neg (by decide), if_pos rfl, if_pos (show lB (vw _) (dev.toNatClampNeg) = 0 from h_76t)]) | (rw [if_neg (by decide), if_neg (by decide), if_pos rfl, if_neg (show ¬ lB (vw _) (dev.toNatClampNeg) = 0 from h_76f)]))
  · have h_9f := c_9
    refine sx_iconst (pc := 12) (v := (-1)) dX6_state_12 (by decide) ?_
    exact sx_iret (pc := 13) dX6_state_13 rfl rfl (Nat.zero_le _) (Nat.zero_le _) (⟨rfl, hK1, hV1, by rw [oState, if_neg (isB_f hx_6 h_9f)]⟩)
theorem wix {it i c : Int32} (ht : 0 ≤ it ∧ it < 30) (h : 0 ≤ i ∧ i ≤ c - 1) {q : Nat} (hq : q ≤ 30) (hc : c = nI q) : vp_in (30 * it + i) 900 := by
  obtain ⟨a, ha, e⟩ := nI_of2 (x := it) (M := 29) (n := 29) rfl (Int32.not_lt.mpr ht.1) ((lt_of_le it 29 (by decide)).mpr ht.2)
  obtain ⟨b, hb, e2⟩ := nI_of (Int32.not_lt.mpr h.1)
  have h2 := h.2
  rw [e2, hc] at h2
  have hb30 : b < 30 := by
    rcases Nat.eq_zero_or_pos q with q0 | q0
    · rw [q0, Int32.le_iff_toInt_le, nI_toInt hb, show (nI 0 - 1 : Int32).toInt = -1 by decide] at h2
      omega
    · rw [show (1 : Int32) = nI 1 from rfl, pk_sub q0, nI_leI hb (by omega)] at h2
      omega
  rw [e, e2, show (30 : Int32) = nI 30 from rfl, pk_mul, nI_add]
  exact vp_in_nI (by omega) (by decide)
theorem wic {it i c : Int32} (ht : 0 ≤ it ∧ it < 30) (h : 0 ≤ i ∧ i < c) {q : Nat} (hq : q ≤ 30) (hc : c = nI q) : (30 * it + i).toNatClampNeg = 30 * it.toNatClampNeg + i.toNatClampNeg := by
  obtain ⟨a, ha, rfl⟩ := nI_of2 (x := it) (M := 29) (n := 29) rfl (Int32.not_lt.mpr ht.1) ((lt_of_le it 29 (by decide)).mpr ht.2)
  obtain ⟨b, hb, rfl⟩ := nI_of (Int32.not_lt.mpr h.1)
  have h2 := h.2
  rw [hc, nI_ltI hb (by omega)] at h2
  rw [show (30 : Int32) = nI 30 from rfl, pk_mul, nI_add, nI_clamp (by omega), nI_clamp (by omega), nI_clamp (by omega)]
set_option maxHeartbeats 1000000 in
set_option maxRecDepth 20000 in
theorem q_waits (X : xD) (Ex : State → Prop) (hE : xEs X false shA.length Ex) (μ : xM) (it i : Int32) {v : VT} {n : Nat} (hn : n + 30 < 2 ^ 20) (hV : Vm μ v) (hD : VD n v) : Ct X Ex false yX6_waits kX6_waits (rmN 1) [.ref (X.2 + 95), .int it, .int i] shA μ (fun r sh' μ' => shA = sh' ∧ Kl μ μ' ∧ Vm μ' (v) ∧ r = some (.int (oWaits it i v))) := by
  refine Ct.of (L0 := [some (.ref (X.2 + 95)), some (.int it), some (.int i)]) (by decide) rfl (fun h => by cases h) (by simp [Value.category]) (Nat.le_of_ble_eq_true rfl) rfl (fun l => ?_)
  refine sx_aload_n (pc := 0) dX6_waits_0 rfl rfl ?_
  refine sx_iconst (pc := 1) (v := 0) dX6_waits_1 (by decide) ?_
  refine sx_puti (pc := 2) (ci := 6) (j := 0) (ty := .int) dX6_waits_2 rfl s_Mo rfl (by decide) lf_X6_72 rfl (by decide +kernel) rfl rfl (fun μ1 hμ1 => ?_)
  obtain ⟨hV1, hK1⟩ := hV.thr hμ1
  refine sx_iload_n (pc := 5) dX6_waits_5 rfl rfl ?_
  refine sx_iconst (pc := 6) (v := 0) dX6_waits_6 (by decide) ?_
  refine sx_bipush (pc := 7) (v := 29) dX6_waits_7 (by decide) ?_
  refine sx_callS (pc := 9) (As := [.int it, .int 0, .int 29]) dX6_waits_9 (c_in X Ex false shA μ1 _ 0 29) mX6_in lm_X6_76 rfl ⟨Nat.le_of_ble_eq_true rfl, Nat.le_of_ble_eq_true rfl⟩ ⟨Nat.le_of_ble_eq_true rfl, Nat.le_of_ble_eq_true rfl⟩ (Nat.le_of_ble_eq_true rfl) hE (fun r_9 sh1 μ2 h_9 => ?_)
  obtain ⟨rfl, rfl, x_9, rfl, zx_9⟩ := h_9
  have hx_9 := inB 29 (by decide) zx_9
  refine sx_if_eq (pc := 12) (tgt := 45) dX6_waits_12 (by decide) (fun c_12 => ?_) (fun c_12 => ?_)
  · have h_12t := c_12
    refine sx_iconst (pc := 45) (v := (-1)) dX6_waits_45 (by decide) ?_
    exact sx_iret (pc := 46) dX6_waits_46 rfl rfl (Nat.zero_le _) (Nat.zero_le _) (by first | (have hr := dq_t hx_25 h_28f; have hlt := (le_pred (k := q) (by omega) hqe hr.1).mp hr.2; obtain ⟨hv, hT⟩ := hV1; subst hv; rw [oWaits, if_pos ⟨ht, hr.1, hlt⟩]; exact ⟨rfl, hK1, ⟨rfl, hT⟩, by rw [wic ht ⟨hr.1, hlt⟩ hq hqe]; rfl⟩) | (refine ⟨rfl, hK1, hV1, ?_⟩; rw [oWaits, if_neg (fun y => by first | exact isB_f hx_9 h_12t y.1 | exact dq_f hx_25 h_28t ⟨y.2.1, (le_pred (k := q) (by omega) hqe y.2.1).mpr (by have := y.2.2; rw [← hV1.1] at this; exact this)⟩)]))
  · have h_12f := c_12
    have ht := isB_t hx_9 h_12f
    have hi := clamp_lt (n := 30) ht.1 ht.2 (by decide)
    obtain ⟨⟨q, hq, hqv, -⟩, -⟩ := hD.2.2.2.1 _ hi
    have hqe : μ1 113 it.toNatClampNeg = nI q := (congrArg (fun y : VT => vW y.2 it.toNatClampNeg) hV1.1).trans hqv
    refine sx_iload_n (pc := 15) dX6_waits_15 rfl rfl ?_
    refine sx_iconst (pc := 16) (v := 0) dX6_waits_16 (by decide) ?_
    refine sx_aload_n (pc := 17) dX6_waits_17 rfl rfl ?_
    refine sx_getr (pc := 18) (ci := 6) (j := 18) (r := 113) dX6_waits_18 rfl s_Mo rfl (by decide) lf_X6_63 ?_
    refine sx_iload_n (pc := 21) dX6_waits_21 rfl rfl ?_
    refine sx_iald (pc := 22) dX6_waits_22 s_M18 (by decide) rfl (vp_in_lt (n := 30) ht.1 ht.2 (by decide)) ?_
    refine sx_iconst (pc := 23) (v := 1) dX6_waits_23 (by decide) ?_
    refine sx_isub (pc := 24) dX6_waits_24 ?_
    refine sx_callS (pc := 25) (As := [.int i, .int 0, .int ((μ1 113 it.toNatClampNeg) - 1)]) dX6_waits_25 (c_in X Ex false shA μ1 _ _ _) mX6_in lm_X6_76 rfl ⟨Nat.le_of_ble_eq_true rfl, Nat.le_of_ble_eq_true rfl⟩ ⟨Nat.le_of_ble_eq_true rfl, Nat.le_of_ble_eq_true rfl⟩ (Nat.le_of_ble_eq_true rfl) hE (fun r_25 sh1 μ3 h_25 => ?_)
    obtain ⟨rfl, rfl, x_25, rfl, hx_25⟩ := h_25
    refine sx_if_eq (pc := 28) (tgt := 45) dX6_waits_28 (by decide) (fun c_28 => ?_) (fun c_28 => ?_)
    · have h_28t := c_28
      refine sx_iconst (pc := 45) (v := (-1)) dX6_waits_45 (by decide) ?_
      exact sx_iret (pc := 46) dX6_waits_46 rfl rfl (Nat.zero_le _) (Nat.zero_le _) (by first | (have hr := dq_t hx_25 h_28f; have hlt := (le_pred (k := q) (by omega) hqe hr.1).mp hr.2; obtain ⟨hv, hT⟩ := hV1; subst hv; rw [oWaits, if_pos ⟨ht, hr.1, hlt⟩]; exact ⟨rfl, hK1, ⟨rfl, hT⟩, by rw [wic ht ⟨hr.1, hlt⟩ hq hqe]; rfl⟩) | (refine ⟨rfl, hK1, hV1, ?_⟩; rw [oWaits, if_neg (fun y => by first | exact isB_f hx_9 h_12t y.1 | exact dq_f hx_25 h_28t ⟨y.2.1, (le_pred (k := q) (by omega) hqe y.2.1).mpr (by have := y.2.2; rw [← hV1.1] at this; exact this)⟩)]))
    · have h_28f := c_28
      refine sx_aload_n (pc := 31) dX6_waits_31 rfl rfl ?_
      refine sx_getr (pc := 32) (ci := 6) (j := 19) (r := 114) dX6_waits_32 rfl s_Mo rfl (by decide) lf_X6_66 ?_
      refine sx_bipush (pc := 35) (v := 30) dX6_waits_35 (by decide) ?_
      refine sx_iload_n (pc := 37) dX6_waits_37 rfl rfl ?_
      refine sx_imul (pc := 38) dX6_waits_38 ?_
      refine sx_iload_n (pc := 39) dX6_waits_39 rfl rfl ?_
      refine sx_iadd (pc := 40) dX6_waits_40 ?_
      refine sx_iald (pc := 41) dX6_waits_41 s_M19 (by decide) rfl (wix ht (dq_t hx_25 h_28f) hq hqe) ?_
      refine sx_goto (pc := 42) (tgt := 46) dX6_waits_42 (by decide) ?_
      exact sx_iret (pc := 46) dX6_waits_46 rfl rfl (Nat.zero_le _) (Nat.zero_le _) (by first | (have hr := dq_t hx_25 h_28f; have hlt := (le_pred (k := q) (by omega) hqe hr.1).mp hr.2; obtain ⟨hv, hT⟩ := hV1; subst hv; rw [oWaits, if_pos ⟨ht, hr.1, hlt⟩]; exact ⟨rfl, hK1, ⟨rfl, hT⟩, by rw [wic ht ⟨hr.1, hlt⟩ hq hqe]; rfl⟩) | (refine ⟨rfl, hK1, hV1, ?_⟩; rw [oWaits, if_neg (fun y => by first | exact isB_f hx_9 h_12t y.1 | exact dq_f hx_25 h_28t ⟨y.2.1, (le_pred (k := q) (by omega) hqe y.2.1).mpr (by have := y.2.2; rw [← hV1.1] at this; exact this)⟩)]))
theorem anx {dev i c : Int32} (hb : 0 ≤ dev ∧ dev < 6) (h : 0 ≤ i ∧ i ≤ c - 1) {q : Nat} (hq : q ≤ 30) (hc : c = nI q) : vp_in (30 * dev + i) 180 := by
  obtain ⟨b, hb2, e2⟩ := nI_of (Int32.not_lt.mpr h.1)
  have h2 := h.2
  rw [e2, hc] at h2
  have hb30 : b < 30 := by
    rcases Nat.eq_zero_or_pos q with q0 | q0
    · rw [q0, Int32.le_iff_toInt_le, nI_toInt hb2, show (nI 0 - 1 : Int32).toInt = -1 by decide] at h2
      omega
    · rw [show (1 : Int32) = nI 1 from rfl, pk_sub q0, nI_leI hb2 (by omega)] at h2
      omega
  rw [e2]
  exact ix_mul hb 30 b 180 (fun k hk => by omega) (by decide) (by decide)
set_option maxHeartbeats 1000000 in
set_option maxRecDepth 20000 in
theorem q_answer (X : xD) (Ex : State → Prop) (hE : xEs X false shA.length Ex) (μ : xM) (dev i : Int32) {v : VT} {n : Nat} (hn : n + 30 < 2 ^ 20) (hV : Vm μ v) (hD : VD n v) : Ct X Ex false yX6_answer kX6_answer (rmN 2) [.ref (X.2 + 95), .int dev, .int i] shA μ (fun r sh' μ' => shA = sh' ∧ Kl μ μ' ∧ Vm μ' (v) ∧ ∃ x : Int32, r = some (.int x)) := by
  refine Ct.of (L0 := [some (.ref (X.2 + 95)), some (.int dev), some (.int i)]) (by decide) rfl (fun h => by cases h) (by simp [Value.category]) (Nat.le_of_ble_eq_true rfl) rfl (fun l => ?_)
  refine sx_aload_n (pc := 0) dX6_answer_0 rfl rfl ?_
  refine sx_iload_n (pc := 1) dX6_answer_1 rfl rfl ?_
  refine sx_callS (pc := 2) (As := [.int dev]) dX6_answer_2 (c_isDevice X Ex hE μ _) mX6_isDevice lm_X6_171 rfl ⟨Nat.le_of_ble_eq_true rfl, Nat.le_of_ble_eq_true rfl⟩ ⟨Nat.le_of_ble_eq_true rfl, Nat.le_of_ble_eq_true rfl⟩ (Nat.le_of_ble_eq_true rfl) hE (fun r_2 sh1 μ1 h_2 => ?_)
  obtain ⟨rfl, rfl, x_2, rfl, hx_2⟩ := h_2
  refine sx_if_eq (pc := 5) (tgt := 28) dX6_answer_5 (by decide) (fun c_5 => ?_) (fun c_5 => ?_)
  · have h_5t := c_5
    refine sx_iconst (pc := 28) (v := 1) dX6_answer_28 (by decide) ?_
    refine sx_puti (pc := 29) (ci := 6) (j := 0) (ty := .int) dX6_answer_29 rfl s_Mo rfl (by decide) lf_X6_72 rfl (by decide +kernel) rfl rfl (fun μ2 hμ2 => ?_)
    obtain ⟨hV1, hK1⟩ := hV.thr hμ2
    have hth_μ2 : μ2 95 0 = 1 := by rw [hμ2, xup_at, if_pos ⟨rfl, rfl⟩]
    refine sx_aload_n (pc := 32) dX6_answer_32 rfl rfl ?_
    refine sx_geti (pc := 33) (ci := 6) (j := 0) dX6_answer_33 rfl s_Mo rfl (by decide) lf_X6_72 ?_
    rw [hth_μ2]
    refine sx_if_le (pc := 36) (tgt := 43) dX6_answer_36 (by decide) (fun c_36 => absurd c_36 (by decide)) (fun c_36 => ?_)
    refine sx_iconst (pc := 39) (v := 0) dX6_answer_39 (by decide) ?_
    refine sx_goto (pc := 40) (tgt := 54) dX6_answer_40 (by decide) ?_
    exact sx_iret (pc := 54) dX6_answer_54 rfl rfl (Nat.zero_le _) (Nat.zero_le _) (⟨rfl, hK1, hV1, _, rfl⟩)
  · have h_5f := c_5
    have hb := isB_t hx_2 h_5f
    have hd := clamp_lt (n := 6) hb.1 hb.2 (by decide)
    obtain ⟨q, hq, hqe⟩ := (hV.2 _ hd).1
    refine sx_iload_n (pc := 8) dX6_answer_8 rfl rfl ?_
    refine sx_iconst (pc := 9) (v := 0) dX6_answer_9 (by decide) ?_
    refine sx_aload_n (pc := 10) dX6_answer_10 rfl rfl ?_
    refine sx_getr (pc := 11) (ci := 6) (j := 7) (r := 102) dX6_answer_11 rfl s_Mo rfl (by decide) lf_X6_30 ?_
    refine sx_iload_n (pc := 14) dX6_answer_14 rfl rfl ?_
    refine sx_iald (pc := 15) dX6_answer_15 s_M7 (by decide) rfl (vp_in_lt (n := 6) hb.1 hb.2 (by decide)) ?_
    refine sx_iconst (pc := 16) (v := 1) dX6_answer_16 (by decide) ?_
    refine sx_isub (pc := 17) dX6_answer_17 ?_
    refine sx_callS (pc := 18) (As := [.int i, .int 0, .int ((μ 102 dev.toNatClampNeg) - 1)]) dX6_answer_18 (c_in X Ex false shA μ _ _ _) mX6_in lm_X6_76 rfl ⟨Nat.le_of_ble_eq_true rfl, Nat.le_of_ble_eq_true rfl⟩ ⟨Nat.le_of_ble_eq_true rfl, Nat.le_of_ble_eq_true rfl⟩ (Nat.le_of_ble_eq_true rfl) hE (fun r_18 sh1 μ3 h_18 => ?_)
    obtain ⟨rfl, rfl, x_18, rfl, hx_18⟩ := h_18
    refine sx_if_eq (pc := 21) (tgt := 28) dX6_answer_21 (by decide) (fun c_21 => ?_) (fun c_21 => ?_)
    · have h_21t := c_21
      refine sx_iconst (pc := 28) (v := 1) dX6_answer_28 (by decide) ?_
      refine sx_puti (pc := 29) (ci := 6) (j := 0) (ty := .int) dX6_answer_29 rfl s_Mo rfl (by decide) lf_X6_72 rfl (by decide +kernel) rfl rfl (fun μ4 hμ4 => ?_)
      obtain ⟨hV1, hK1⟩ := hV.thr hμ4
      have hth_μ4 : μ4 95 0 = 1 := by rw [hμ4, xup_at, if_pos ⟨rfl, rfl⟩]
      refine sx_aload_n (pc := 32) dX6_answer_32 rfl rfl ?_
      refine sx_geti (pc := 33) (ci := 6) (j := 0) dX6_answer_33 rfl s_Mo rfl (by decide) lf_X6_72 ?_
      rw [hth_μ4]
      refine sx_if_le (pc := 36) (tgt := 43) dX6_answer_36 (by decide) (fun c_36 => absurd c_36 (by decide)) (fun c_36 => ?_)
      refine sx_iconst (pc := 39) (v := 0) dX6_answer_39 (by decide) ?_
      refine sx_goto (pc := 40) (tgt := 54) dX6_answer_40 (by decide) ?_
      exact sx_iret (pc := 54) dX6_answer_54 rfl rfl (Nat.zero_le _) (Nat.zero_le _) (⟨rfl, hK1, hV1, _, rfl⟩)
    · have h_21f := c_21
      refine sx_iconst (pc := 24) (v := 0) dX6_answer_24 (by decide) ?_
      refine sx_goto (pc := 25) (tgt := 29) dX6_answer_25 (by decide) ?_
      refine sx_puti (pc := 29) (ci := 6) (j := 0) (ty := .int) dX6_answer_29 rfl s_Mo rfl (by decide) lf_X6_72 rfl (by decide +kernel) rfl rfl (fun μ5 hμ5 => ?_)
      obtain ⟨hV1, hK1⟩ := hV.thr hμ5
      have hth_μ5 : μ5 95 0 = 0 := by rw [hμ5, xup_at, if_pos ⟨rfl, rfl⟩]
      refine sx_aload_n (pc := 32) dX6_answer_32 rfl rfl ?_
      refine sx_geti (pc := 33) (ci := 6) (j := 0) dX6_answer_33 rfl s_Mo rfl (by decide) lf_X6_72 ?_
      rw [hth_μ5]
      refine sx_if_le (pc := 36) (tgt := 43) dX6_answer_36 (by decide) (fun c_36 => ?_) (fun c_36 => absurd c_36 (by decide))
      refine sx_aload_n (pc := 43) dX6_answer_43 rfl rfl ?_
      refine sx_getr (pc := 44) (ci := 6) (j := 8) (r := 103) dX6_answer_44 rfl s_Mo rfl (by decide) lf_X6_33 ?_
      refine sx_bipush (pc := 47) (v := 30) dX6_answer_47 (by decide) ?_
      refine sx_iload_n (pc := 49) dX6_answer_49 rfl rfl ?_
      refine sx_imul (pc := 50) dX6_answer_50 ?_
      refine sx_iload_n (pc := 51) dX6_answer_51 rfl rfl ?_
      refine sx_iadd (pc := 52) dX6_answer_52 ?_
      refine sx_bald (pc := 53) dX6_answer_53 s_M8 (by decide) rfl (anx hb (dq_t hx_18 h_21f) hq hqe) ?_
      exact sx_iret (pc := 54) dX6_answer_54 rfl rfl (Nat.zero_le _) (Nat.zero_le _) (⟨rfl, hK1, hV1, _, rfl⟩)
