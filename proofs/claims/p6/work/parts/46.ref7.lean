/-! the public methods of the reference -/
theorem xk {μ μ' : xM} {k j : Nat} {v : Int32} (e : μ' = xup μ k j v) {a : Nat} (h : a ≠ k) : μ' a = μ a := by
  rw [e]; funext b; rw [xup_at, if_neg (fun q => h q.1)]
theorem xv {μ μ' : xM} {k j : Nat} {v : Int32} (e : μ' = xup μ k j v) : μ' k j = v := by rw [e, xup_at, if_pos ⟨rfl, rfl⟩]
theorem xo {μ μ' : xM} {k j : Nat} {v : Int32} (e : μ' = xup μ k j v) {i : Nat} (h : i ≠ j) : μ' k i = μ k i := by rw [e, xup_at, if_neg (fun q => h q.2)]
def vw (μ : xM) : VT := ((μ 96, μ 97, μ 98, μ 99, μ 100, μ 101, μ 106, μ 107, μ 108, μ 109, μ 95 22), hvw μ)
def TK (μ : xM) : Prop := ∀ d, d < 6 → (∃ t, t ≤ 30 ∧ μ 102 d = nI t) ∧ ∃ t, t ≤ 30 ∧ μ 104 d = nI t
def Vm (μ : xM) (v : VT) : Prop := vw μ = v ∧ TK μ
def Kl (μ μ' : xM) : Prop := ∀ a, a < 95 ∨ 115 < a → μ' a = μ a
theorem Kl.tr {μ μ1 μ2 : xM} (h : Kl μ μ1) (h' : Kl μ1 μ2) : Kl μ μ2 := fun a ha => (h' a ha).trans (h a ha)
theorem TK.same {μ μ' : xM} (h : TK μ) (k2 : μ' 102 = μ 102) (k4 : μ' 104 = μ 104) : TK μ' := by unfold TK; rw [k2, k4]; exact h
theorem vw_eq {μ μ' : xM} (k : ∀ a, 96 ≤ a → a ≤ 115 → a ≠ 102 → a ≠ 103 → a ≠ 104 → a ≠ 105 → μ' a = μ a) (e0 : μ' 95 20 = μ 95 20) (e2 : μ' 95 22 = μ 95 22) : vw μ' = vw μ := by
  unfold vw
  rw [k 96 (by omega) (by omega) (by omega) (by omega) (by omega) (by omega), k 97 (by omega) (by omega) (by omega) (by omega) (by omega) (by omega), k 98 (by omega) (by omega) (by omega) (by omega) (by omega) (by omega), k 99 (by omega) (by omega) (by omega) (by omega) (by omega) (by omega), k 100 (by omega) (by omega) (by omega) (by omega) (by omega) (by omega), k 101 (by omega) (by omega) (by omega) (by omega) (by omega) (by omega), k 106 (by omega) (by omega) (by omega) (by omega) (by omega) (by omega), k 107 (by omega) (by omega) (by omega) (by omega) (by omega) (by omega), k 108 (by omega) (by omega) (by omega) (by omega) (by omega) (by omega), k 109 (by omega) (by omega) (by omega) (by omega) (by omega) (by omega), e2, hvw_eq (fun a a1 a2 => k a (by omega) (by omega) (by omega) (by omega) (by omega) (by omega)) e0]
theorem Vm.thr {μ μ' : xM} {v : VT} {w : Int32} (h : Vm μ v) (e : μ' = xup μ 95 0 w) : Vm μ' v ∧ Kl μ μ' :=
  ⟨⟨(vw_eq (μ := μ) (μ' := μ') (fun a a1 a2 _ _ _ _ => xk e (by omega)) (xo e (by decide)) (xo e (by decide))).trans h.1, h.2.same (xk e (by decide)) (xk e (by decide))⟩, fun a ha => xk e (by omega)⟩
section OPM
variable {μ μ1 μ2 μ3 : xM} {v : VT} {n : Nat} {dev b : Int32}
theorem om_take (hV : Vm μ v) (hD : VD n v) (hb : isD dev) (hz : μ 98 dev.toNatClampNeg = 0) (h13 : ¬ b &&& 255 = 13) (e2 : μ2 = xup μ 97 (60 * dev + μ 96 dev.toNatClampNeg).toNatClampNeg (vp_nar .byte b.toInt8.toInt32)) (e3 : μ3 = xup μ2 96 dev.toNatClampNeg (μ2 96 dev.toNatClampNeg + 1)) (h60 : ¬ μ 96 dev.toNatClampNeg = 60) : Kl μ μ3 ∧ Vm μ3 (oOct dev b v).1 ∧ μ3 96 dev.toNatClampNeg = (oOct dev b v).2 := by
  have hd := clamp_lt (n := 6) hb.1 hb.2 (by decide)
  obtain ⟨hv, hT⟩ := hV
  subst hv
  obtain ⟨z, hz1, hze⟩ := nI_of2 (x := μ 96 dev.toNatClampNeg) (M := 60) (n := 60) rfl (Int32.not_lt.mpr (hD.1 _ hd).2.2.1.1) (hD.1 _ hd).2.2.1.2
  have ei : (60 * dev + μ 96 dev.toNatClampNeg).toNatClampNeg = 60 * dev.toNatClampNeg + (μ 96 dev.toNatClampNeg).toNatClampNeg := by rw [hze, nI_clamp (n := z) (by omega)]; exact ix_c hb 60 z (by decide) (by omega)
  rw [ei] at e2
  have k : ∀ a, a ≠ 96 → a ≠ 97 → μ3 a = μ a := fun a a1 a2 => (xk e3 a1).trans (xk e2 a2)
  rw [oOct, if_pos hb, if_pos (show lB (vw μ) (dev.toNatClampNeg) = 0 from hz), if_neg h13, if_neg (show ¬ lS (vw μ) (dev.toNatClampNeg) = 60 from h60)]
  refine ⟨fun a ha => k a (by omega) (by omega), ⟨?_, hT.same (k 102 (by decide) (by decide)) (k 104 (by decide) (by decide))⟩, ?_⟩
  · rw [e3, e2]; rfl
  · rw [xv e3, xk e2 (by decide)]; rfl
theorem om_brk (hV : Vm μ v) (hb : isD dev) (hz : μ 98 dev.toNatClampNeg = 0) (h13 : ¬ b &&& 255 = 13) {w : Int32} (hw : w = 1) (e2 : μ2 = xup μ 98 dev.toNatClampNeg w) (h60 : μ 96 dev.toNatClampNeg = 60) : Kl μ μ2 ∧ Vm μ2 (oOct dev b v).1 ∧ (oOct dev b v).2 = (-2) := by
  obtain ⟨hv, hT⟩ := hV
  subst hv
  have k : ∀ a, a ≠ 98 → μ2 a = μ a := fun a a1 => xk e2 a1
  rw [oOct, if_pos hb, if_pos (show lB (vw μ) (dev.toNatClampNeg) = 0 from hz), if_neg h13, if_pos (show lS (vw μ) (dev.toNatClampNeg) = 60 from h60)]
  refine ⟨fun a ha => k a (by omega), ⟨?_, hT.same (k 102 (by decide)) (k 104 (by decide))⟩, rfl⟩
  rw [e2, hw]; rfl
theorem om_end (hV : Vm μ v) (hb : isD dev) (hz : μ 98 dev.toNatClampNeg = 0) (h13 : b &&& 255 = 13) {σ : SG} (hI : IE dev.toNatClampNeg σ μ μ2) (hA : AnS dev.toNatClampNeg dev (sgf v dev.toNatClampNeg) ((lS v dev.toNatClampNeg).toNatClampNeg) μ σ) (e3 : μ3 = xup μ2 96 dev.toNatClampNeg 0) : Kl μ μ3 ∧ Vm μ3 (oOct dev b v).1 ∧ (oOct dev b v).2 = 0 := by
  obtain ⟨hv, hT⟩ := hV
  subst hv
  rw [oOct, if_pos hb, if_pos (show lB (vw μ) (dev.toNatClampNeg) = 0 from hz), if_pos h13]
  obtain ⟨a1, a2, a3, a4⟩ := hI
  have k : ∀ a, a ≠ 96 → kp a → μ3 a = μ a := fun a b1 b2 => (xk e3 b1).trans (a1.1 a b2)
  have hw : vw μ3 = ((upd (μ 96) dev.toNatClampNeg 0, μ 97, μ 98, σ.1, σ.2.1, σ.2.2.1, μ 106, μ 107, μ 108, μ 109, μ 95 22), σ.2.2.2) := by
    have c1 : μ2 99 = σ.1 := congrArg (fun y : SG => y.1) a2
    have c2 : μ2 100 = σ.2.1 := congrArg (fun y : SG => y.2.1) a2
    have c3 : μ2 101 = σ.2.2.1 := congrArg (fun y : SG => y.2.2.1) a2
    have c4 : hvw μ2 = σ.2.2.2 := congrArg (fun y : SG => y.2.2.2) a2
    have h0 : vw μ3 = ((upd (μ2 96) dev.toNatClampNeg 0, μ2 97, μ2 98, μ2 99, μ2 100, μ2 101, μ2 106, μ2 107, μ2 108, μ2 109, μ2 95 22), hvw μ2) := by rw [e3]; rfl
    rw [h0, c1, c2, c3, c4, a1.2.1, a1.1 96 (by unfold kp; omega), a1.1 97 (by unfold kp; omega), a1.1 98 (by unfold kp; omega), a1.1 106 (by unfold kp; omega), a1.1 107 (by unfold kp; omega), a1.1 108 (by unfold kp; omega), a1.1 109 (by unfold kp; omega)]
  refine ⟨fun a ha => k a (by omega) (by unfold kp; omega), ⟨?_, fun e he => ?_⟩, rfl⟩
  · show vw μ3 = sEnd (vw μ) (dev.toNatClampNeg) dev
    rw [hw]
    rcases hA with ⟨p0, rfl⟩ | ⟨t, p0, q⟩
    · rw [sEnd_n p0]; rfl
    · rw [sEnd_s p0, sMsg]
      rcases q with ⟨c1, rfl⟩ | ⟨c1, q⟩
      · rw [if_pos (show t.1 = 81 ∨ t.2.1 = lD (vw μ) (dev.toNatClampNeg) from c1)]; rfl
      · rw [if_neg (show ¬ (t.1 = 81 ∨ t.2.1 = lD (vw μ) (dev.toNatClampNeg)) from c1)]
        rcases q with ⟨c2, rfl⟩ | ⟨c2, rfl⟩
        · rw [if_pos (show (¬ t.1 = 83 ∧ lG (vw μ) (dev.toNatClampNeg) = 0) ∨ bd t from c2)]; rfl
        · rw [if_neg (show ¬ ((¬ t.1 = 83 ∧ lG (vw μ) (dev.toNatClampNeg) = 0) ∨ bd t) from c2)]; rfl
  · rw [xk e3 (by decide), xk e3 (by decide)]
    by_cases q : e = dev.toNatClampNeg
    · rw [q]; exact ⟨a4, a3⟩
    · rw [(a1.2.2 e q).1, (a1.2.2 e q).2]; exact hT e he
end OPM
set_option maxHeartbeats 1000000 in
set_option maxRecDepth 20000 in
theorem q_octet (X : xD) (Ex : State → Prop) (hE : xEs X false shA.length Ex) (μ : xM) (dev b : Int32) {v : VT} {n : Nat} (hn : n + 30 < 2 ^ 20) (hV : Vm μ v) (hD : VD n v) : Ct X Ex false yX6_octet kX6_octet (rmN 4) [.ref (X.2 + 95), .int dev, .int b] shA μ (fun r sh' μ' => shA = sh' ∧ Kl μ μ' ∧ Vm μ' ((oOct dev b v).1) ∧ r = some (.int ((oOct dev b v).2))) := by
  refine Ct.of (L0 := [some (.ref (X.2 + 95)), some (.int dev), some (.int b)]) (by decide) rfl (fun h => by cases h) (by simp [Value.category]) (Nat.le_of_ble_eq_true rfl) rfl (fun l => ?_)
  refine sx_aload_n (pc := 0) dX6_octet_0 rfl rfl ?_
  refine sx_iconst (pc := 1) (v := 0) dX6_octet_1 (by decide) ?_
  refine sx_puti (pc := 2) (ci := 6) (j := 0) (ty := .int) dX6_octet_2 rfl s_Mo rfl (by decide) lf_X6_72 rfl (by decide +kernel) rfl rfl (fun μ1 hμ1 => ?_)
  obtain ⟨hV1, hK1⟩ := hV.thr hμ1
  refine sx_iload_n (pc := 5) dX6_octet_5 rfl rfl ?_
  refine sx_callS (pc := 6) (As := [.int dev]) dX6_octet_6 (c_isDevice X Ex hE μ1 _) mX6_isDevice lm_X6_171 rfl ⟨Nat.le_of_ble_eq_true rfl, Nat.le_of_ble_eq_true rfl⟩ ⟨Nat.le_of_ble_eq_true rfl, Nat.le_of_ble_eq_true rfl⟩ (Nat.le_of_ble_eq_true rfl) hE (fun r_6 sh1 μ2 h_6 => ?_)
  obtain ⟨rfl, rfl, x_6, rfl, hx_6⟩ := h_6
  refine sx_if_ne (pc := 9) (tgt := 14) dX6_octet_9 (by decide) (fun c_9 => ?_) (fun c_9 => ?_)
  · have h_9t := c_9
    have hb := isB_t hx_6 h_9t
    have hd := clamp_lt (n := 6) hb.1 hb.2 (by decide)
    have h98 : μ1 98 dev.toNatClampNeg = lB v dev.toNatClampNeg := congrArg (fun y : VT => lB y dev.toNatClampNeg) hV1.1
    have h96 : μ1 96 dev.toNatClampNeg = lS v dev.toNatClampNeg := congrArg (fun y : VT => lS y dev.toNatClampNeg) hV1.1
    obtain ⟨z, hz2, hz⟩ := nI_of2 (x := lS v dev.toNatClampNeg) (M := 60) (n := 60) rfl (Int32.not_lt.mpr (hD.1 _ hd).2.2.1.1) (hD.1 _ hd).2.2.1.2
    refine sx_aload_n (pc := 14) dX6_octet_14 rfl rfl ?_
    refine sx_getr (pc := 15) (ci := 6) (j := 3) (r := 98) dX6_octet_15 rfl s_Mo rfl (by decide) lf_X6_17 ?_
    refine sx_iload_n (pc := 18) dX6_octet_18 rfl rfl ?_
    refine sx_zald (pc := 19) dX6_octet_19 s_M3 (by decide) rfl (vp_in_lt (n := 6) hb.1 hb.2 (by decide)) ?_
    refine sx_if_eq (pc := 20) (tgt := 26) dX6_octet_20 (by decide) (fun c_20 => ?_) (fun c_20 => ?_)
    · have h_20t := c_20
      refine sx_iload_n (pc := 26) dX6_octet_26 rfl rfl ?_
      refine sx_sipush (pc := 27) (v := 255) dX6_octet_27 (by decide) ?_
      refine sx_iand (pc := 30) dX6_octet_30 ?_
      refine sx_bipush (pc := 31) (v := 13) dX6_octet_31 (by decide) ?_
      refine sx_icmp_ne (pc := 33) (tgt := 50) dX6_octet_33 (by decide) (fun c_33 => ?_) (fun c_33 => ?_)
      · have h_33t := c_33
        refine sx_aload_n (pc := 50) dX6_octet_50 rfl rfl ?_
        refine sx_getr (pc := 51) (ci := 6) (j := 1) (r := 96) dX6_octet_51 rfl s_Mo rfl (by decide) lf_X6_7 ?_
        refine sx_iload_n (pc := 54) dX6_octet_54 rfl rfl ?_
        refine sx_iald (pc := 55) dX6_octet_55 s_M1 (by decide) rfl (vp_in_lt (n := 6) hb.1 hb.2 (by decide)) ?_
        refine sx_bipush (pc := 56) (v := 60) dX6_octet_56 (by decide) ?_
        refine sx_icmp_ne (pc := 58) (tgt := 71) dX6_octet_58 (by decide) (fun c_58 => ?_) (fun c_58 => ?_)
        · have h_58t := c_58
          refine sx_aload_n (pc := 71) dX6_octet_71 rfl rfl ?_
          refine sx_getr (pc := 72) (ci := 6) (j := 2) (r := 97) dX6_octet_72 rfl s_Mo rfl (by decide) lf_X6_13 ?_
          refine sx_bipush (pc := 75) (v := 60) dX6_octet_75 (by decide) ?_
          refine sx_iload_n (pc := 77) dX6_octet_77 rfl rfl ?_
          refine sx_imul (pc := 78) dX6_octet_78 ?_
          refine sx_aload_n (pc := 79) dX6_octet_79 rfl rfl ?_
          refine sx_getr (pc := 80) (ci := 6) (j := 1) (r := 96) dX6_octet_80 rfl s_Mo rfl (by decide) lf_X6_7 ?_
          refine sx_iload_n (pc := 83) dX6_octet_83 rfl rfl ?_
          refine sx_iald (pc := 84) dX6_octet_84 s_M1 (by decide) rfl (vp_in_lt (n := 6) hb.1 hb.2 (by decide)) ?_
          refine sx_iadd (pc := 85) dX6_octet_85 ?_
          refine sx_iload_n (pc := 86) dX6_octet_86 rfl rfl ?_
          refine sx_i2b (pc := 87) dX6_octet_87 rfl ?_
          refine sx_bast (pc := 88) rfl dX6_octet_88 s_M2 (by decide) rfl (by have e9 : _ = nI z := h96.trans hz; have h60 := h_58t; rw [show μ1 96 dev.toNatClampNeg = nI z from e9] at h60 ⊢; have : z < 60 := Nat.lt_of_not_le (fun q => h60 (by rw [show z = 60 by omega]; rfl)); exact ix_mul hb 60 z 360 (fun k hk => by omega) (by decide) (by decide)) (fun μ3 hμ3 => ?_)
          have e88 := hμ3
          refine sx_aload_n (pc := 89) dX6_octet_89 rfl rfl ?_
          refine sx_getr (pc := 90) (ci := 6) (j := 1) (r := 96) dX6_octet_90 rfl s_Mo rfl (by decide) lf_X6_7 ?_
          refine sx_iload_n (pc := 93) dX6_octet_93 rfl rfl ?_
          refine sx_dup2 (pc := 94) dX6_octet_94 rfl rfl ?_
          refine sx_iald (pc := 95) dX6_octet_95 s_M1 (by decide) rfl (vp_in_lt (n := 6) hb.1 hb.2 (by decide)) ?_
          refine sx_iconst (pc := 96) (v := 1) dX6_octet_96 (by decide) ?_
          refine sx_iadd (pc := 97) dX6_octet_97 ?_
          refine sx_iast (pc := 98) dX6_octet_98 s_M1 (by decide) rfl (vp_in_lt (n := 6) hb.1 hb.2 (by decide)) (fun μ4 hμ4 => ?_)
          obtain ⟨g1, g2, g3⟩ := om_take (b := b) hV1 hD hb h_20t h_33t e88 hμ4 h_58t
          refine sx_aload_n (pc := 99) dX6_octet_99 rfl rfl ?_
          refine sx_getr (pc := 100) (ci := 6) (j := 1) (r := 96) dX6_octet_100 rfl s_Mo rfl (by decide) lf_X6_7 ?_
          refine sx_iload_n (pc := 103) dX6_octet_103 rfl rfl ?_
          refine sx_iald (pc := 104) dX6_octet_104 s_M1 (by decide) rfl (vp_in_lt (n := 6) hb.1 hb.2 (by decide)) ?_
          exact sx_iret (pc := 105) dX6_octet_105 rfl rfl (Nat.zero_le _) (Nat.zero_le _) (⟨rfl, hK1.tr g1, g2, by rw [g3]⟩)
        · have h_58f := c_58
          refine sx_aload_n (pc := 61) dX6_octet_61 rfl rfl ?_
          refine sx_getr (pc := 62) (ci := 6) (j := 3) (r := 98) dX6_octet_62 rfl s_Mo rfl (by decide) lf_X6_17 ?_
          refine sx_iload_n (pc := 65) dX6_octet_65 rfl rfl ?_
          refine sx_iconst (pc := 66) (v := 1) dX6_octet_66 (by decide) ?_
          refine sx_zast (pc := 67) rfl dX6_octet_67 s_M3 (by decide) rfl (vp_in_lt (n := 6) hb.1 hb.2 (by decide)) (fun μ5 hμ5 => ?_)
          obtain ⟨g1, g2, g3⟩ := om_brk (b := b) hV1 hb h_20t h_33t (by decide) hμ5 h_58f
          refine sx_bipush (pc := 68) (v := (-2)) dX6_octet_68 (by decide) ?_
          exact sx_iret (pc := 70) dX6_octet_70 rfl rfl (Nat.zero_le _) (Nat.zero_le _) (⟨rfl, hK1.tr g1, g2, by rw [g3]⟩)
      · have h_33f := c_33
        refine sx_aload_n (pc := 36) dX6_octet_36 rfl rfl ?_
        refine sx_iload_n (pc := 37) dX6_octet_37 rfl rfl ?_
        refine sx_callV (pc := 38) (As := [.int dev]) dX6_octet_38 (c_answers X Ex hE μ1 _ hb z n hz2 (by omega) (by have e9 := h96.trans hz; exact e9) (f := sgf v dev.toNatClampNeg) (fun j hj => congrArg (fun y : VT => sgf y dev.toNatClampNeg j) hV1.1) (by rw [show hvw _ = v.2 from congrArg (fun y : VT => y.2) hV1.1]; exact hD.2.2.2) (hV1.2 _ hd).1 (hV1.2 _ hd).2) mX6_answers lm_X6_174 rfl s_Mo rfl ⟨Nat.le_of_ble_eq_true rfl, Nat.le_of_ble_eq_true rfl⟩ ⟨Nat.le_of_ble_eq_true rfl, Nat.le_of_ble_eq_true rfl⟩ (Nat.le_of_ble_eq_true rfl) hE (fun r_38 sh1 μ6 h_38 => ?_)
        obtain ⟨rfl, rfl, σ9, i_38, a_38⟩ := h_38
        refine sx_aload_n (pc := 41) dX6_octet_41 rfl rfl ?_
        refine sx_getr (pc := 42) (ci := 6) (j := 1) (r := 96) dX6_octet_42 rfl s_Mo rfl (by decide) lf_X6_7 ?_
        refine sx_iload_n (pc := 45) dX6_octet_45 rfl rfl ?_
        refine sx_iconst (pc := 46) (v := 0) dX6_octet_46 (by decide) ?_
        refine sx_iast (pc := 47) dX6_octet_47 s_M1 (by decide) rfl (vp_in_lt (n := 6) hb.1 hb.2 (by decide)) (fun μ7 hμ7 => ?_)
        obtain ⟨g1, g2, g3⟩ := om_end (b := b) hV1 hb h_20t h_33f i_38 (by rw [hz, nI_clamp (by omega)]; exact a_38) hμ7
        refine sx_iconst (pc := 48) (v := 0) dX6_octet_48 (by decide) ?_
        exact sx_iret (pc := 49) dX6_octet_49 rfl rfl (Nat.zero_le _) (Nat.zero_le _) (⟨rfl, hK1.tr g1, g2, by rw [g3]⟩)
    · have h_20f := c_20
      refine sx_bipush (pc := 23) (v := (-2)) dX6_octet_23 (by decide) ?_
      exact sx_iret (pc := 25) dX6_octet_25 rfl rfl (Nat.zero_le _) (Nat.zero_le _) (by have q : oOct dev b v = (v, (-2)) := (by rw [oOct, if_pos hb, if_neg (fun y => h_20f (h98.trans y))]); exact ⟨rfl, hK1, by rw [q]; exact hV1, by rw [q]⟩)
  · have h_9f := c_9
    refine sx_iconst (pc := 12) (v := (-1)) dX6_octet_12 (by decide) ?_
    exact sx_iret (pc := 13) dX6_octet_13 rfl rfl (Nat.zero_le _) (Nat.zero_le _) (⟨rfl, hK1, by rw [oOct, if_neg (isB_f hx_6 h_9f)]; exact hV1, by rw [oOct, if_neg (isB_f hx_6 h_9f)]⟩)
