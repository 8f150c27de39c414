/-! the public methods of the reference -/
theorem xk {μ μ' : xM} {k j : Nat} {v : Int32} (e : μ' = xup μ k j v) {a : Nat} (h : a ≠ k) : μ' a = μ a := by
  rw [e]; funext b; rw [xup_at, if_neg (fun q => h q.1)]
theorem xv {μ μ' : xM} {k j : Nat} {v : Int32} (e : μ' = xup μ k j v) : μ' k j = v := by rw [e, xup_at, if_pos ⟨rfl, rfl⟩]
theorem xo {μ μ' : xM} {k j : Nat} {v : Int32} (e : μ' = xup μ k j v) {i : Nat} (h : i ≠ j) : μ' k i = μ k i := by rw [e, xup_at, if_neg (fun q => h q.2)]
def TK (μ : xM) : Prop := ∀ d, d < 6 → (∃ t, t ≤ 30 ∧ μ 102 d = nI t) ∧ ∃ t, t ≤ 30 ∧ μ 104 d = nI t
def Lm (μ : xM) (v : VT) (d : Nat) : Prop := μ 98 d = v.2.1 d ∧ (v.2.1 d = 0 → μ 96 d = v.1 d) ∧ (∃ z, z ≤ 60 ∧ μ 96 d = nI z) ∧ μ 106 d = v.2.2.1 d
def RR (μ : xM) : Prop := ∀ j, j < 120 → (0 ≤ μ 108 j ∧ μ 108 j < 30) ∧ 0 ≤ μ 109 j ∧ μ 109 j < 30
def Vm (μ : xM) (v : VT) (n : Nat) : Prop := (∀ d, d < 6 → Lm μ v d) ∧ μ 95 22 = v.2.2.2 ∧ RR μ ∧ TK μ ∧ WQ μ ∧ AB n μ
def Kl (μ μ' : xM) : Prop := ∀ a, a < 95 ∨ 115 < a → μ' a = μ a
theorem Vm.upd {μ μ' : xM} {v v' : VT} {n m d : Nat} (h : Vm μ v n) (hs : μ' 95 22 = v'.2.2.2) (hr : RR μ') (hT : TK μ') (hW : WQ μ') (hA : AB m μ') (ho : ∀ e, e < 6 → e ≠ d → μ' 96 e = μ 96 e ∧ μ' 98 e = μ 98 e ∧ μ' 106 e = μ 106 e) (hv : ∀ e, e ≠ d → v'.1 e = v.1 e ∧ v'.2.1 e = v.2.1 e ∧ v'.2.2.1 e = v.2.2.1 e) (hl : Lm μ' v' d) : Vm μ' v' m := by
  refine ⟨fun e he => ?_, hs, hr, hT, hW, hA⟩
  by_cases q : e = d
  · rw [q]; exact hl
  · obtain ⟨a1, a2, a3⟩ := ho e he q
    obtain ⟨b1, b2, b3⟩ := hv e q
    have hh := h.1 e he
    unfold Lm at hh ⊢
    rw [a1, a2, a3, b1, b2, b3]
    exact hh
theorem Vm.same {μ μ' : xM} {v : VT} {n m : Nat} (h : Vm μ v n) (hm : n ≤ m) (hk : ∀ a, a = 96 ∨ a = 98 ∨ a = 102 ∨ a = 104 ∨ a = 106 ∨ a = 108 ∨ a = 109 ∨ a = 113 ∨ a = 114 → μ' a = μ a) (h22 : μ' 95 22 = μ 95 22) (h20 : μ' 95 20 = μ 95 20) : Vm μ' v m := by
  refine ⟨fun e he => ?_, h22.trans h.2.1, ?_, ?_, h.2.2.2.2.1.same (hk 113 (by omega)) (hk 114 (by omega)), ab_mono (ab_of h.2.2.2.2.2 h20) hm⟩
  · have hh := h.1 e he
    unfold Lm at hh ⊢
    rw [hk 96 (by omega), hk 98 (by omega), hk 106 (by omega)]
    exact hh
  · have hh := h.2.2.1
    unfold RR at hh ⊢
    rw [hk 108 (by omega), hk 109 (by omega)]
    exact hh
  · have hh := h.2.2.2.1
    unfold TK at hh ⊢
    rw [hk 102 (by omega), hk 104 (by omega)]
    exact hh
theorem Vm.thr {μ μ' : xM} {v : VT} {n : Nat} {w : Int32} (h : Vm μ v n) (e : μ' = xup μ 95 0 w) : Vm μ' v n ∧ Kl μ μ' :=
  ⟨h.same (Nat.le_refl _) (fun a ha => xk e (by omega)) (xo e (by decide)) (xo e (by decide)), fun a ha => xk e (by omega)⟩
section OPM
variable {μ μ1 μ2 μ3 : xM} {v : VT} {n : Nat} {dev b : Int32}
theorem om_bkn (hV : Vm μ v n) (hb : 0 ≤ dev ∧ dev < 6) (hz : ¬ μ 98 dev.toNatClampNeg = 0) : oOct dev b v = (v, (-2)) := by
  have hd := clamp_lt (n := 6) hb.1 hb.2 (by decide)
  rw [oOct, if_pos hb, if_neg (by rw [← (hV.1 _ hd).1]; exact hz)]
theorem om_take (hV : Vm μ v n) (hb : 0 ≤ dev ∧ dev < 6) (hz : μ 98 dev.toNatClampNeg = 0) (h13 : ¬ b &&& 255 = 13) {j : Nat} {w : Int32} (e2 : μ2 = xup μ 97 j w) (e3 : μ3 = xup μ2 96 dev.toNatClampNeg (μ2 96 dev.toNatClampNeg + 1)) (h60 : ¬ μ 96 dev.toNatClampNeg = 60) : Kl μ μ3 ∧ Vm μ3 (oOct dev b v).1 (n + 20) ∧ μ3 96 dev.toNatClampNeg = (oOct dev b v).2 := by
  have hd := clamp_lt (n := 6) hb.1 hb.2 (by decide)
  have hl := hV.1 _ hd
  unfold Lm at hl
  have hz2 := hl.1.symm.trans hz
  have hc := hl.2.1 hz2
  have e96 : μ2 96 dev.toNatClampNeg = μ 96 dev.toNatClampNeg := by rw [xk e2 (by decide)]
  rw [hc] at h60
  obtain ⟨z, hz1, hz3⟩ := hl.2.2.1
  have hz60 : z < 60 := by
    refine Nat.lt_of_not_le fun q => h60 ?_
    have : z = 60 := by omega
    rw [← hc, hz3, this]
    rfl
  have k : ∀ a, a ≠ 96 → a ≠ 97 → μ3 a = μ a := fun a a1 a2 => (xk e3 a1).trans (xk e2 a2)
  rw [oOct, if_pos hb, if_pos hz2, if_neg h13, if_neg h60]
  refine ⟨fun a ha => k a (by omega) (by omega), hV.upd (by rw [k 95 (by decide) (by decide)]; exact hV.2.1) (by unfold RR; rw [k 108 (by decide) (by decide), k 109 (by decide) (by decide)]; exact hV.2.2.1) (by unfold TK; rw [k 102 (by decide) (by decide), k 104 (by decide) (by decide)]; exact hV.2.2.2.1) (hV.2.2.2.2.1.same (k 113 (by decide) (by decide)) (k 114 (by decide) (by decide))) (ab_mono (ab_of hV.2.2.2.2.2 (by rw [k 95 (by decide) (by decide)])) (by omega)) (fun e he hne => ⟨by rw [xo e3 hne, xk e2 (by decide)], by rw [k 98 (by decide) (by decide)], by rw [k 106 (by decide) (by decide)]⟩) (fun e he => ⟨pk_un he, rfl, rfl⟩) ⟨by rw [k 98 (by decide) (by decide)]; exact hl.1, fun _ => by rw [xv e3, e96, hc]; exact pk_us.symm, ⟨z + 1, by omega, by rw [xv e3, e96, hz3, nI_1]⟩, by rw [k 106 (by decide) (by decide)]; exact hl.2.2.2⟩, by rw [xv e3, e96, hc]⟩
theorem om_brk (hV : Vm μ v n) (hb : 0 ≤ dev ∧ dev < 6) (hz : μ 98 dev.toNatClampNeg = 0) (h13 : ¬ b &&& 255 = 13) {w : Int32} (hw : w = 1) (e2 : μ2 = xup μ 98 dev.toNatClampNeg w) (h60 : μ 96 dev.toNatClampNeg = 60) : Kl μ μ2 ∧ Vm μ2 (oOct dev b v).1 (n + 20) ∧ (oOct dev b v).2 = (-2) := by
  have hd := clamp_lt (n := 6) hb.1 hb.2 (by decide)
  have hl := hV.1 _ hd
  unfold Lm at hl
  have hz2 := hl.1.symm.trans hz
  have hc := hl.2.1 hz2
  rw [hc] at h60
  have k : ∀ a, a ≠ 98 → μ2 a = μ a := fun a a1 => xk e2 a1
  rw [oOct, if_pos hb, if_pos hz2, if_neg h13, if_pos h60]
  refine ⟨fun a ha => k a (by omega), hV.upd (by rw [k 95 (by decide)]; exact hV.2.1) (by unfold RR; rw [k 108 (by decide), k 109 (by decide)]; exact hV.2.2.1) (by unfold TK; rw [k 102 (by decide), k 104 (by decide)]; exact hV.2.2.2.1) (hV.2.2.2.2.1.same (k 113 (by decide)) (k 114 (by decide))) (ab_mono (ab_of hV.2.2.2.2.2 (by rw [k 95 (by decide)])) (by omega)) (fun e he hne => ⟨by rw [k 96 (by decide)], by rw [xo e2 hne], by rw [k 106 (by decide)]⟩) (fun e he => ⟨rfl, pk_un he, rfl⟩) ⟨by rw [xv e2, hw]; exact pk_us.symm, fun q => absurd (pk_us.symm.trans q) (by decide), by rw [k 96 (by decide)]; exact hl.2.2.1, by rw [k 106 (by decide)]; exact hl.2.2.2⟩, rfl⟩
theorem om_end (hV : Vm μ v n) (hb : 0 ≤ dev ∧ dev < 6) (hz : μ 98 dev.toNatClampNeg = 0) (h13 : b &&& 255 = 13) (hI : IE dev.toNatClampNeg (n + 1) μ μ2) (e3 : μ3 = xup μ2 96 dev.toNatClampNeg 0) : Kl μ μ3 ∧ Vm μ3 (oOct dev b v).1 (n + 20) ∧ (oOct dev b v).2 = 0 := by
  have hd := clamp_lt (n := 6) hb.1 hb.2 (by decide)
  have hl := hV.1 _ hd
  unfold Lm at hl
  have hz2 := hl.1.symm.trans hz
  obtain ⟨hA, hW, hAB, hkp, htl⟩ := hI
  have k : ∀ a, a ≠ 96 → kp a → μ3 a = μ a := fun a a1 a2 => (xk e3 a1).trans (hA.1 a a2)
  rw [oOct, if_pos hb, if_pos hz2, if_pos h13]
  refine ⟨fun a ha => k a (by omega) (by unfold kp; omega), hV.upd (by rw [xk e3 (by decide), hA.2.1]; exact hV.2.1) (by unfold RR; rw [k 108 (by decide) (by unfold kp; omega), k 109 (by decide) (by unfold kp; omega)]; exact hV.2.2.1) (fun e he => ?_) (hW.same (xk e3 (by decide)) (xk e3 (by decide))) (ab_mono (ab_of hAB (by rw [xk e3 (by decide)])) (by omega)) (fun e he hne => ⟨by rw [xo e3 hne, hA.1 96 (by unfold kp; omega)], by rw [k 98 (by decide) (by unfold kp; omega)], by rw [k 106 (by decide) (by unfold kp; omega)]⟩) (fun e he => ⟨pk_un he, rfl, rfl⟩) ⟨by rw [k 98 (by decide) (by unfold kp; omega)]; exact hl.1, fun _ => by rw [xv e3]; exact pk_us.symm, ⟨0, by omega, by rw [xv e3]; rfl⟩, by rw [k 106 (by decide) (by unfold kp; omega)]; exact hl.2.2.2⟩, rfl⟩
  rw [xk e3 (by decide), xk e3 (by decide)]
  by_cases q : e = dev.toNatClampNeg
  · rw [q]; exact ⟨htl, hkp⟩
  · rw [(hA.2.2 e q).1, (hA.2.2 e q).2]; exact hV.2.2.2.1 e he
end OPM
theorem Vm.mono {μ : xM} {v : VT} {n m : Nat} (h : Vm μ v n) (hm : n ≤ m) : Vm μ v m := ⟨h.1, h.2.1, h.2.2.1, h.2.2.2.1, h.2.2.2.2.1, ab_mono h.2.2.2.2.2 hm⟩
theorem Kl.tr {μ μ1 μ2 : xM} (h : Kl μ μ1) (h' : Kl μ1 μ2) : Kl μ μ2 := fun a ha => (h' a ha).trans (h a ha)
set_option maxHeartbeats 1000000 in
set_option maxRecDepth 20000 in
theorem q_octet (X : xD) (Ex : State → Prop) (hE : xEs X false shA.length Ex) (μ : xM) (dev b : Int32) {v : VT} (n : Nat) (hn : n + 30 < 2 ^ 20) (hV : Vm μ v n) : Ct X Ex false yX6_octet kX6_octet (rmN 4) [.ref (X.2 + 95), .int dev, .int b] shA μ (fun r sh' μ' => shA = sh' ∧ Kl μ μ' ∧ Vm μ' ((oOct dev b v).1) (n + 20) ∧ r = some (.int ((oOct dev b v).2))) := by
  refine Ct.of (L0 := [some (.ref (X.2 + 95)), some (.int dev), some (.int b)]) (by decide) rfl (fun h => by cases h) (by simp [Value.category]) (Nat.le_of_ble_eq_true rfl) rfl (fun l => ?_)
  refine sx_aload_n (pc := 0) dX6_octet_0 rfl rfl ?_
  refine sx_iconst (pc := 1) (v := 0) dX6_octet_1 (by decide) ?_
  refine sx_puti (pc := 2) (ci := 6) (j := 0) (ty := .int) dX6_octet_2 rfl s_Mo rfl (by decide) lf_X6_72 rfl (by decide +kernel) rfl rfl (fun μ1 hμ1 => ?_)
  obtain ⟨hV1, hK1⟩ := hV.thr hμ1
  refine sx_iload_n (pc := 5) dX6_octet_5 rfl rfl ?_
  refine sx_callS (pc := 6) (As := [.int dev]) dX6_octet_6 (c_isDevice X Ex hE μ1 _) mX6_isDevice lm_X6_171 rfl ⟨Nat.le_of_ble_eq_true rfl, Nat.le_of_ble_eq_true rfl⟩ ⟨Nat.le_of_ble_eq_true rfl, Nat.le_of_ble_eq_true rfl⟩ (Nat.le_of_ble_eq_true rfl) hE (fun r_6 sh1 μ2 h_6 => ?_)
  obtain ⟨rfl, rfl, x_6, rfl, hx_6⟩ := h_6
  refine sx_if_ne (pc := 9) (tgt := 14) dX6_octet_9 (by decide) (fun c_9 => ?_) (fun c_9 => ?_)
  · have h_9t := c_9
    have hb := isB_t hx_6 h_9t
    have hd := clamp_lt (n := 6) hb.1 hb.2 (by decide)
    refine sx_aload_n (pc := 14) dX6_octet_14 rfl rfl ?_
    refine sx_getr (pc := 15) (ci := 6) (j := 3) (r := 98) dX6_octet_15 rfl s_Mo rfl (by decide) lf_X6_17 ?_
    refine sx_iload_n (pc := 18) dX6_octet_18 rfl rfl ?_
    refine sx_zald (pc := 19) dX6_octet_19 s_M3 (by decide) rfl (vp_in_lt (n := 6) hb.1 hb.2 (by decide)) ?_
    refine sx_if_eq (pc := 20) (tgt := 26) dX6_octet_20 (by decide) (fun c_20 => ?_) (fun c_20 => ?_)
    · have h_20t := c_20
      refine sx_iload_n (pc := 26) dX6_octet_26 rfl rfl ?_
      refine sx_sipush (pc := 27) (v := 255) dX6_octet_27 (by decide) ?_
      refine sx_iand (pc := 30) dX6_octet_30 ?_
      refine sx_bipush (pc := 31) (v := 13) dX6_octet_31 (by decide) ?_
      refine sx_icmp_ne (pc := 33) (tgt := 50) dX6_octet_33 (by decide) (fun c_33 => ?_) (fun c_33 => ?_)
      · have h_33t := c_33
        refine sx_aload_n (pc := 50) dX6_octet_50 rfl rfl ?_
        refine sx_getr (pc := 51) (ci := 6) (j := 1) (r := 96) dX6_octet_51 rfl s_Mo rfl (by decide) lf_X6_7 ?_
        refine sx_iload_n (pc := 54) dX6_octet_54 rfl rfl ?_
        refine sx_iald (pc := 55) dX6_octet_55 s_M1 (by decide) rfl (vp_in_lt (n := 6) hb.1 hb.2 (by decide)) ?_
        refine sx_bipush (pc := 56) (v := 60) dX6_octet_56 (by decide) ?_
        refine sx_icmp_ne (pc := 58) (tgt := 71) dX6_octet_58 (by decide) (fun c_58 => ?_) (fun c_58 => ?_)
        · have h_58t := c_58
          refine sx_aload_n (pc := 71) dX6_octet_71 rfl rfl ?_
          refine sx_getr (pc := 72) (ci := 6) (j := 2) (r := 97) dX6_octet_72 rfl s_Mo rfl (by decide) lf_X6_13 ?_
          refine sx_bipush (pc := 75) (v := 60) dX6_octet_75 (by decide) ?_
          refine sx_iload_n (pc := 77) dX6_octet_77 rfl rfl ?_
          refine sx_imul (pc := 78) dX6_octet_78 ?_
          refine sx_aload_n (pc := 79) dX6_octet_79 rfl rfl ?_
          refine sx_getr (pc := 80) (ci := 6) (j := 1) (r := 96) dX6_octet_80 rfl s_Mo rfl (by decide) lf_X6_7 ?_
          refine sx_iload_n (pc := 83) dX6_octet_83 rfl rfl ?_
          refine sx_iald (pc := 84) dX6_octet_84 s_M1 (by decide) rfl (vp_in_lt (n := 6) hb.1 hb.2 (by decide)) ?_
          refine sx_iadd (pc := 85) dX6_octet_85 ?_
          refine sx_iload_n (pc := 86) dX6_octet_86 rfl rfl ?_
          refine sx_i2b (pc := 87) dX6_octet_87 rfl ?_
          refine sx_bast (pc := 88) rfl dX6_octet_88 s_M2 (by decide) rfl (by obtain ⟨z, hz2, hz⟩ := (hV1.1 _ hd).2.2.1; have h60 := h_58t; rw [hz] at h60 ⊢; have : z < 60 := Nat.lt_of_not_le (fun q => h60 (by rw [show z = 60 by omega]; rfl)); exact ix_mul hb 60 z 360 (fun k hk => by omega) (by decide) (by decide)) (fun μ3 hμ3 => ?_)
          have e88 := hμ3
          refine sx_aload_n (pc := 89) dX6_octet_89 rfl rfl ?_
          refine sx_getr (pc := 90) (ci := 6) (j := 1) (r := 96) dX6_octet_90 rfl s_Mo rfl (by decide) lf_X6_7 ?_
          refine sx_iload_n (pc := 93) dX6_octet_93 rfl rfl ?_
          refine sx_dup2 (pc := 94) dX6_octet_94 rfl rfl ?_
          refine sx_iald (pc := 95) dX6_octet_95 s_M1 (by decide) rfl (vp_in_lt (n := 6) hb.1 hb.2 (by decide)) ?_
          refine sx_iconst (pc := 96) (v := 1) dX6_octet_96 (by decide) ?_
          refine sx_iadd (pc := 97) dX6_octet_97 ?_
          refine sx_iast (pc := 98) dX6_octet_98 s_M1 (by decide) rfl (vp_in_lt (n := 6) hb.1 hb.2 (by decide)) (fun μ4 hμ4 => ?_)
          obtain ⟨g1, g2, g3⟩ := om_take (b := b) hV1 hb h_20t h_33t e88 hμ4 h_58t
          refine sx_aload_n (pc := 99) dX6_octet_99 rfl rfl ?_
          refine sx_getr (pc := 100) (ci := 6) (j := 1) (r := 96) dX6_octet_100 rfl s_Mo rfl (by decide) lf_X6_7 ?_
          refine sx_iload_n (pc := 103) dX6_octet_103 rfl rfl ?_
          refine sx_iald (pc := 104) dX6_octet_104 s_M1 (by decide) rfl (vp_in_lt (n := 6) hb.1 hb.2 (by decide)) ?_
          exact sx_iret (pc := 105) dX6_octet_105 rfl rfl (Nat.zero_le _) (Nat.zero_le _) (⟨rfl, hK1.tr g1, g2, by rw [g3]⟩)
        · have h_58f := c_58
          refine sx_aload_n (pc := 61) dX6_octet_61 rfl rfl ?_
          refine sx_getr (pc := 62) (ci := 6) (j := 3) (r := 98) dX6_octet_62 rfl s_Mo rfl (by decide) lf_X6_17 ?_
          refine sx_iload_n (pc := 65) dX6_octet_65 rfl rfl ?_
          refine sx_iconst (pc := 66) (v := 1) dX6_octet_66 (by decide) ?_
          refine sx_zast (pc := 67) rfl dX6_octet_67 s_M3 (by decide) rfl (vp_in_lt (n := 6) hb.1 hb.2 (by decide)) (fun μ5 hμ5 => ?_)
          obtain ⟨g1, g2, g3⟩ := om_brk (b := b) hV1 hb h_20t h_33t (by decide) hμ5 h_58f
          refine sx_bipush (pc := 68) (v := (-2)) dX6_octet_68 (by decide) ?_
          exact sx_iret (pc := 70) dX6_octet_70 rfl rfl (Nat.zero_le _) (Nat.zero_le _) (⟨rfl, hK1.tr g1, g2, by rw [g3]⟩)
      · have h_33f := c_33
        obtain ⟨z, hz2, hz⟩ := (hV1.1 _ hd).2.2.1
        refine sx_aload_n (pc := 36) dX6_octet_36 rfl rfl ?_
        refine sx_iload_n (pc := 37) dX6_octet_37 rfl rfl ?_
        refine sx_callV (pc := 38) (As := [.int dev]) dX6_octet_38 (c_answers X Ex hE μ1 _ hb z n hz2 (by omega) hz hV1.2.2.2.2.1 hV1.2.2.2.2.2 (hV1.2.2.2.1 _ hd).1 (hV1.2.2.2.1 _ hd).2) mX6_answers lm_X6_174 rfl s_Mo rfl ⟨Nat.le_of_ble_eq_true rfl, Nat.le_of_ble_eq_true rfl⟩ ⟨Nat.le_of_ble_eq_true rfl, Nat.le_of_ble_eq_true rfl⟩ (Nat.le_of_ble_eq_true rfl) hE (fun r_38 sh1 μ6 h_38 => ?_)
        obtain ⟨rfl, rfl, i_38⟩ := h_38
        refine sx_aload_n (pc := 41) dX6_octet_41 rfl rfl ?_
        refine sx_getr (pc := 42) (ci := 6) (j := 1) (r := 96) dX6_octet_42 rfl s_Mo rfl (by decide) lf_X6_7 ?_
        refine sx_iload_n (pc := 45) dX6_octet_45 rfl rfl ?_
        refine sx_iconst (pc := 46) (v := 0) dX6_octet_46 (by decide) ?_
        refine sx_iast (pc := 47) dX6_octet_47 s_M1 (by decide) rfl (vp_in_lt (n := 6) hb.1 hb.2 (by decide)) (fun μ7 hμ7 => ?_)
        obtain ⟨g1, g2, g3⟩ := om_end (b := b) hV1 hb h_20t h_33f i_38 hμ7
        refine sx_iconst (pc := 48) (v := 0) dX6_octet_48 (by decide) ?_
        exact sx_iret (pc := 49) dX6_octet_49 rfl rfl (Nat.zero_le _) (Nat.zero_le _) (⟨rfl, hK1.tr g1, g2, by rw [g3]⟩)
    · have h_20f := c_20
      refine sx_bipush (pc := 23) (v := (-2)) dX6_octet_23 (by decide) ?_
      exact sx_iret (pc := 25) dX6_octet_25 rfl rfl (Nat.zero_le _) (Nat.zero_le _) (⟨rfl, hK1, by rw [om_bkn hV1 hb h_20f]; exact hV1.mono (by omega), by rw [om_bkn hV1 hb h_20f]⟩)
  · have h_9f := c_9
    refine sx_iconst (pc := 12) (v := (-1)) dX6_octet_12 (by decide) ?_
    exact sx_iret (pc := 13) dX6_octet_13 rfl rfl (Nat.zero_le _) (Nat.zero_le _) (⟨rfl, hK1, by rw [oOct, if_neg (isB_f hx_6 h_9f)]; exact hV1.mono (by omega), by rw [oOct, if_neg (isB_f hx_6 h_9f)]⟩)
