/-! the law: its loop -/
theorem Vm.ks {μ μ' : xM} {v : VT} (h : Vm μ v) (k : Ks μ μ') : Vm μ' v := ⟨(vw_eq (fun a a1 a2 _ _ _ _ => k a (by omega)) (by rw [k 95 (by decide)]) (by rw [k 95 (by decide)])).trans h.1, h.2.same (k 102 (by decide)) (k 104 (by decide))⟩
theorem Vc.of {μ μ' : xM} {v : VT} (h : Vc μ v) (k : ∀ a, a < 95 → μ' a = μ a) : Vc μ' v := by
  refine h.lines ⟨fun q hq => ?_, fun i hi => ?_⟩ (by rw [k 0 (by decide)]; exact h.2.1) (fun a a1 a2 => k a (by omega)) (fun _ _ => Lv.rf) (h.2.2.2.same (fun a a1 a2 => k a (by omega)))
  · have : q < 95 := by obtain ⟨d, hd, hc⟩ := hq; omega
    rw [k q this]
    exact h.2.2.1.1 q hq
  · rw [k 91 (by decide)]
    exact h.2.2.1.2 i hi
theorem Vm.o116 {μ μ' : xM} {v : VT} (h : Vm μ v) (k : ∀ a, a ≠ 116 → μ' a = μ a) : Vm μ' v := ⟨(vw_eq (μ := μ) (fun a a1 a2 _ _ _ _ => k a (by omega)) (by rw [k 95 (by decide)]) (by rw [k 95 (by decide)])).trans h.1, h.2.same (k 102 (by decide)) (k 104 (by decide))⟩
theorem sixx {c Ln : Nat} (t : Nat) (h : 5 * c + t < Ln) (hL : Ln < 2 ^ 31) : vp_in (nI (5 * c) + nI t) Ln := by rw [nI_add]; exact vp_in_nI h hL
theorem sixx1 {c Ln : Nat} (h : 5 * c + 1 < Ln) (hL : Ln < 2 ^ 31) : vp_in (nI (5 * c) + 1) Ln := by rw [show (1 : Int32) = nI 1 from rfl]; exact sixx 1 h hL
theorem sixx2 {c Ln : Nat} (h : 5 * c + 2 < Ln) (hL : Ln < 2 ^ 31) : vp_in (nI (5 * c) + 2) Ln := by rw [show (2 : Int32) = nI 2 from rfl]; exact sixx 2 h hL
theorem sixx3 {c Ln : Nat} (h : 5 * c + 3 < Ln) (hL : Ln < 2 ^ 31) : vp_in (nI (5 * c) + 3) Ln := by rw [show (3 : Int32) = nI 3 from rfl]; exact sixx 3 h hL
theorem sixx4 {c Ln : Nat} (h : 5 * c + 4 < Ln) (hL : Ln < 2 ^ 31) : vp_in (nI (5 * c) + 4) Ln := by rw [show (4 : Int32) = nI 4 from rfl]; exact sixx 4 h hL
theorem l_go {c Ln : Nat} (h : 5 * c + 5 ≤ Ln) (hL : Ln < 2 ^ 30) : ¬ nI Ln - 5 < nI (5 * c) := by
  rw [show (5 : Int32) = nI 5 from rfl, pk_sub (by omega)]; exact nI_nlt (by omega) (by omega)
theorem l_stop {c Ln : Nat} (h : Ln < 5 * c + 5) (hL : Ln < 2 ^ 30) (hc : c < 2 ^ 20) : nI Ln - 5 < nI (5 * c) := by
  rw [show (5 : Int32) = nI 5 from rfl]
  by_cases h5 : 5 ≤ Ln
  · rw [pk_sub h5]; exact nI_lt (by omega) (by omega)
  · exact Int32.lt_of_lt_of_le (pk_sneg (by decide) (by omega)) (nI_pos' (by omega))
set_option maxHeartbeats 1000000 in
set_option maxRecDepth 20000 in
theorem law_end {l : Launch} (X : xD) (bs Ln : Nat) (xs : Nat → Int32) {sk sv : Nat → Nat} {fm : Option Nat} (i : Int32) (o5 o6 : Option Value) (hi : nI Ln - 5 < i) (μ : xM) (cs ss : Nat) (h1 : cs ≤ 601024) (h2 : ss ≤ 7293034) : sx l room_1 X (EL X bs Ln xs sk sv fm) false kL_law shA.length (ZL X) 23 [some (.ref bs), some (.ref (X.2 + 0)), some (.ref (X.2 + 95)), some (.ref (X.2 + 116)), some (.int i), o5, o6] [] shA μ cs ss := by
  refine sx_iload (pc := 23) dL_law_23 rfl ?_
  refine sx_aload_n (pc := 25) dL_law_25 rfl rfl ?_
  refine sx_slen (pc := 26) dL_law_26 (fun s h => ⟨h.2.2.1, h.2.2.2.1, h.2.2.2.2.1⟩) ?_
  refine sx_iconst (pc := 27) (v := 5) dL_law_27 (by decide) ?_
  refine sx_isub (pc := 28) dL_law_28 ?_
  refine sx_icmp_gt (pc := 29) (tgt := 476) dL_law_29 (by decide) (fun _ => ?_) (fun h => absurd hi h)
  refine sx_iconst (pc := 476) (v := 1) dL_law_476 (by decide) ?_
  exact sx_lret (pc := 477) rfl dL_law_477 h1 h2
set_option maxHeartbeats 600000 in
set_option maxRecDepth 20000 in
theorem law_loop {l : Launch} (hl0 : l.stackTraces = false) (X : xD) (bs Ln : Nat) (xs : Nat → Int32) {sk sv : Nat → Nat} {fm : Option Nat} (hL : Ln ≤ 2560) : ∀ (t c : Nat) (μ : xM) (v : VT) (o5 o6 : Option Value) (cs ss : Nat), Ln ≤ 5 * (c + t) → 5 * c ≤ Ln → Vc μ v → Vm μ v → VD (20 * c) v → cs ≤ 117 + c → ss ≤ 14230 + 6 * c → sx l room_1 X (EL X bs Ln xs sk sv fm) false kL_law shA.length (ZL X) 23 [some (.ref bs), some (.ref (X.2 + 0)), some (.ref (X.2 + 95)), some (.ref (X.2 + 116)), some (.int (nI (5 * c))), o5, o6] [] shA μ cs ss := by
  have hE : xEs X false shA.length (EL X bs Ln xs sk sv fm) := EL_st
  intro t
  induction t with
  | zero =>
    intro c μ v o5 o6 cs ss ht hc hV hM hD hcs hss
    exact law_end _ _ _ _ _ _ _ (l_stop (by omega) (by omega) (by omega)) _ _ _ (by omega) (by omega)
  | succ t ih =>
    intro c μ v o5 o6 cs ss ht hc hV hM hD hcs hss
    rcases Nat.lt_or_ge Ln (5 * c + 5) with hst | hgo
    · exact law_end _ _ _ _ _ _ _ (l_stop hst (by omega) (by omega)) _ _ _ (by omega) (by omega)
    · skip
      refine sx_iload (pc := 23) dL_law_23 rfl ?_
      refine sx_aload_n (pc := 25) dL_law_25 rfl rfl ?_
      refine sx_slen (pc := 26) dL_law_26 (fun s h => ⟨h.2.2.1, h.2.2.2.1, h.2.2.2.2.1⟩) ?_
      refine sx_iconst (pc := 27) (v := 5) dL_law_27 (by decide) ?_
      refine sx_isub (pc := 28) dL_law_28 ?_
      refine sx_icmp_gt (pc := 29) (tgt := 476) dL_law_29 (by decide) (fun c_29 => absurd c_29 (l_go hgo (by omega))) (fun c_29 => ?_)
      refine sx_aload_n (pc := 32) dL_law_32 rfl rfl ?_
      refine sx_iload (pc := 33) dL_law_33 rfl ?_
      refine sx_sld (pc := 35) dL_law_35 (fun s h => ⟨h.2.2.1, h.2.2.2.1, h.2.2.2.2.1⟩) (vp_in_nI (by omega) (by omega)) ?_
      refine sx_bipush (pc := 36) (v := 15) dL_law_36 (by decide) ?_
      refine sx_iand (pc := 38) dL_law_38 ?_
      generalize xs (nI (5 * c)).toNatClampNeg &&& 15 = w39
      rcases sw11 w39 with rfl | rfl | rfl | rfl | rfl | rfl | rfl | rfl | rfl | rfl | rfl | w_39
      · refine sx_tableIn (pc := 39) (off := 57) (tgt := 96) dL_law_39 (by decide) (by decide) (by decide) (by decide) ?_
        refine sx_aload_n (pc := 96) dL_law_96 rfl rfl ?_
        refine sx_aload_n (pc := 97) dL_law_97 rfl rfl ?_
        refine sx_iload (pc := 98) dL_law_98 rfl ?_
        refine sx_iconst (pc := 100) (v := 1) dL_law_100 (by decide) ?_
        refine sx_iadd (pc := 101) dL_law_101 ?_
        refine sx_sld (pc := 102) dL_law_102 (fun s h => ⟨h.2.2.1, h.2.2.2.1, h.2.2.2.2.1⟩) (sixx1 (by omega) (by omega)) ?_
        refine sx_aload_n (pc := 103) dL_law_103 rfl rfl ?_
        refine sx_iload (pc := 104) dL_law_104 rfl ?_
        refine sx_iconst (pc := 106) (v := 2) dL_law_106 (by decide) ?_
        refine sx_iadd (pc := 107) dL_law_107 ?_
        refine sx_sld (pc := 108) dL_law_108 (fun s h => ⟨h.2.2.1, h.2.2.2.1, h.2.2.2.2.1⟩) (sixx2 (by omega) (by omega)) ?_
        refine sx_callV (pc := 109) (As := [.int (xs ((nI (5 * c)) + 1).toNatClampNeg), .int (xs ((nI (5 * c)) + 2).toNatClampNeg)]) dL_law_109 (p_octet X _ hE μ (fun s h => h.2.2.2.2.2) _ _ (n := 20 * c) (by omega) hV hD) mX5_octet lm_L_19 rfl s_EW rfl ⟨Nat.le_of_ble_eq_true rfl, Nat.le_of_ble_eq_true rfl⟩ ⟨by simp only [rmN, room_1]; omega, by simp only [rmN, room_1]; omega⟩ (Nat.le_of_ble_eq_true rfl) hE (fun r_109 sh_109 μ1 h_109 => ?_)
        obtain ⟨rfl, k_109, w_109, rfl⟩ := h_109
        replace hM := hM.ks k_109
        have hW := w_109
        refine sx_pop (pc := 112) dL_law_112 rfl ?_
        refine sx_aload_n (pc := 113) dL_law_113 rfl rfl ?_
        refine sx_aload_n (pc := 114) dL_law_114 rfl rfl ?_
        refine sx_iload (pc := 115) dL_law_115 rfl ?_
        refine sx_iconst (pc := 117) (v := 1) dL_law_117 (by decide) ?_
        refine sx_iadd (pc := 118) dL_law_118 ?_
        refine sx_sld (pc := 119) dL_law_119 (fun s h => ⟨h.2.2.1, h.2.2.2.1, h.2.2.2.2.1⟩) (sixx1 (by omega) (by omega)) ?_
        refine sx_aload_n (pc := 120) dL_law_120 rfl rfl ?_
        refine sx_iload (pc := 121) dL_law_121 rfl ?_
        refine sx_iconst (pc := 123) (v := 2) dL_law_123 (by decide) ?_
        refine sx_iadd (pc := 124) dL_law_124 ?_
        refine sx_sld (pc := 125) dL_law_125 (fun s h => ⟨h.2.2.1, h.2.2.2.1, h.2.2.2.2.1⟩) (sixx2 (by omega) (by omega)) ?_
        refine sx_callV (pc := 126) (As := [.int (xs ((nI (5 * c)) + 1).toNatClampNeg), .int (xs ((nI (5 * c)) + 2).toNatClampNeg)]) dL_law_126 (q_octet X _ hE μ1 _ _ (n := 20 * c) (by omega) hM hD) mX6_octet lm_L_22 rfl s_Mo rfl ⟨Nat.le_of_ble_eq_true rfl, Nat.le_of_ble_eq_true rfl⟩ ⟨by simp only [rmN, room_1]; omega, by simp only [rmN, room_1]; omega⟩ (Nat.le_of_ble_eq_true rfl) hE (fun r_126 sh_126 μ2 h_126 => ?_)
        obtain ⟨rfl, k_126, w_126, rfl⟩ := h_126
        have hV2 := hW.of (fun a ha => k_126 a (Or.inl ha))
        have hDn : VD (20 * (c + 1)) ((oOct (xs ((nI (5 * c)) + 1).toNatClampNeg) (xs ((nI (5 * c)) + 2).toNatClampNeg) v).1) := vd_oct hD _ _
        have hM2 := w_126
        refine sx_pop (pc := 129) dL_law_129 rfl ?_
        refine sx_goto (pc := 130) (tgt := 470) dL_law_130 (by decide) ?_
        refine sx_iinc (pc := 470) (v := nI (5 * (c + 1))) (L' := [some (.ref bs), some (.ref (X.2 + 0)), some (.ref (X.2 + 95)), some (.ref (X.2 + 116)), some (.int (nI (5 * (c + 1)))), o5, o6]) dL_law_470 rfl (by rw [show Int32.ofInt 5 = nI 5 by decide, nI_add]; rfl) (by decide) rfl ?_
        refine sx_goto (pc := 473) (tgt := 23) dL_law_473 (by decide) ?_
        exact ih (c + 1) _ _ _ _ _ _ (by omega) (by omega) hV2 hM2 hDn (by first | (simp only [rmN]; omega) | omega) (by first | (simp only [rmN]; omega) | omega)
      · refine sx_tableIn (pc := 39) (off := 94) (tgt := 133) dL_law_39 (by decide) (by decide) (by decide) (by decide) ?_
        refine sx_aload_n (pc := 133) dL_law_133 rfl rfl ?_
        refine sx_aload_n (pc := 134) dL_law_134 rfl rfl ?_
        refine sx_iload (pc := 135) dL_law_135 rfl ?_
        refine sx_iconst (pc := 137) (v := 1) dL_law_137 (by decide) ?_
        refine sx_iadd (pc := 138) dL_law_138 ?_
        refine sx_sld (pc := 139) dL_law_139 (fun s h => ⟨h.2.2.1, h.2.2.2.1, h.2.2.2.2.1⟩) (sixx1 (by omega) (by omega)) ?_
        refine sx_aload_n (pc := 140) dL_law_140 rfl rfl ?_
        refine sx_iload (pc := 141) dL_law_141 rfl ?_
        refine sx_iconst (pc := 143) (v := 2) dL_law_143 (by decide) ?_
        refine sx_iadd (pc := 144) dL_law_144 ?_
        refine sx_sld (pc := 145) dL_law_145 (fun s h => ⟨h.2.2.1, h.2.2.2.1, h.2.2.2.2.1⟩) (sixx2 (by omega) (by omega)) ?_
        refine sx_aload_n (pc := 146) dL_law_146 rfl rfl ?_
        refine sx_help (pc := 147) hl0 hV.2.2.1 (fun s h => h.2.1) hE dL_law_147 rfl ⟨Nat.le_of_ble_eq_true rfl, Nat.le_of_ble_eq_true rfl⟩ ⟨by simp only [rmN, room_1]; omega, by simp only [rmN, room_1]; omega⟩ (Nat.le_of_ble_eq_true rfl) (fun x_147 μ3 h_147 => ?_)
        replace hV := hV.of (fun a ha => h_147 a (by omega))
        replace hM := hM.o116 h_147
        refine sx_istore (pc := 150) (L' := [some (.ref bs), some (.ref (X.2 + 0)), some (.ref (X.2 + 95)), some (.ref (X.2 + 116)), some (.int (nI (5 * c))), some (.int x_147), o6]) dL_law_150 (by decide) rfl ?_
        refine sx_aload_n (pc := 152) dL_law_152 rfl rfl ?_
        refine sx_aload_n (pc := 153) dL_law_153 rfl rfl ?_
        refine sx_iload (pc := 154) dL_law_154 rfl ?_
        refine sx_iconst (pc := 156) (v := 1) dL_law_156 (by decide) ?_
        refine sx_iadd (pc := 157) dL_law_157 ?_
        refine sx_sld (pc := 158) dL_law_158 (fun s h => ⟨h.2.2.1, h.2.2.2.1, h.2.2.2.2.1⟩) (sixx1 (by omega) (by omega)) ?_
        refine sx_aload_n (pc := 159) dL_law_159 rfl rfl ?_
        refine sx_iload (pc := 160) dL_law_160 rfl ?_
        refine sx_iconst (pc := 162) (v := 2) dL_law_162 (by decide) ?_
        refine sx_iadd (pc := 163) dL_law_163 ?_
        refine sx_sld (pc := 164) dL_law_164 (fun s h => ⟨h.2.2.1, h.2.2.2.1, h.2.2.2.2.1⟩) (sixx2 (by omega) (by omega)) ?_
        refine sx_callV (pc := 165) (As := [.int (xs ((nI (5 * c)) + 1).toNatClampNeg), .int (xs ((nI (5 * c)) + 2).toNatClampNeg)]) dL_law_165 (q_answer X _ hE μ3 _ _ (n := 20 * c) (by omega) hM hD) mX6_answer lm_L_28 rfl s_Mo rfl ⟨Nat.le_of_ble_eq_true rfl, Nat.le_of_ble_eq_true rfl⟩ ⟨by simp only [rmN, room_1]; omega, by simp only [rmN, room_1]; omega⟩ (Nat.le_of_ble_eq_true rfl) hE (fun r_165 sh_165 μ4 h_165 => ?_)
        obtain ⟨rfl, k_165, w_165, x_165, rfl⟩ := h_165
        have hW := hV
        have hV2 := hW.of (fun a ha => k_165 a (Or.inl ha))
        have hDn : VD (20 * (c + 1)) v := hD.mono (by omega)
        have hM2 := w_165
        refine sx_istore (pc := 168) (L' := [some (.ref bs), some (.ref (X.2 + 0)), some (.ref (X.2 + 95)), some (.ref (X.2 + 116)), some (.int (nI (5 * c))), some (.int x_147), some (.int x_165)]) dL_law_168 (by decide) rfl ?_
        refine sx_goto (pc := 170) (tgt := 470) dL_law_170 (by decide) ?_
        refine sx_iinc (pc := 470) (v := nI (5 * (c + 1))) (L' := [some (.ref bs), some (.ref (X.2 + 0)), some (.ref (X.2 + 95)), some (.ref (X.2 + 116)), some (.int (nI (5 * (c + 1)))), some (.int x_147), some (.int x_165)]) dL_law_470 rfl (by rw [show Int32.ofInt 5 = nI 5 by decide, nI_add]; rfl) (by decide) rfl ?_
        refine sx_goto (pc := 473) (tgt := 23) dL_law_473 (by decide) ?_
        exact ih (c + 1) _ _ _ _ _ _ (by omega) (by omega) hV2 hM2 hDn (by first | (simp only [rmN]; omega) | omega) (by first | (simp only [rmN]; omega) | omega)
      · refine sx_tableIn (pc := 39) (off := 134) (tgt := 173) dL_law_39 (by decide) (by decide) (by decide) (by decide) ?_
        refine sx_aload_n (pc := 173) dL_law_173 rfl rfl ?_
        refine sx_aload_n (pc := 174) dL_law_174 rfl rfl ?_
        refine sx_iload (pc := 175) dL_law_175 rfl ?_
        refine sx_iconst (pc := 177) (v := 1) dL_law_177 (by decide) ?_
        refine sx_iadd (pc := 178) dL_law_178 ?_
        refine sx_sld (pc := 179) dL_law_179 (fun s h => ⟨h.2.2.1, h.2.2.2.1, h.2.2.2.2.1⟩) (sixx1 (by omega) (by omega)) ?_
        refine sx_callV (pc := 180) (As := [.int (xs ((nI (5 * c)) + 1).toNatClampNeg)]) dL_law_180 (p_reset X _ hE μ _ (n := 20 * c) (by omega) hV hD) mX5_reset lm_L_29 rfl s_EW rfl ⟨Nat.le_of_ble_eq_true rfl, Nat.le_of_ble_eq_true rfl⟩ ⟨by simp only [rmN, room_1]; omega, by simp only [rmN, room_1]; omega⟩ (Nat.le_of_ble_eq_true rfl) hE (fun r_180 sh_180 μ5 h_180 => ?_)
        obtain ⟨rfl, k_180, w_180, x_180, rfl⟩ := h_180
        replace hM := hM.ks k_180
        have hW := w_180
        refine sx_pop (pc := 183) dL_law_183 rfl ?_
        refine sx_aload_n (pc := 184) dL_law_184 rfl rfl ?_
        refine sx_aload_n (pc := 185) dL_law_185 rfl rfl ?_
        refine sx_iload (pc := 186) dL_law_186 rfl ?_
        refine sx_iconst (pc := 188) (v := 1) dL_law_188 (by decide) ?_
        refine sx_iadd (pc := 189) dL_law_189 ?_
        refine sx_sld (pc := 190) dL_law_190 (fun s h => ⟨h.2.2.1, h.2.2.2.1, h.2.2.2.2.1⟩) (sixx1 (by omega) (by omega)) ?_
        refine sx_callV (pc := 191) (As := [.int (xs ((nI (5 * c)) + 1).toNatClampNeg)]) dL_law_191 (q_reset X _ hE μ5 _ (n := 20 * c) (by omega) hM hD) mX6_reset lm_L_33 rfl s_Mo rfl ⟨Nat.le_of_ble_eq_true rfl, Nat.le_of_ble_eq_true rfl⟩ ⟨by simp only [rmN, room_1]; omega, by simp only [rmN, room_1]; omega⟩ (Nat.le_of_ble_eq_true rfl) hE (fun r_191 sh_191 μ6 h_191 => ?_)
        obtain ⟨rfl, k_191, w_191, x_191, rfl⟩ := h_191
        have hV2 := hW.of (fun a ha => k_191 a (Or.inl ha))
        have hDn : VD (20 * (c + 1)) (oReset (xs ((nI (5 * c)) + 1).toNatClampNeg) v) := vd_reset hD _
        have hM2 := w_191
        refine sx_pop (pc := 194) dL_law_194 rfl ?_
        refine sx_goto (pc := 195) (tgt := 470) dL_law_195 (by decide) ?_
        refine sx_iinc (pc := 470) (v := nI (5 * (c + 1))) (L' := [some (.ref bs), some (.ref (X.2 + 0)), some (.ref (X.2 + 95)), some (.ref (X.2 + 116)), some (.int (nI (5 * (c + 1)))), o5, o6]) dL_law_470 rfl (by rw [show Int32.ofInt 5 = nI 5 by decide, nI_add]; rfl) (by decide) rfl ?_
        refine sx_goto (pc := 473) (tgt := 23) dL_law_473 (by decide) ?_
        exact ih (c + 1) _ _ _ _ _ _ (by omega) (by omega) hV2 hM2 hDn (by first | (simp only [rmN]; omega) | omega) (by first | (simp only [rmN]; omega) | omega)
      · refine sx_tableIn (pc := 39) (off := 159) (tgt := 198) dL_law_39 (by decide) (by decide) (by decide) (by decide) ?_
        refine sx_aload_n (pc := 198) dL_law_198 rfl rfl ?_
        refine sx_aload_n (pc := 199) dL_law_199 rfl rfl ?_
        refine sx_iload (pc := 200) dL_law_200 rfl ?_
        refine sx_iconst (pc := 202) (v := 1) dL_law_202 (by decide) ?_
        refine sx_iadd (pc := 203) dL_law_203 ?_
        refine sx_sld (pc := 204) dL_law_204 (fun s h => ⟨h.2.2.1, h.2.2.2.1, h.2.2.2.2.1⟩) (sixx1 (by omega) (by omega)) ?_
        refine sx_aload_n (pc := 205) dL_law_205 rfl rfl ?_
        refine sx_iload (pc := 206) dL_law_206 rfl ?_
        refine sx_iconst (pc := 208) (v := 2) dL_law_208 (by decide) ?_
        refine sx_iadd (pc := 209) dL_law_209 ?_
        refine sx_sld (pc := 210) dL_law_210 (fun s h => ⟨h.2.2.1, h.2.2.2.1, h.2.2.2.2.1⟩) (sixx2 (by omega) (by omega)) ?_
        refine sx_aload_n (pc := 211) dL_law_211 rfl rfl ?_
        refine sx_iload (pc := 212) dL_law_212 rfl ?_
        refine sx_iconst (pc := 214) (v := 3) dL_law_214 (by decide) ?_
        refine sx_iadd (pc := 215) dL_law_215 ?_
        refine sx_sld (pc := 216) dL_law_216 (fun s h => ⟨h.2.2.1, h.2.2.2.1, h.2.2.2.2.1⟩) (sixx3 (by omega) (by omega)) ?_
        refine sx_aload_n (pc := 217) dL_law_217 rfl rfl ?_
        refine sx_iload (pc := 218) dL_law_218 rfl ?_
        refine sx_iconst (pc := 220) (v := 4) dL_law_220 (by decide) ?_
        refine sx_iadd (pc := 221) dL_law_221 ?_
        refine sx_sld (pc := 222) dL_law_222 (fun s h => ⟨h.2.2.1, h.2.2.2.1, h.2.2.2.2.1⟩) (sixx4 (by omega) (by omega)) ?_
        refine sx_callV (pc := 223) (As := [.int (xs ((nI (5 * c)) + 1).toNatClampNeg), .int (xs ((nI (5 * c)) + 2).toNatClampNeg), .int (xs ((nI (5 * c)) + 3).toNatClampNeg), .int (xs ((nI (5 * c)) + 4).toNatClampNeg)]) dL_law_223 (p_offline X _ hE μ _ _ _ _ (n := 20 * c) (by omega) hV hD) mX5_offline lm_L_34 rfl s_EW rfl ⟨Nat.le_of_ble_eq_true rfl, Nat.le_of_ble_eq_true rfl⟩ ⟨by simp only [rmN, room_1]; omega, by simp only [rmN, room_1]; omega⟩ (Nat.le_of_ble_eq_true rfl) hE (fun r_223 sh_223 μ7 h_223 => ?_)
        obtain ⟨rfl, k_223, w_223, rfl⟩ := h_223
        replace hM := hM.ks k_223
        have hW := w_223
        refine sx_pop (pc := 226) dL_law_226 rfl ?_
        refine sx_aload_n (pc := 227) dL_law_227 rfl rfl ?_
        refine sx_aload_n (pc := 228) dL_law_228 rfl rfl ?_
        refine sx_iload (pc := 229) dL_law_229 rfl ?_
        refine sx_iconst (pc := 231) (v := 1) dL_law_231 (by decide) ?_
        refine sx_iadd (pc := 232) dL_law_232 ?_
        refine sx_sld (pc := 233) dL_law_233 (fun s h => ⟨h.2.2.1, h.2.2.2.1, h.2.2.2.2.1⟩) (sixx1 (by omega) (by omega)) ?_
        refine sx_aload_n (pc := 234) dL_law_234 rfl rfl ?_
        refine sx_iload (pc := 235) dL_law_235 rfl ?_
        refine sx_iconst (pc := 237) (v := 2) dL_law_237 (by decide) ?_
        refine sx_iadd (pc := 238) dL_law_238 ?_
        refine sx_sld (pc := 239) dL_law_239 (fun s h => ⟨h.2.2.1, h.2.2.2.1, h.2.2.2.2.1⟩) (sixx2 (by omega) (by omega)) ?_
        refine sx_aload_n (pc := 240) dL_law_240 rfl rfl ?_
        refine sx_iload (pc := 241) dL_law_241 rfl ?_
        refine sx_iconst (pc := 243) (v := 3) dL_law_243 (by decide) ?_
        refine sx_iadd (pc := 244) dL_law_244 ?_
        refine sx_sld (pc := 245) dL_law_245 (fun s h => ⟨h.2.2.1, h.2.2.2.1, h.2.2.2.2.1⟩) (sixx3 (by omega) (by omega)) ?_
        refine sx_aload_n (pc := 246) dL_law_246 rfl rfl ?_
        refine sx_iload (pc := 247) dL_law_247 rfl ?_
        refine sx_iconst (pc := 249) (v := 4) dL_law_249 (by decide) ?_
        refine sx_iadd (pc := 250) dL_law_250 ?_
        refine sx_sld (pc := 251) dL_law_251 (fun s h => ⟨h.2.2.1, h.2.2.2.1, h.2.2.2.2.1⟩) (sixx4 (by omega) (by omega)) ?_
        refine sx_callV (pc := 252) (As := [.int (xs ((nI (5 * c)) + 1).toNatClampNeg), .int (xs ((nI (5 * c)) + 2).toNatClampNeg), .int (xs ((nI (5 * c)) + 3).toNatClampNeg), .int (xs ((nI (5 * c)) + 4).toNatClampNeg)]) dL_law_252 (q_offline X _ hE μ7 _ _ _ _ (n := 20 * c) (by omega) hM hD) mX6_offline lm_L_38 rfl s_Mo rfl ⟨Nat.le_of_ble_eq_true rfl, Nat.le_of_ble_eq_true rfl⟩ ⟨by simp only [rmN, room_1]; omega, by simp only [rmN, room_1]; omega⟩ (Nat.le_of_ble_eq_true rfl) hE (fun r_252 sh_252 μ8 h_252 => ?_)
        obtain ⟨rfl, k_252, w_252, rfl⟩ := h_252
        have hV2 := hW.of (fun a ha => k_252 a (Or.inl ha))
        have hDn : VD (20 * (c + 1)) ((oOff (xs ((nI (5 * c)) + 1).toNatClampNeg) (xs ((nI (5 * c)) + 2).toNatClampNeg) (xs ((nI (5 * c)) + 3).toNatClampNeg) (xs ((nI (5 * c)) + 4).toNatClampNeg) v).1) := vd_off hD _ _ _ _
        have hM2 := w_252
        refine sx_pop (pc := 255) dL_law_255 rfl ?_
        refine sx_goto (pc := 256) (tgt := 470) dL_law_256 (by decide) ?_
        refine sx_iinc (pc := 470) (v := nI (5 * (c + 1))) (L' := [some (.ref bs), some (.ref (X.2 + 0)), some (.ref (X.2 + 95)), some (.ref (X.2 + 116)), some (.int (nI (5 * (c + 1)))), o5, o6]) dL_law_470 rfl (by rw [show Int32.ofInt 5 = nI 5 by decide, nI_add]; rfl) (by decide) rfl ?_
        refine sx_goto (pc := 473) (tgt := 23) dL_law_473 (by decide) ?_
        exact ih (c + 1) _ _ _ _ _ _ (by omega) (by omega) hV2 hM2 hDn (by first | (simp only [rmN]; omega) | omega) (by first | (simp only [rmN]; omega) | omega)
      · refine sx_tableIn (pc := 39) (off := 220) (tgt := 259) dL_law_39 (by decide) (by decide) (by decide) (by decide) ?_
        refine sx_aload_n (pc := 259) dL_law_259 rfl rfl ?_
        refine sx_aload_n (pc := 260) dL_law_260 rfl rfl ?_
        refine sx_iload (pc := 261) dL_law_261 rfl ?_
        refine sx_iconst (pc := 263) (v := 1) dL_law_263 (by decide) ?_
        refine sx_iadd (pc := 264) dL_law_264 ?_
        refine sx_sld (pc := 265) dL_law_265 (fun s h => ⟨h.2.2.1, h.2.2.2.1, h.2.2.2.2.1⟩) (sixx1 (by omega) (by omega)) ?_
        refine sx_callV (pc := 266) (As := [.int (xs ((nI (5 * c)) + 1).toNatClampNeg)]) dL_law_266 (p_join X _ hE μ _ (n := 20 * c) (by omega) hV hD) mX5_join lm_L_39 rfl s_EW rfl ⟨Nat.le_of_ble_eq_true rfl, Nat.le_of_ble_eq_true rfl⟩ ⟨by simp only [rmN, room_1]; omega, by simp only [rmN, room_1]; omega⟩ (Nat.le_of_ble_eq_true rfl) hE (fun r_266 sh_266 μ9 h_266 => ?_)
        obtain ⟨rfl, k_266, w_266, rfl⟩ := h_266
        replace hM := hM.ks k_266
        have hW := w_266
        refine sx_aload_n (pc := 269) dL_law_269 rfl rfl ?_
        refine sx_aload_n (pc := 270) dL_law_270 rfl rfl ?_
        refine sx_iload (pc := 271) dL_law_271 rfl ?_
        refine sx_iconst (pc := 273) (v := 1) dL_law_273 (by decide) ?_
        refine sx_iadd (pc := 274) dL_law_274 ?_
        refine sx_sld (pc := 275) dL_law_275 (fun s h => ⟨h.2.2.1, h.2.2.2.1, h.2.2.2.2.1⟩) (sixx1 (by omega) (by omega)) ?_
        refine sx_callV (pc := 276) (As := [.int (xs ((nI (5 * c)) + 1).toNatClampNeg)]) dL_law_276 (q_join X _ hE μ9 _ (n := 20 * c) (by omega) hM hD) mX6_join lm_L_42 rfl s_Mo rfl ⟨Nat.le_of_ble_eq_true rfl, Nat.le_of_ble_eq_true rfl⟩ ⟨by simp only [rmN, room_1]; omega, by simp only [rmN, room_1]; omega⟩ (Nat.le_of_ble_eq_true rfl) hE (fun r_276 sh_276 μ10 h_276 => ?_)
        obtain ⟨rfl, k_276, w_276, rfl⟩ := h_276
        have hV2 := hW.of (fun a ha => k_276 a (Or.inl ha))
        have hDn : VD (20 * (c + 1)) ((oJoin (xs ((nI (5 * c)) + 1).toNatClampNeg) v).1) := vd_join hD _
        have hM2 := w_276
        refine sx_icmp_eq (pc := 279) (tgt := 470) dL_law_279 (by decide) (fun c_279 => ?_) (fun c_279 => absurd rfl c_279)
        refine sx_iinc (pc := 470) (v := nI (5 * (c + 1))) (L' := [some (.ref bs), some (.ref (X.2 + 0)), some (.ref (X.2 + 95)), some (.ref (X.2 + 116)), some (.int (nI (5 * (c + 1)))), o5, o6]) dL_law_470 rfl (by rw [show Int32.ofInt 5 = nI 5 by decide, nI_add]; rfl) (by decide) rfl ?_
        refine sx_goto (pc := 473) (tgt := 23) dL_law_473 (by decide) ?_
        exact ih (c + 1) _ _ _ _ _ _ (by omega) (by omega) hV2 hM2 hDn (by first | (simp only [rmN]; omega) | omega) (by first | (simp only [rmN]; omega) | omega)
      · refine sx_tableIn (pc := 39) (off := 245) (tgt := 284) dL_law_39 (by decide) (by decide) (by decide) (by decide) ?_
        refine sx_aload_n (pc := 284) dL_law_284 rfl rfl ?_
        refine sx_aload_n (pc := 285) dL_law_285 rfl rfl ?_
        refine sx_iload (pc := 286) dL_law_286 rfl ?_
        refine sx_iconst (pc := 288) (v := 1) dL_law_288 (by decide) ?_
        refine sx_iadd (pc := 289) dL_law_289 ?_
        refine sx_sld (pc := 290) dL_law_290 (fun s h => ⟨h.2.2.1, h.2.2.2.1, h.2.2.2.2.1⟩) (sixx1 (by omega) (by omega)) ?_
        refine sx_aload_n (pc := 291) dL_law_291 rfl rfl ?_
        refine sx_iload (pc := 292) dL_law_292 rfl ?_
        refine sx_iconst (pc := 294) (v := 2) dL_law_294 (by decide) ?_
        refine sx_iadd (pc := 295) dL_law_295 ?_
        refine sx_sld (pc := 296) dL_law_296 (fun s h => ⟨h.2.2.1, h.2.2.2.1, h.2.2.2.2.1⟩) (sixx2 (by omega) (by omega)) ?_
        refine sx_callV (pc := 297) (As := [.int (xs ((nI (5 * c)) + 1).toNatClampNeg), .int (xs ((nI (5 * c)) + 2).toNatClampNeg)]) dL_law_297 (p_owes X _ hE μ _ _ (n := 20 * c) (by omega) hV hD) mX5_owes lm_L_43 rfl s_EW rfl ⟨Nat.le_of_ble_eq_true rfl, Nat.le_of_ble_eq_true rfl⟩ ⟨by simp only [rmN, room_1]; omega, by simp only [rmN, room_1]; omega⟩ (Nat.le_of_ble_eq_true rfl) hE (fun r_297 sh_297 μ11 h_297 => ?_)
        obtain ⟨rfl, k_297, w_297, rfl⟩ := h_297
        replace hM := hM.ks k_297
        have hW := w_297
        refine sx_pop (pc := 300) dL_law_300 rfl ?_
        refine sx_aload_n (pc := 301) dL_law_301 rfl rfl ?_
        refine sx_aload_n (pc := 302) dL_law_302 rfl rfl ?_
        refine sx_iload (pc := 303) dL_law_303 rfl ?_
        refine sx_iconst (pc := 305) (v := 1) dL_law_305 (by decide) ?_
        refine sx_iadd (pc := 306) dL_law_306 ?_
        refine sx_sld (pc := 307) dL_law_307 (fun s h => ⟨h.2.2.1, h.2.2.2.1, h.2.2.2.2.1⟩) (sixx1 (by omega) (by omega)) ?_
        refine sx_aload_n (pc := 308) dL_law_308 rfl rfl ?_
        refine sx_iload (pc := 309) dL_law_309 rfl ?_
        refine sx_iconst (pc := 311) (v := 2) dL_law_311 (by decide) ?_
        refine sx_iadd (pc := 312) dL_law_312 ?_
        refine sx_sld (pc := 313) dL_law_313 (fun s h => ⟨h.2.2.1, h.2.2.2.1, h.2.2.2.2.1⟩) (sixx2 (by omega) (by omega)) ?_
        refine sx_callV (pc := 314) (As := [.int (xs ((nI (5 * c)) + 1).toNatClampNeg), .int (xs ((nI (5 * c)) + 2).toNatClampNeg)]) dL_law_314 (q_owes X _ hE μ11 _ _ (n := 20 * c) (by omega) hM hD) mX6_owes lm_L_46 rfl s_Mo rfl ⟨Nat.le_of_ble_eq_true rfl, Nat.le_of_ble_eq_true rfl⟩ ⟨by simp only [rmN, room_1]; omega, by simp only [rmN, room_1]; omega⟩ (Nat.le_of_ble_eq_true rfl) hE (fun r_314 sh_314 μ12 h_314 => ?_)
        obtain ⟨rfl, k_314, w_314, rfl⟩ := h_314
        have hV2 := hW.of (fun a ha => k_314 a (Or.inl ha))
        have hDn : VD (20 * (c + 1)) ((oOwes (xs ((nI (5 * c)) + 1).toNatClampNeg) (xs ((nI (5 * c)) + 2).toNatClampNeg) v).1) := vd_owes hD _ _
        have hM2 := w_314
        refine sx_pop (pc := 317) dL_law_317 rfl ?_
        refine sx_goto (pc := 318) (tgt := 470) dL_law_318 (by decide) ?_
        refine sx_iinc (pc := 470) (v := nI (5 * (c + 1))) (L' := [some (.ref bs), some (.ref (X.2 + 0)), some (.ref (X.2 + 95)), some (.ref (X.2 + 116)), some (.int (nI (5 * (c + 1)))), o5, o6]) dL_law_470 rfl (by rw [show Int32.ofInt 5 = nI 5 by decide, nI_add]; rfl) (by decide) rfl ?_
        refine sx_goto (pc := 473) (tgt := 23) dL_law_473 (by decide) ?_
        exact ih (c + 1) _ _ _ _ _ _ (by omega) (by omega) hV2 hM2 hDn (by first | (simp only [rmN]; omega) | omega) (by first | (simp only [rmN]; omega) | omega)
      · refine sx_tableIn (pc := 39) (off := 282) (tgt := 321) dL_law_39 (by decide) (by decide) (by decide) (by decide) ?_
        refine sx_aload_n (pc := 321) dL_law_321 rfl rfl ?_
        refine sx_callV (pc := 322) (As := []) dL_law_322 (p_acts X _ hE μ  (n := 20 * c) (by omega) hV hD) mX5_acts lm_L_47 rfl s_EW rfl ⟨Nat.le_of_ble_eq_true rfl, Nat.le_of_ble_eq_true rfl⟩ ⟨by simp only [rmN, room_1]; omega, by simp only [rmN, room_1]; omega⟩ (Nat.le_of_ble_eq_true rfl) hE (fun r_322 sh_322 μ13 h_322 => ?_)
        obtain ⟨rfl, k_322, w_322, rfl⟩ := h_322
        replace hM := hM.ks k_322
        have hW := w_322
        refine sx_pop (pc := 325) dL_law_325 rfl ?_
        refine sx_aload_n (pc := 326) dL_law_326 rfl rfl ?_
        refine sx_callV (pc := 327) (As := []) dL_law_327 (q_acts X _ hE μ13  (n := 20 * c) (by omega) hM hD) mX6_acts lm_L_51 rfl s_Mo rfl ⟨Nat.le_of_ble_eq_true rfl, Nat.le_of_ble_eq_true rfl⟩ ⟨by simp only [rmN, room_1]; omega, by simp only [rmN, room_1]; omega⟩ (Nat.le_of_ble_eq_true rfl) hE (fun r_327 sh_327 μ14 h_327 => ?_)
        obtain ⟨rfl, k_327, w_327, rfl⟩ := h_327
        have hV2 := hW.of (fun a ha => k_327 a (Or.inl ha))
        have hDn : VD (20 * (c + 1)) v := hD.mono (by omega)
        have hM2 := w_327
        refine sx_pop (pc := 330) dL_law_330 rfl ?_
        refine sx_goto (pc := 331) (tgt := 470) dL_law_331 (by decide) ?_
        refine sx_iinc (pc := 470) (v := nI (5 * (c + 1))) (L' := [some (.ref bs), some (.ref (X.2 + 0)), some (.ref (X.2 + 95)), some (.ref (X.2 + 116)), some (.int (nI (5 * (c + 1)))), o5, o6]) dL_law_470 rfl (by rw [show Int32.ofInt 5 = nI 5 by decide, nI_add]; rfl) (by decide) rfl ?_
        refine sx_goto (pc := 473) (tgt := 23) dL_law_473 (by decide) ?_
        exact ih (c + 1) _ _ _ _ _ _ (by omega) (by omega) hV2 hM2 hDn (by first | (simp only [rmN]; omega) | omega) (by first | (simp only [rmN]; omega) | omega)
      · refine sx_tableIn (pc := 39) (off := 295) (tgt := 334) dL_law_39 (by decide) (by decide) (by decide) (by decide) ?_
        refine sx_aload_n (pc := 334) dL_law_334 rfl rfl ?_
        refine sx_aload_n (pc := 335) dL_law_335 rfl rfl ?_
        refine sx_iload (pc := 336) dL_law_336 rfl ?_
        refine sx_iconst (pc := 338) (v := 1) dL_law_338 (by decide) ?_
        refine sx_iadd (pc := 339) dL_law_339 ?_
        refine sx_sld (pc := 340) dL_law_340 (fun s h => ⟨h.2.2.1, h.2.2.2.1, h.2.2.2.2.1⟩) (sixx1 (by omega) (by omega)) ?_
        refine sx_aload_n (pc := 341) dL_law_341 rfl rfl ?_
        refine sx_iload (pc := 342) dL_law_342 rfl ?_
        refine sx_iconst (pc := 344) (v := 2) dL_law_344 (by decide) ?_
        refine sx_iadd (pc := 345) dL_law_345 ?_
        refine sx_sld (pc := 346) dL_law_346 (fun s h => ⟨h.2.2.1, h.2.2.2.1, h.2.2.2.2.1⟩) (sixx2 (by omega) (by omega)) ?_
        refine sx_callV (pc := 347) (As := [.int (xs ((nI (5 * c)) + 1).toNatClampNeg), .int (xs ((nI (5 * c)) + 2).toNatClampNeg)]) dL_law_347 (p_act X _ hE μ _ _ (n := 20 * c) (by omega) hV hD) mX5_act lm_L_52 rfl s_EW rfl ⟨Nat.le_of_ble_eq_true rfl, Nat.le_of_ble_eq_true rfl⟩ ⟨by simp only [rmN, room_1]; omega, by simp only [rmN, room_1]; omega⟩ (Nat.le_of_ble_eq_true rfl) hE (fun r_347 sh_347 μ15 h_347 => ?_)
        obtain ⟨rfl, k_347, w_347, rfl⟩ := h_347
        replace hM := hM.ks k_347
        have hW := w_347
        refine sx_pop (pc := 350) dL_law_350 rfl ?_
        refine sx_aload_n (pc := 351) dL_law_351 rfl rfl ?_
        refine sx_aload_n (pc := 352) dL_law_352 rfl rfl ?_
        refine sx_iload (pc := 353) dL_law_353 rfl ?_
        refine sx_iconst (pc := 355) (v := 1) dL_law_355 (by decide) ?_
        refine sx_iadd (pc := 356) dL_law_356 ?_
        refine sx_sld (pc := 357) dL_law_357 (fun s h => ⟨h.2.2.1, h.2.2.2.1, h.2.2.2.2.1⟩) (sixx1 (by omega) (by omega)) ?_
        refine sx_aload_n (pc := 358) dL_law_358 rfl rfl ?_
        refine sx_iload (pc := 359) dL_law_359 rfl ?_
        refine sx_iconst (pc := 361) (v := 2) dL_law_361 (by decide) ?_
        refine sx_iadd (pc := 362) dL_law_362 ?_
        refine sx_sld (pc := 363) dL_law_363 (fun s h => ⟨h.2.2.1, h.2.2.2.1, h.2.2.2.2.1⟩) (sixx2 (by omega) (by omega)) ?_
        refine sx_callV (pc := 364) (As := [.int (xs ((nI (5 * c)) + 1).toNatClampNeg), .int (xs ((nI (5 * c)) + 2).toNatClampNeg)]) dL_law_364 (q_act X _ hE μ15 _ _ (n := 20 * c) (by omega) hM hD) mX6_act lm_L_55 rfl s_Mo rfl ⟨Nat.le_of_ble_eq_true rfl, Nat.le_of_ble_eq_true rfl⟩ ⟨by simp only [rmN, room_1]; omega, by simp only [rmN, room_1]; omega⟩ (Nat.le_of_ble_eq_true rfl) hE (fun r_364 sh_364 μ16 h_364 => ?_)
        obtain ⟨rfl, k_364, w_364, rfl⟩ := h_364
        have hV2 := hW.of (fun a ha => k_364 a (Or.inl ha))
        have hDn : VD (20 * (c + 1)) v := hD.mono (by omega)
        have hM2 := w_364
        refine sx_pop (pc := 367) dL_law_367 rfl ?_
        refine sx_goto (pc := 368) (tgt := 470) dL_law_368 (by decide) ?_
        refine sx_iinc (pc := 470) (v := nI (5 * (c + 1))) (L' := [some (.ref bs), some (.ref (X.2 + 0)), some (.ref (X.2 + 95)), some (.ref (X.2 + 116)), some (.int (nI (5 * (c + 1)))), o5, o6]) dL_law_470 rfl (by rw [show Int32.ofInt 5 = nI 5 by decide, nI_add]; rfl) (by decide) rfl ?_
        refine sx_goto (pc := 473) (tgt := 23) dL_law_473 (by decide) ?_
        exact ih (c + 1) _ _ _ _ _ _ (by omega) (by omega) hV2 hM2 hDn (by first | (simp only [rmN]; omega) | omega) (by first | (simp only [rmN]; omega) | omega)
      · refine sx_tableIn (pc := 39) (off := 332) (tgt := 371) dL_law_39 (by decide) (by decide) (by decide) (by decide) ?_
        refine sx_aload_n (pc := 371) dL_law_371 rfl rfl ?_
        refine sx_aload_n (pc := 372) dL_law_372 rfl rfl ?_
        refine sx_iload (pc := 373) dL_law_373 rfl ?_
        refine sx_iconst (pc := 375) (v := 1) dL_law_375 (by decide) ?_
        refine sx_iadd (pc := 376) dL_law_376 ?_
        refine sx_sld (pc := 377) dL_law_377 (fun s h => ⟨h.2.2.1, h.2.2.2.1, h.2.2.2.2.1⟩) (sixx1 (by omega) (by omega)) ?_
        refine sx_callV (pc := 378) (As := [.int (xs ((nI (5 * c)) + 1).toNatClampNeg)]) dL_law_378 (p_sum X _ hE μ _ (n := 20 * c) (by omega) hV hD) mX5_sum lm_L_56 rfl s_EW rfl ⟨Nat.le_of_ble_eq_true rfl, Nat.le_of_ble_eq_true rfl⟩ ⟨by simp only [rmN, room_1]; omega, by simp only [rmN, room_1]; omega⟩ (Nat.le_of_ble_eq_true rfl) hE (fun r_378 sh_378 μ17 h_378 => ?_)
        obtain ⟨rfl, k_378, w_378, rfl⟩ := h_378
        replace hM := hM.ks k_378
        have hW := w_378
        refine sx_pop (pc := 381) dL_law_381 rfl ?_
        refine sx_aload_n (pc := 382) dL_law_382 rfl rfl ?_
        refine sx_aload_n (pc := 383) dL_law_383 rfl rfl ?_
        refine sx_iload (pc := 384) dL_law_384 rfl ?_
        refine sx_iconst (pc := 386) (v := 1) dL_law_386 (by decide) ?_
        refine sx_iadd (pc := 387) dL_law_387 ?_
        refine sx_sld (pc := 388) dL_law_388 (fun s h => ⟨h.2.2.1, h.2.2.2.1, h.2.2.2.2.1⟩) (sixx1 (by omega) (by omega)) ?_
        refine sx_callV (pc := 389) (As := [.int (xs ((nI (5 * c)) + 1).toNatClampNeg)]) dL_law_389 (q_sum X _ hE μ17 _ (n := 20 * c) (by omega) hM hD) mX6_sum lm_L_59 rfl s_Mo rfl ⟨Nat.le_of_ble_eq_true rfl, Nat.le_of_ble_eq_true rfl⟩ ⟨by simp only [rmN, room_1]; omega, by simp only [rmN, room_1]; omega⟩ (Nat.le_of_ble_eq_true rfl) hE (fun r_389 sh_389 μ18 h_389 => ?_)
        obtain ⟨rfl, k_389, w_389, rfl⟩ := h_389
        have hV2 := hW.of (fun a ha => k_389 a (Or.inl ha))
        have hDn : VD (20 * (c + 1)) ((oSum (xs ((nI (5 * c)) + 1).toNatClampNeg) v).1) := vd_sum hD _
        have hM2 := w_389
        refine sx_pop (pc := 392) dL_law_392 rfl ?_
        refine sx_goto (pc := 393) (tgt := 470) dL_law_393 (by decide) ?_
        refine sx_iinc (pc := 470) (v := nI (5 * (c + 1))) (L' := [some (.ref bs), some (.ref (X.2 + 0)), some (.ref (X.2 + 95)), some (.ref (X.2 + 116)), some (.int (nI (5 * (c + 1)))), o5, o6]) dL_law_470 rfl (by rw [show Int32.ofInt 5 = nI 5 by decide, nI_add]; rfl) (by decide) rfl ?_
        refine sx_goto (pc := 473) (tgt := 23) dL_law_473 (by decide) ?_
        exact ih (c + 1) _ _ _ _ _ _ (by omega) (by omega) hV2 hM2 hDn (by first | (simp only [rmN]; omega) | omega) (by first | (simp only [rmN]; omega) | omega)
      · refine sx_tableIn (pc := 39) (off := 357) (tgt := 396) dL_law_39 (by decide) (by decide) (by decide) (by decide) ?_
        refine sx_aload_n (pc := 396) dL_law_396 rfl rfl ?_
        refine sx_aload_n (pc := 397) dL_law_397 rfl rfl ?_
        refine sx_iload (pc := 398) dL_law_398 rfl ?_
        refine sx_iconst (pc := 400) (v := 1) dL_law_400 (by decide) ?_
        refine sx_iadd (pc := 401) dL_law_401 ?_
        refine sx_sld (pc := 402) dL_law_402 (fun s h => ⟨h.2.2.1, h.2.2.2.1, h.2.2.2.2.1⟩) (sixx1 (by omega) (by omega)) ?_
        refine sx_aload_n (pc := 403) dL_law_403 rfl rfl ?_
        refine sx_iload (pc := 404) dL_law_404 rfl ?_
        refine sx_iconst (pc := 406) (v := 2) dL_law_406 (by decide) ?_
        refine sx_iadd (pc := 407) dL_law_407 ?_
        refine sx_sld (pc := 408) dL_law_408 (fun s h => ⟨h.2.2.1, h.2.2.2.1, h.2.2.2.2.1⟩) (sixx2 (by omega) (by omega)) ?_
        refine sx_callV (pc := 409) (As := [.int (xs ((nI (5 * c)) + 1).toNatClampNeg), .int (xs ((nI (5 * c)) + 2).toNatClampNeg)]) dL_law_409 (p_state X _ hE μ _ _ (n := 20 * c) (by omega) hV hD) mX5_state lm_L_60 rfl s_EW rfl ⟨Nat.le_of_ble_eq_true rfl, Nat.le_of_ble_eq_true rfl⟩ ⟨by simp only [rmN, room_1]; omega, by simp only [rmN, room_1]; omega⟩ (Nat.le_of_ble_eq_true rfl) hE (fun r_409 sh_409 μ19 h_409 => ?_)
        obtain ⟨rfl, k_409, w_409, rfl⟩ := h_409
        replace hM := hM.ks k_409
        have hW := w_409
        refine sx_pop (pc := 412) dL_law_412 rfl ?_
        refine sx_aload_n (pc := 413) dL_law_413 rfl rfl ?_
        refine sx_aload_n (pc := 414) dL_law_414 rfl rfl ?_
        refine sx_iload (pc := 415) dL_law_415 rfl ?_
        refine sx_iconst (pc := 417) (v := 1) dL_law_417 (by decide) ?_
        refine sx_iadd (pc := 418) dL_law_418 ?_
        refine sx_sld (pc := 419) dL_law_419 (fun s h => ⟨h.2.2.1, h.2.2.2.1, h.2.2.2.2.1⟩) (sixx1 (by omega) (by omega)) ?_
        refine sx_aload_n (pc := 420) dL_law_420 rfl rfl ?_
        refine sx_iload (pc := 421) dL_law_421 rfl ?_
        refine sx_iconst (pc := 423) (v := 2) dL_law_423 (by decide) ?_
        refine sx_iadd (pc := 424) dL_law_424 ?_
        refine sx_sld (pc := 425) dL_law_425 (fun s h => ⟨h.2.2.1, h.2.2.2.1, h.2.2.2.2.1⟩) (sixx2 (by omega) (by omega)) ?_
        refine sx_callV (pc := 426) (As := [.int (xs ((nI (5 * c)) + 1).toNatClampNeg), .int (xs ((nI (5 * c)) + 2).toNatClampNeg)]) dL_law_426 (q_state X _ hE μ19 _ _ (n := 20 * c) (by omega) hM hD) mX6_state lm_L_63 rfl s_Mo rfl ⟨Nat.le_of_ble_eq_true rfl, Nat.le_of_ble_eq_true rfl⟩ ⟨by simp only [rmN, room_1]; omega, by simp only [rmN, room_1]; omega⟩ (Nat.le_of_ble_eq_true rfl) hE (fun r_426 sh_426 μ20 h_426 => ?_)
        obtain ⟨rfl, k_426, w_426, rfl⟩ := h_426
        have hV2 := hW.of (fun a ha => k_426 a (Or.inl ha))
        have hDn : VD (20 * (c + 1)) v := hD.mono (by omega)
        have hM2 := w_426
        refine sx_pop (pc := 429) dL_law_429 rfl ?_
        refine sx_goto (pc := 430) (tgt := 470) dL_law_430 (by decide) ?_
        refine sx_iinc (pc := 470) (v := nI (5 * (c + 1))) (L' := [some (.ref bs), some (.ref (X.2 + 0)), some (.ref (X.2 + 95)), some (.ref (X.2 + 116)), some (.int (nI (5 * (c + 1)))), o5, o6]) dL_law_470 rfl (by rw [show Int32.ofInt 5 = nI 5 by decide, nI_add]; rfl) (by decide) rfl ?_
        refine sx_goto (pc := 473) (tgt := 23) dL_law_473 (by decide) ?_
        exact ih (c + 1) _ _ _ _ _ _ (by omega) (by omega) hV2 hM2 hDn (by first | (simp only [rmN]; omega) | omega) (by first | (simp only [rmN]; omega) | omega)
      · refine sx_tableIn (pc := 39) (off := 394) (tgt := 433) dL_law_39 (by decide) (by decide) (by decide) (by decide) ?_
        refine sx_aload_n (pc := 433) dL_law_433 rfl rfl ?_
        refine sx_aload_n (pc := 434) dL_law_434 rfl rfl ?_
        refine sx_iload (pc := 435) dL_law_435 rfl ?_
        refine sx_iconst (pc := 437) (v := 1) dL_law_437 (by decide) ?_
        refine sx_iadd (pc := 438) dL_law_438 ?_
        refine sx_sld (pc := 439) dL_law_439 (fun s h => ⟨h.2.2.1, h.2.2.2.1, h.2.2.2.2.1⟩) (sixx1 (by omega) (by omega)) ?_
        refine sx_aload_n (pc := 440) dL_law_440 rfl rfl ?_
        refine sx_iload (pc := 441) dL_law_441 rfl ?_
        refine sx_iconst (pc := 443) (v := 2) dL_law_443 (by decide) ?_
        refine sx_iadd (pc := 444) dL_law_444 ?_
        refine sx_sld (pc := 445) dL_law_445 (fun s h => ⟨h.2.2.1, h.2.2.2.1, h.2.2.2.2.1⟩) (sixx2 (by omega) (by omega)) ?_
        refine sx_callV (pc := 446) (As := [.int (xs ((nI (5 * c)) + 1).toNatClampNeg), .int (xs ((nI (5 * c)) + 2).toNatClampNeg)]) dL_law_446 (p_waits X _ hE μ _ _ (n := 20 * c) (by omega) hV hD) mX5_waits lm_L_64 rfl s_EW rfl ⟨Nat.le_of_ble_eq_true rfl, Nat.le_of_ble_eq_true rfl⟩ ⟨by simp only [rmN, room_1]; omega, by simp only [rmN, room_1]; omega⟩ (Nat.le_of_ble_eq_true rfl) hE (fun r_446 sh_446 μ21 h_446 => ?_)
        obtain ⟨rfl, k_446, w_446, rfl⟩ := h_446
        replace hM := hM.ks k_446
        have hW := w_446
        refine sx_pop (pc := 449) dL_law_449 rfl ?_
        refine sx_aload_n (pc := 450) dL_law_450 rfl rfl ?_
        refine sx_aload_n (pc := 451) dL_law_451 rfl rfl ?_
        refine sx_iload (pc := 452) dL_law_452 rfl ?_
        refine sx_iconst (pc := 454) (v := 1) dL_law_454 (by decide) ?_
        refine sx_iadd (pc := 455) dL_law_455 ?_
        refine sx_sld (pc := 456) dL_law_456 (fun s h => ⟨h.2.2.1, h.2.2.2.1, h.2.2.2.2.1⟩) (sixx1 (by omega) (by omega)) ?_
        refine sx_aload_n (pc := 457) dL_law_457 rfl rfl ?_
        refine sx_iload (pc := 458) dL_law_458 rfl ?_
        refine sx_iconst (pc := 460) (v := 2) dL_law_460 (by decide) ?_
        refine sx_iadd (pc := 461) dL_law_461 ?_
        refine sx_sld (pc := 462) dL_law_462 (fun s h => ⟨h.2.2.1, h.2.2.2.1, h.2.2.2.2.1⟩) (sixx2 (by omega) (by omega)) ?_
        refine sx_callV (pc := 463) (As := [.int (xs ((nI (5 * c)) + 1).toNatClampNeg), .int (xs ((nI (5 * c)) + 2).toNatClampNeg)]) dL_law_463 (q_waits X _ hE μ21 _ _ (n := 20 * c) (by omega) hM hD) mX6_waits lm_L_67 rfl s_Mo rfl ⟨Nat.le_of_ble_eq_true rfl, Nat.le_of_ble_eq_true rfl⟩ ⟨by simp only [rmN, room_1]; omega, by simp only [rmN, room_1]; omega⟩ (Nat.le_of_ble_eq_true rfl) hE (fun r_463 sh_463 μ22 h_463 => ?_)
        obtain ⟨rfl, k_463, w_463, rfl⟩ := h_463
        have hV2 := hW.of (fun a ha => k_463 a (Or.inl ha))
        have hDn : VD (20 * (c + 1)) v := hD.mono (by omega)
        have hM2 := w_463
        refine sx_pop (pc := 466) dL_law_466 rfl ?_
        refine sx_goto (pc := 467) (tgt := 470) dL_law_467 (by decide) ?_
        refine sx_iinc (pc := 470) (v := nI (5 * (c + 1))) (L' := [some (.ref bs), some (.ref (X.2 + 0)), some (.ref (X.2 + 95)), some (.ref (X.2 + 116)), some (.int (nI (5 * (c + 1)))), o5, o6]) dL_law_470 rfl (by rw [show Int32.ofInt 5 = nI 5 by decide, nI_add]; rfl) (by decide) rfl ?_
        refine sx_goto (pc := 473) (tgt := 23) dL_law_473 (by decide) ?_
        exact ih (c + 1) _ _ _ _ _ _ (by omega) (by omega) hV2 hM2 hDn (by first | (simp only [rmN]; omega) | omega) (by first | (simp only [rmN]; omega) | omega)
      · refine sx_tableOut (pc := 39) (tgt := 470) dL_law_39 w_39 (by decide) ?_
        refine sx_iinc (pc := 470) (v := nI (5 * (c + 1))) (L' := [some (.ref bs), some (.ref (X.2 + 0)), some (.ref (X.2 + 95)), some (.ref (X.2 + 116)), some (.int (nI (5 * (c + 1)))), o5, o6]) dL_law_470 rfl (by rw [show Int32.ofInt 5 = nI 5 by decide, nI_add]; rfl) (by decide) rfl ?_
        refine sx_goto (pc := 473) (tgt := 23) dL_law_473 (by decide) ?_
        exact ih (c + 1) _ _ _ _ _ _ (by omega) (by omega) hV hM (hD.mono (by omega)) (by first | (simp only [rmN]; omega) | omega) (by first | (simp only [rmN]; omega) | omega)
