/-! the law: its loop goes round once at most -/
set_option maxHeartbeats 2000000 in
set_option maxRecDepth 20000 in
theorem law_end {l : Launch} (X : xD) (bs Ln : Nat) (xs : Nat → Int32) (i : Int32) (o5 o6 : Option Value) (hi : nI Ln - 5 < i) (μ : xM) (cs ss : Nat) (h1 : cs ≤ 600002) (h2 : ss ≤ 7302232) : sx l room_1 X (EL X bs Ln xs) false kL_law shA.length (ZL X) 23 [some (.ref bs), some (.ref (X.2 + 0)), some (.ref (X.2 + 95)), some (.ref (X.2 + 116)), some (.int i), o5, o6] [] shA μ cs ss := by
  refine sx_iload (pc := 23) dL_law_23 rfl ?_
  refine sx_aload_n (pc := 25) dL_law_25 rfl rfl ?_
  refine sx_slen (pc := 26) dL_law_26 (fun s h => ⟨h.2.2.1, h.2.2.2.1, h.2.2.2.2⟩) ?_
  refine sx_iconst (pc := 27) (v := 5) dL_law_27 (by decide) ?_
  refine sx_isub (pc := 28) dL_law_28 ?_
  refine sx_icmp_gt (pc := 29) (tgt := 504) dL_law_29 (by decide) (fun _ => ?_) (fun h => absurd hi h)
  refine sx_iconst (pc := 504) (v := 1) dL_law_504 (by decide) ?_
  exact sx_lret (pc := 505) rfl dL_law_505 h1 h2
set_option maxHeartbeats 2000000 in
set_option maxRecDepth 20000 in
theorem law_body {l : Launch} (hl0 : l.stackTraces = false) (X : xD) (bs : Nat) (xs : Nat → Int32) (μ : xM) (hF : Fr μ) (hM : FM μ) (cs ss : Nat) (ecs : cs = 117) (ess : ss = 14230) : sx l room_1 X (EL X bs 5 xs) false kL_law shA.length (ZL X) 23 [some (.ref bs), some (.ref (X.2 + 0)), some (.ref (X.2 + 95)), some (.ref (X.2 + 116)), some (.int 0), none, none] [] shA μ cs ss := by
  subst ecs
  subst ess
  have hE : xEs X false shA.length (EL X bs 5 xs) := EL_st
  refine sx_iload (pc := 23) dL_law_23 rfl ?_
  refine sx_aload_n (pc := 25) dL_law_25 rfl rfl ?_
  refine sx_slen (pc := 26) dL_law_26 (fun s h => ⟨h.2.2.1, h.2.2.2.1, h.2.2.2.2⟩) ?_
  refine sx_iconst (pc := 27) (v := 5) dL_law_27 (by decide) ?_
  refine sx_isub (pc := 28) dL_law_28 ?_
  refine sx_icmp_gt (pc := 29) (tgt := 504) dL_law_29 (by decide) (fun c_29 => absurd c_29 (by decide)) (fun c_29 => ?_)
  refine sx_aload_n (pc := 32) dL_law_32 rfl rfl ?_
  refine sx_iload (pc := 33) dL_law_33 rfl ?_
  refine sx_sld (pc := 35) dL_law_35 (fun s h => ⟨h.2.2.1, h.2.2.2.1, h.2.2.2.2⟩) (by unfold vp_in; decide) ?_
  refine sx_bipush (pc := 36) (v := 15) dL_law_36 (by decide) ?_
  refine sx_iand (pc := 38) dL_law_38 ?_
  generalize xs (0 : Int32).toNatClampNeg &&& 15 = w39
  rcases sw11 w39 with rfl | rfl | rfl | rfl | rfl | rfl | rfl | rfl | rfl | rfl | rfl | w_39
  · refine sx_tableIn (pc := 39) (off := 57) (tgt := 96) dL_law_39 (by decide) (by decide) (by decide) (by decide) ?_
    refine sx_aload_n (pc := 96) dL_law_96 rfl rfl ?_
    refine sx_aload_n (pc := 97) dL_law_97 rfl rfl ?_
    refine sx_iload (pc := 98) dL_law_98 rfl ?_
    refine sx_iconst (pc := 100) (v := 1) dL_law_100 (by decide) ?_
    refine sx_iadd (pc := 101) dL_law_101 ?_
    refine sx_sld (pc := 102) dL_law_102 (fun s h => ⟨h.2.2.1, h.2.2.2.1, h.2.2.2.2⟩) (by unfold vp_in; decide) ?_
    refine sx_aload_n (pc := 103) dL_law_103 rfl rfl ?_
    refine sx_iload (pc := 104) dL_law_104 rfl ?_
    refine sx_iconst (pc := 106) (v := 2) dL_law_106 (by decide) ?_
    refine sx_iadd (pc := 107) dL_law_107 ?_
    refine sx_sld (pc := 108) dL_law_108 (fun s h => ⟨h.2.2.1, h.2.2.2.1, h.2.2.2.2⟩) (by unfold vp_in; decide) ?_
    refine sx_callV (pc := 109) (As := [.int (xs (0 + 1 : Int32).toNatClampNeg), .int (xs (0 + 2 : Int32).toNatClampNeg)]) dL_law_109 (p_octet X _ hE μ _ _ hF) mX5_octet lm_L_19 rfl s_EW rfl ⟨Nat.le_of_ble_eq_true rfl, Nat.le_of_ble_eq_true rfl⟩ ⟨Nat.le_of_ble_eq_true rfl, Nat.le_of_ble_eq_true rfl⟩ (Nat.le_of_ble_eq_true rfl) hE (fun r_109 sh_109 μ1 h_109 => ?_)
    obtain ⟨rfl, k_109, rfl⟩ := h_109
    refine sx_aload_n (pc := 112) dL_law_112 rfl rfl ?_
    refine sx_aload_n (pc := 113) dL_law_113 rfl rfl ?_
    refine sx_iload (pc := 114) dL_law_114 rfl ?_
    refine sx_iconst (pc := 116) (v := 1) dL_law_116 (by decide) ?_
    refine sx_iadd (pc := 117) dL_law_117 ?_
    refine sx_sld (pc := 118) dL_law_118 (fun s h => ⟨h.2.2.1, h.2.2.2.1, h.2.2.2.2⟩) (by unfold vp_in; decide) ?_
    refine sx_aload_n (pc := 119) dL_law_119 rfl rfl ?_
    refine sx_iload (pc := 120) dL_law_120 rfl ?_
    refine sx_iconst (pc := 122) (v := 2) dL_law_122 (by decide) ?_
    refine sx_iadd (pc := 123) dL_law_123 ?_
    refine sx_sld (pc := 124) dL_law_124 (fun s h => ⟨h.2.2.1, h.2.2.2.1, h.2.2.2.2⟩) (by unfold vp_in; decide) ?_
    refine sx_callV (pc := 125) (As := [.int (xs (0 + 1 : Int32).toNatClampNeg), .int (xs (0 + 2 : Int32).toNatClampNeg)]) dL_law_125 (q_octet X _ hE μ1 _ _ (hM.ks k_109)) mX6_octet lm_L_22 rfl s_Mo rfl ⟨Nat.le_of_ble_eq_true rfl, Nat.le_of_ble_eq_true rfl⟩ ⟨Nat.le_of_ble_eq_true rfl, Nat.le_of_ble_eq_true rfl⟩ (Nat.le_of_ble_eq_true rfl) hE (fun r_125 sh_125 μ2 h_125 => ?_)
    obtain ⟨rfl, rfl⟩ := h_125
    refine sx_icmp_eq (pc := 128) (tgt := 498) dL_law_128 (by decide) (fun c_128 => ?_) (fun c_128 => absurd rfl c_128)
    refine sx_iinc (pc := 498) (v := 0 + 5) (L' := [some (.ref bs), some (.ref (X.2 + 0)), some (.ref (X.2 + 95)), some (.ref (X.2 + 116)), some (.int (0 + 5)), none, none]) dL_law_498 rfl (by decide) (by decide) rfl ?_
    refine sx_goto (pc := 501) (tgt := 23) dL_law_501 (by decide) ?_
    exact law_end _ _ _ _ _ _ _ (by decide) _ _ _ (Nat.le_of_ble_eq_true rfl) (Nat.le_of_ble_eq_true rfl)
  · refine sx_tableIn (pc := 39) (off := 94) (tgt := 133) dL_law_39 (by decide) (by decide) (by decide) (by decide) ?_
    refine sx_aload_n (pc := 133) dL_law_133 rfl rfl ?_
    refine sx_aload_n (pc := 134) dL_law_134 rfl rfl ?_
    refine sx_iload (pc := 135) dL_law_135 rfl ?_
    refine sx_iconst (pc := 137) (v := 1) dL_law_137 (by decide) ?_
    refine sx_iadd (pc := 138) dL_law_138 ?_
    refine sx_sld (pc := 139) dL_law_139 (fun s h => ⟨h.2.2.1, h.2.2.2.1, h.2.2.2.2⟩) (by unfold vp_in; decide) ?_
    refine sx_aload_n (pc := 140) dL_law_140 rfl rfl ?_
    refine sx_iload (pc := 141) dL_law_141 rfl ?_
    refine sx_iconst (pc := 143) (v := 2) dL_law_143 (by decide) ?_
    refine sx_iadd (pc := 144) dL_law_144 ?_
    refine sx_sld (pc := 145) dL_law_145 (fun s h => ⟨h.2.2.1, h.2.2.2.1, h.2.2.2.2⟩) (by unfold vp_in; decide) ?_
    refine sx_aload_n (pc := 146) dL_law_146 rfl rfl ?_
    refine sx_help (pc := 147) hl0 hF (fun s h => h.2.1) hE dL_law_147 rfl ⟨Nat.le_of_ble_eq_true rfl, Nat.le_of_ble_eq_true rfl⟩ ⟨Nat.le_of_ble_eq_true rfl, Nat.le_of_ble_eq_true rfl⟩ (Nat.le_of_ble_eq_true rfl) ?_
    refine sx_istore (pc := 150) (L' := [some (.ref bs), some (.ref (X.2 + 0)), some (.ref (X.2 + 95)), some (.ref (X.2 + 116)), some (.int 0), some (.int 1), none]) dL_law_150 (by decide) rfl ?_
    refine sx_aload_n (pc := 152) dL_law_152 rfl rfl ?_
    refine sx_aload_n (pc := 153) dL_law_153 rfl rfl ?_
    refine sx_iload (pc := 154) dL_law_154 rfl ?_
    refine sx_iconst (pc := 156) (v := 1) dL_law_156 (by decide) ?_
    refine sx_iadd (pc := 157) dL_law_157 ?_
    refine sx_sld (pc := 158) dL_law_158 (fun s h => ⟨h.2.2.1, h.2.2.2.1, h.2.2.2.2⟩) (by unfold vp_in; decide) ?_
    refine sx_aload_n (pc := 159) dL_law_159 rfl rfl ?_
    refine sx_iload (pc := 160) dL_law_160 rfl ?_
    refine sx_iconst (pc := 162) (v := 2) dL_law_162 (by decide) ?_
    refine sx_iadd (pc := 163) dL_law_163 ?_
    refine sx_sld (pc := 164) dL_law_164 (fun s h => ⟨h.2.2.1, h.2.2.2.1, h.2.2.2.2⟩) (by unfold vp_in; decide) ?_
    refine sx_callV (pc := 165) (As := [.int (xs (0 + 1 : Int32).toNatClampNeg), .int (xs (0 + 2 : Int32).toNatClampNeg)]) dL_law_165 (q_answer X _ hE μ _ _ hM) mX6_answer lm_L_28 rfl s_Mo rfl ⟨Nat.le_of_ble_eq_true rfl, Nat.le_of_ble_eq_true rfl⟩ ⟨Nat.le_of_ble_eq_true rfl, Nat.le_of_ble_eq_true rfl⟩ (Nat.le_of_ble_eq_true rfl) hE (fun r_165 sh_165 μ3 h_165 => ?_)
    obtain ⟨rfl, k_165, rfl⟩ := h_165
    refine sx_istore (pc := 168) (L' := [some (.ref bs), some (.ref (X.2 + 0)), some (.ref (X.2 + 95)), some (.ref (X.2 + 116)), some (.int 0), some (.int 1), some (.int 0)]) dL_law_168 (by decide) rfl ?_
    refine sx_aload_n (pc := 170) dL_law_170 rfl rfl ?_
    refine sx_callV (pc := 171) (As := []) dL_law_171 (c_thrown X _ hE μ3) mX6_thrown lm_L_29 rfl s_Mo rfl ⟨Nat.le_of_ble_eq_true rfl, Nat.le_of_ble_eq_true rfl⟩ ⟨Nat.le_of_ble_eq_true rfl, Nat.le_of_ble_eq_true rfl⟩ (Nat.le_of_ble_eq_true rfl) hE (fun r_171 sh_171 μ4 h_171 => ?_)
    obtain ⟨rfl, rfl, rfl⟩ := h_171
    rw [k_165]
    refine sx_iload (pc := 174) dL_law_174 rfl ?_
    refine sx_icmp_eq (pc := 176) (tgt := 181) dL_law_176 (by decide) (fun c_176 => ?_) (fun c_176 => absurd c_176 (by decide))
    refine sx_iload (pc := 181) dL_law_181 rfl ?_
    refine sx_if_ne (pc := 183) (tgt := 198) dL_law_183 (by decide) (fun c_183 => ?_) (fun c_183 => absurd c_183 (by decide))
    refine sx_goto (pc := 198) (tgt := 498) dL_law_198 (by decide) ?_
    refine sx_iinc (pc := 498) (v := 0 + 5) (L' := [some (.ref bs), some (.ref (X.2 + 0)), some (.ref (X.2 + 95)), some (.ref (X.2 + 116)), some (.int (0 + 5)), some (.int 1), some (.int 0)]) dL_law_498 rfl (by decide) (by decide) rfl ?_
    refine sx_goto (pc := 501) (tgt := 23) dL_law_501 (by decide) ?_
    exact law_end _ _ _ _ _ _ _ (by decide) _ _ _ (Nat.le_of_ble_eq_true rfl) (Nat.le_of_ble_eq_true rfl)
  · refine sx_tableIn (pc := 39) (off := 162) (tgt := 201) dL_law_39 (by decide) (by decide) (by decide) (by decide) ?_
    refine sx_aload_n (pc := 201) dL_law_201 rfl rfl ?_
    refine sx_aload_n (pc := 202) dL_law_202 rfl rfl ?_
    refine sx_iload (pc := 203) dL_law_203 rfl ?_
    refine sx_iconst (pc := 205) (v := 1) dL_law_205 (by decide) ?_
    refine sx_iadd (pc := 206) dL_law_206 ?_
    refine sx_sld (pc := 207) dL_law_207 (fun s h => ⟨h.2.2.1, h.2.2.2.1, h.2.2.2.2⟩) (by unfold vp_in; decide) ?_
    refine sx_callV (pc := 208) (As := [.int (xs (0 + 1 : Int32).toNatClampNeg)]) dL_law_208 (p_reset X _ hE μ _ hF) mX5_reset lm_L_33 rfl s_EW rfl ⟨Nat.le_of_ble_eq_true rfl, Nat.le_of_ble_eq_true rfl⟩ ⟨Nat.le_of_ble_eq_true rfl, Nat.le_of_ble_eq_true rfl⟩ (Nat.le_of_ble_eq_true rfl) hE (fun r_208 sh_208 μ5 h_208 => ?_)
    obtain ⟨rfl, k_208, rfl⟩ := h_208
    refine sx_aload_n (pc := 211) dL_law_211 rfl rfl ?_
    refine sx_aload_n (pc := 212) dL_law_212 rfl rfl ?_
    refine sx_iload (pc := 213) dL_law_213 rfl ?_
    refine sx_iconst (pc := 215) (v := 1) dL_law_215 (by decide) ?_
    refine sx_iadd (pc := 216) dL_law_216 ?_
    refine sx_sld (pc := 217) dL_law_217 (fun s h => ⟨h.2.2.1, h.2.2.2.1, h.2.2.2.2⟩) (by unfold vp_in; decide) ?_
    refine sx_callV (pc := 218) (As := [.int (xs (0 + 1 : Int32).toNatClampNeg)]) dL_law_218 (q_reset X _ hE μ5 _ (hM.ks k_208)) mX6_reset lm_L_37 rfl s_Mo rfl ⟨Nat.le_of_ble_eq_true rfl, Nat.le_of_ble_eq_true rfl⟩ ⟨Nat.le_of_ble_eq_true rfl, Nat.le_of_ble_eq_true rfl⟩ (Nat.le_of_ble_eq_true rfl) hE (fun r_218 sh_218 μ6 h_218 => ?_)
    obtain ⟨rfl, rfl⟩ := h_218
    refine sx_icmp_eq (pc := 221) (tgt := 498) dL_law_221 (by decide) (fun c_221 => ?_) (fun c_221 => absurd rfl c_221)
    refine sx_iinc (pc := 498) (v := 0 + 5) (L' := [some (.ref bs), some (.ref (X.2 + 0)), some (.ref (X.2 + 95)), some (.ref (X.2 + 116)), some (.int (0 + 5)), none, none]) dL_law_498 rfl (by decide) (by decide) rfl ?_
    refine sx_goto (pc := 501) (tgt := 23) dL_law_501 (by decide) ?_
    exact law_end _ _ _ _ _ _ _ (by decide) _ _ _ (Nat.le_of_ble_eq_true rfl) (Nat.le_of_ble_eq_true rfl)
  · refine sx_tableIn (pc := 39) (off := 187) (tgt := 226) dL_law_39 (by decide) (by decide) (by decide) (by decide) ?_
    refine sx_aload_n (pc := 226) dL_law_226 rfl rfl ?_
    refine sx_aload_n (pc := 227) dL_law_227 rfl rfl ?_
    refine sx_iload (pc := 228) dL_law_228 rfl ?_
    refine sx_iconst (pc := 230) (v := 1) dL_law_230 (by decide) ?_
    refine sx_iadd (pc := 231) dL_law_231 ?_
    refine sx_sld (pc := 232) dL_law_232 (fun s h => ⟨h.2.2.1, h.2.2.2.1, h.2.2.2.2⟩) (by unfold vp_in; decide) ?_
    refine sx_aload_n (pc := 233) dL_law_233 rfl rfl ?_
    refine sx_iload (pc := 234) dL_law_234 rfl ?_
    refine sx_iconst (pc := 236) (v := 2) dL_law_236 (by decide) ?_
    refine sx_iadd (pc := 237) dL_law_237 ?_
    refine sx_sld (pc := 238) dL_law_238 (fun s h => ⟨h.2.2.1, h.2.2.2.1, h.2.2.2.2⟩) (by unfold vp_in; decide) ?_
    refine sx_aload_n (pc := 239) dL_law_239 rfl rfl ?_
    refine sx_iload (pc := 240) dL_law_240 rfl ?_
    refine sx_iconst (pc := 242) (v := 3) dL_law_242 (by decide) ?_
    refine sx_iadd (pc := 243) dL_law_243 ?_
    refine sx_sld (pc := 244) dL_law_244 (fun s h => ⟨h.2.2.1, h.2.2.2.1, h.2.2.2.2⟩) (by unfold vp_in; decide) ?_
    refine sx_aload_n (pc := 245) dL_law_245 rfl rfl ?_
    refine sx_iload (pc := 246) dL_law_246 rfl ?_
    refine sx_iconst (pc := 248) (v := 4) dL_law_248 (by decide) ?_
    refine sx_iadd (pc := 249) dL_law_249 ?_
    refine sx_sld (pc := 250) dL_law_250 (fun s h => ⟨h.2.2.1, h.2.2.2.1, h.2.2.2.2⟩) (by unfold vp_in; decide) ?_
    refine sx_callV (pc := 251) (As := [.int (xs (0 + 1 : Int32).toNatClampNeg), .int (xs (0 + 2 : Int32).toNatClampNeg), .int (xs (0 + 3 : Int32).toNatClampNeg), .int (xs (0 + 4 : Int32).toNatClampNeg)]) dL_law_251 (p_offline X _ hE μ _ _ _ _ hF) mX5_offline lm_L_38 rfl s_EW rfl ⟨Nat.le_of_ble_eq_true rfl, Nat.le_of_ble_eq_true rfl⟩ ⟨Nat.le_of_ble_eq_true rfl, Nat.le_of_ble_eq_true rfl⟩ (Nat.le_of_ble_eq_true rfl) hE (fun r_251 sh_251 μ7 h_251 => ?_)
    obtain ⟨rfl, k_251, rfl⟩ := h_251
    refine sx_aload_n (pc := 254) dL_law_254 rfl rfl ?_
    refine sx_aload_n (pc := 255) dL_law_255 rfl rfl ?_
    refine sx_iload (pc := 256) dL_law_256 rfl ?_
    refine sx_iconst (pc := 258) (v := 1) dL_law_258 (by decide) ?_
    refine sx_iadd (pc := 259) dL_law_259 ?_
    refine sx_sld (pc := 260) dL_law_260 (fun s h => ⟨h.2.2.1, h.2.2.2.1, h.2.2.2.2⟩) (by unfold vp_in; decide) ?_
    refine sx_aload_n (pc := 261) dL_law_261 rfl rfl ?_
    refine sx_iload (pc := 262) dL_law_262 rfl ?_
    refine sx_iconst (pc := 264) (v := 2) dL_law_264 (by decide) ?_
    refine sx_iadd (pc := 265) dL_law_265 ?_
    refine sx_sld (pc := 266) dL_law_266 (fun s h => ⟨h.2.2.1, h.2.2.2.1, h.2.2.2.2⟩) (by unfold vp_in; decide) ?_
    refine sx_aload_n (pc := 267) dL_law_267 rfl rfl ?_
    refine sx_iload (pc := 268) dL_law_268 rfl ?_
    refine sx_iconst (pc := 270) (v := 3) dL_law_270 (by decide) ?_
    refine sx_iadd (pc := 271) dL_law_271 ?_
    refine sx_sld (pc := 272) dL_law_272 (fun s h => ⟨h.2.2.1, h.2.2.2.1, h.2.2.2.2⟩) (by unfold vp_in; decide) ?_
    refine sx_aload_n (pc := 273) dL_law_273 rfl rfl ?_
    refine sx_iload (pc := 274) dL_law_274 rfl ?_
    refine sx_iconst (pc := 276) (v := 4) dL_law_276 (by decide) ?_
    refine sx_iadd (pc := 277) dL_law_277 ?_
    refine sx_sld (pc := 278) dL_law_278 (fun s h => ⟨h.2.2.1, h.2.2.2.1, h.2.2.2.2⟩) (by unfold vp_in; decide) ?_
    refine sx_callV (pc := 279) (As := [.int (xs (0 + 1 : Int32).toNatClampNeg), .int (xs (0 + 2 : Int32).toNatClampNeg), .int (xs (0 + 3 : Int32).toNatClampNeg), .int (xs (0 + 4 : Int32).toNatClampNeg)]) dL_law_279 (q_offline X _ hE μ7 _ _ _ _ (hM.ks k_251)) mX6_offline lm_L_42 rfl s_Mo rfl ⟨Nat.le_of_ble_eq_true rfl, Nat.le_of_ble_eq_true rfl⟩ ⟨Nat.le_of_ble_eq_true rfl, Nat.le_of_ble_eq_true rfl⟩ (Nat.le_of_ble_eq_true rfl) hE (fun r_279 sh_279 μ8 h_279 => ?_)
    obtain ⟨rfl, rfl⟩ := h_279
    refine sx_icmp_eq (pc := 282) (tgt := 498) dL_law_282 (by decide) (fun c_282 => ?_) (fun c_282 => absurd rfl c_282)
    refine sx_iinc (pc := 498) (v := 0 + 5) (L' := [some (.ref bs), some (.ref (X.2 + 0)), some (.ref (X.2 + 95)), some (.ref (X.2 + 116)), some (.int (0 + 5)), none, none]) dL_law_498 rfl (by decide) (by decide) rfl ?_
    refine sx_goto (pc := 501) (tgt := 23) dL_law_501 (by decide) ?_
    exact law_end _ _ _ _ _ _ _ (by decide) _ _ _ (Nat.le_of_ble_eq_true rfl) (Nat.le_of_ble_eq_true rfl)
  · refine sx_tableIn (pc := 39) (off := 248) (tgt := 287) dL_law_39 (by decide) (by decide) (by decide) (by decide) ?_
    refine sx_aload_n (pc := 287) dL_law_287 rfl rfl ?_
    refine sx_aload_n (pc := 288) dL_law_288 rfl rfl ?_
    refine sx_iload (pc := 289) dL_law_289 rfl ?_
    refine sx_iconst (pc := 291) (v := 1) dL_law_291 (by decide) ?_
    refine sx_iadd (pc := 292) dL_law_292 ?_
    refine sx_sld (pc := 293) dL_law_293 (fun s h => ⟨h.2.2.1, h.2.2.2.1, h.2.2.2.2⟩) (by unfold vp_in; decide) ?_
    refine sx_callV (pc := 294) (As := [.int (xs (0 + 1 : Int32).toNatClampNeg)]) dL_law_294 (p_join X _ hE μ _ hF) mX5_join lm_L_43 rfl s_EW rfl ⟨Nat.le_of_ble_eq_true rfl, Nat.le_of_ble_eq_true rfl⟩ ⟨Nat.le_of_ble_eq_true rfl, Nat.le_of_ble_eq_true rfl⟩ (Nat.le_of_ble_eq_true rfl) hE (fun r_294 sh_294 μ9 h_294 => ?_)
    obtain ⟨rfl, k_294, rfl⟩ := h_294
    refine sx_aload_n (pc := 297) dL_law_297 rfl rfl ?_
    refine sx_aload_n (pc := 298) dL_law_298 rfl rfl ?_
    refine sx_iload (pc := 299) dL_law_299 rfl ?_
    refine sx_iconst (pc := 301) (v := 1) dL_law_301 (by decide) ?_
    refine sx_iadd (pc := 302) dL_law_302 ?_
    refine sx_sld (pc := 303) dL_law_303 (fun s h => ⟨h.2.2.1, h.2.2.2.1, h.2.2.2.2⟩) (by unfold vp_in; decide) ?_
    refine sx_callV (pc := 304) (As := [.int (xs (0 + 1 : Int32).toNatClampNeg)]) dL_law_304 (q_join X _ hE μ9 _ (hM.ks k_294)) mX6_join lm_L_46 rfl s_Mo rfl ⟨Nat.le_of_ble_eq_true rfl, Nat.le_of_ble_eq_true rfl⟩ ⟨Nat.le_of_ble_eq_true rfl, Nat.le_of_ble_eq_true rfl⟩ (Nat.le_of_ble_eq_true rfl) hE (fun r_304 sh_304 μ10 h_304 => ?_)
    obtain ⟨rfl, rfl⟩ := h_304
    refine sx_icmp_eq (pc := 307) (tgt := 498) dL_law_307 (by decide) (fun c_307 => ?_) (fun c_307 => absurd rfl c_307)
    refine sx_iinc (pc := 498) (v := 0 + 5) (L' := [some (.ref bs), some (.ref (X.2 + 0)), some (.ref (X.2 + 95)), some (.ref (X.2 + 116)), some (.int (0 + 5)), none, none]) dL_law_498 rfl (by decide) (by decide) rfl ?_
    refine sx_goto (pc := 501) (tgt := 23) dL_law_501 (by decide) ?_
    exact law_end _ _ _ _ _ _ _ (by decide) _ _ _ (Nat.le_of_ble_eq_true rfl) (Nat.le_of_ble_eq_true rfl)
  · refine sx_tableIn (pc := 39) (off := 273) (tgt := 312) dL_law_39 (by decide) (by decide) (by decide) (by decide) ?_
    refine sx_aload_n (pc := 312) dL_law_312 rfl rfl ?_
    refine sx_aload_n (pc := 313) dL_law_313 rfl rfl ?_
    refine sx_iload (pc := 314) dL_law_314 rfl ?_
    refine sx_iconst (pc := 316) (v := 1) dL_law_316 (by decide) ?_
    refine sx_iadd (pc := 317) dL_law_317 ?_
    refine sx_sld (pc := 318) dL_law_318 (fun s h => ⟨h.2.2.1, h.2.2.2.1, h.2.2.2.2⟩) (by unfold vp_in; decide) ?_
    refine sx_aload_n (pc := 319) dL_law_319 rfl rfl ?_
    refine sx_iload (pc := 320) dL_law_320 rfl ?_
    refine sx_iconst (pc := 322) (v := 2) dL_law_322 (by decide) ?_
    refine sx_iadd (pc := 323) dL_law_323 ?_
    refine sx_sld (pc := 324) dL_law_324 (fun s h => ⟨h.2.2.1, h.2.2.2.1, h.2.2.2.2⟩) (by unfold vp_in; decide) ?_
    refine sx_callV (pc := 325) (As := [.int (xs (0 + 1 : Int32).toNatClampNeg), .int (xs (0 + 2 : Int32).toNatClampNeg)]) dL_law_325 (p_owes X _ hE μ _ _ hF) mX5_owes lm_L_47 rfl s_EW rfl ⟨Nat.le_of_ble_eq_true rfl, Nat.le_of_ble_eq_true rfl⟩ ⟨Nat.le_of_ble_eq_true rfl, Nat.le_of_ble_eq_true rfl⟩ (Nat.le_of_ble_eq_true rfl) hE (fun r_325 sh_325 μ11 h_325 => ?_)
    obtain ⟨rfl, k_325, rfl⟩ := h_325
    refine sx_aload_n (pc := 328) dL_law_328 rfl rfl ?_
    refine sx_aload_n (pc := 329) dL_law_329 rfl rfl ?_
    refine sx_iload (pc := 330) dL_law_330 rfl ?_
    refine sx_iconst (pc := 332) (v := 1) dL_law_332 (by decide) ?_
    refine sx_iadd (pc := 333) dL_law_333 ?_
    refine sx_sld (pc := 334) dL_law_334 (fun s h => ⟨h.2.2.1, h.2.2.2.1, h.2.2.2.2⟩) (by unfold vp_in; decide) ?_
    refine sx_aload_n (pc := 335) dL_law_335 rfl rfl ?_
    refine sx_iload (pc := 336) dL_law_336 rfl ?_
    refine sx_iconst (pc := 338) (v := 2) dL_law_338 (by decide) ?_
    refine sx_iadd (pc := 339) dL_law_339 ?_
    refine sx_sld (pc := 340) dL_law_340 (fun s h => ⟨h.2.2.1, h.2.2.2.1, h.2.2.2.2⟩) (by unfold vp_in; decide) ?_
    refine sx_callV (pc := 341) (As := [.int (xs (0 + 1 : Int32).toNatClampNeg), .int (xs (0 + 2 : Int32).toNatClampNeg)]) dL_law_341 (q_owes X _ hE μ11 _ _ (hM.ks k_325)) mX6_owes lm_L_50 rfl s_Mo rfl ⟨Nat.le_of_ble_eq_true rfl, Nat.le_of_ble_eq_true rfl⟩ ⟨Nat.le_of_ble_eq_true rfl, Nat.le_of_ble_eq_true rfl⟩ (Nat.le_of_ble_eq_true rfl) hE (fun r_341 sh_341 μ12 h_341 => ?_)
    obtain ⟨rfl, rfl⟩ := h_341
    refine sx_icmp_eq (pc := 344) (tgt := 498) dL_law_344 (by decide) (fun c_344 => ?_) (fun c_344 => absurd rfl c_344)
    refine sx_iinc (pc := 498) (v := 0 + 5) (L' := [some (.ref bs), some (.ref (X.2 + 0)), some (.ref (X.2 + 95)), some (.ref (X.2 + 116)), some (.int (0 + 5)), none, none]) dL_law_498 rfl (by decide) (by decide) rfl ?_
    refine sx_goto (pc := 501) (tgt := 23) dL_law_501 (by decide) ?_
    exact law_end _ _ _ _ _ _ _ (by decide) _ _ _ (Nat.le_of_ble_eq_true rfl) (Nat.le_of_ble_eq_true rfl)
  · refine sx_tableIn (pc := 39) (off := 310) (tgt := 349) dL_law_39 (by decide) (by decide) (by decide) (by decide) ?_
    refine sx_aload_n (pc := 349) dL_law_349 rfl rfl ?_
    refine sx_callV (pc := 350) (As := []) dL_law_350 (p_acts X _ hE μ  hF) mX5_acts lm_L_51 rfl s_EW rfl ⟨Nat.le_of_ble_eq_true rfl, Nat.le_of_ble_eq_true rfl⟩ ⟨Nat.le_of_ble_eq_true rfl, Nat.le_of_ble_eq_true rfl⟩ (Nat.le_of_ble_eq_true rfl) hE (fun r_350 sh_350 μ13 h_350 => ?_)
    obtain ⟨rfl, k_350, rfl⟩ := h_350
    refine sx_aload_n (pc := 353) dL_law_353 rfl rfl ?_
    refine sx_callV (pc := 354) (As := []) dL_law_354 (q_acts X _ hE μ13  (hM.ks k_350)) mX6_acts lm_L_54 rfl s_Mo rfl ⟨Nat.le_of_ble_eq_true rfl, Nat.le_of_ble_eq_true rfl⟩ ⟨Nat.le_of_ble_eq_true rfl, Nat.le_of_ble_eq_true rfl⟩ (Nat.le_of_ble_eq_true rfl) hE (fun r_354 sh_354 μ14 h_354 => ?_)
    obtain ⟨rfl, rfl⟩ := h_354
    refine sx_icmp_eq (pc := 357) (tgt := 498) dL_law_357 (by decide) (fun c_357 => ?_) (fun c_357 => absurd rfl c_357)
    refine sx_iinc (pc := 498) (v := 0 + 5) (L' := [some (.ref bs), some (.ref (X.2 + 0)), some (.ref (X.2 + 95)), some (.ref (X.2 + 116)), some (.int (0 + 5)), none, none]) dL_law_498 rfl (by decide) (by decide) rfl ?_
    refine sx_goto (pc := 501) (tgt := 23) dL_law_501 (by decide) ?_
    exact law_end _ _ _ _ _ _ _ (by decide) _ _ _ (Nat.le_of_ble_eq_true rfl) (Nat.le_of_ble_eq_true rfl)
  · refine sx_tableIn (pc := 39) (off := 323) (tgt := 362) dL_law_39 (by decide) (by decide) (by decide) (by decide) ?_
    refine sx_aload_n (pc := 362) dL_law_362 rfl rfl ?_
    refine sx_aload_n (pc := 363) dL_law_363 rfl rfl ?_
    refine sx_iload (pc := 364) dL_law_364 rfl ?_
    refine sx_iconst (pc := 366) (v := 1) dL_law_366 (by decide) ?_
    refine sx_iadd (pc := 367) dL_law_367 ?_
    refine sx_sld (pc := 368) dL_law_368 (fun s h => ⟨h.2.2.1, h.2.2.2.1, h.2.2.2.2⟩) (by unfold vp_in; decide) ?_
    refine sx_aload_n (pc := 369) dL_law_369 rfl rfl ?_
    refine sx_iload (pc := 370) dL_law_370 rfl ?_
    refine sx_iconst (pc := 372) (v := 2) dL_law_372 (by decide) ?_
    refine sx_iadd (pc := 373) dL_law_373 ?_
    refine sx_sld (pc := 374) dL_law_374 (fun s h => ⟨h.2.2.1, h.2.2.2.1, h.2.2.2.2⟩) (by unfold vp_in; decide) ?_
    refine sx_callV (pc := 375) (As := [.int (xs (0 + 1 : Int32).toNatClampNeg), .int (xs (0 + 2 : Int32).toNatClampNeg)]) dL_law_375 (p_act X _ hE μ _ _ hF) mX5_act lm_L_55 rfl s_EW rfl ⟨Nat.le_of_ble_eq_true rfl, Nat.le_of_ble_eq_true rfl⟩ ⟨Nat.le_of_ble_eq_true rfl, Nat.le_of_ble_eq_true rfl⟩ (Nat.le_of_ble_eq_true rfl) hE (fun r_375 sh_375 μ15 h_375 => ?_)
    obtain ⟨rfl, k_375, rfl⟩ := h_375
    refine sx_aload_n (pc := 378) dL_law_378 rfl rfl ?_
    refine sx_aload_n (pc := 379) dL_law_379 rfl rfl ?_
    refine sx_iload (pc := 380) dL_law_380 rfl ?_
    refine sx_iconst (pc := 382) (v := 1) dL_law_382 (by decide) ?_
    refine sx_iadd (pc := 383) dL_law_383 ?_
    refine sx_sld (pc := 384) dL_law_384 (fun s h => ⟨h.2.2.1, h.2.2.2.1, h.2.2.2.2⟩) (by unfold vp_in; decide) ?_
    refine sx_aload_n (pc := 385) dL_law_385 rfl rfl ?_
    refine sx_iload (pc := 386) dL_law_386 rfl ?_
    refine sx_iconst (pc := 388) (v := 2) dL_law_388 (by decide) ?_
    refine sx_iadd (pc := 389) dL_law_389 ?_
    refine sx_sld (pc := 390) dL_law_390 (fun s h => ⟨h.2.2.1, h.2.2.2.1, h.2.2.2.2⟩) (by unfold vp_in; decide) ?_
    refine sx_callV (pc := 391) (As := [.int (xs (0 + 1 : Int32).toNatClampNeg), .int (xs (0 + 2 : Int32).toNatClampNeg)]) dL_law_391 (q_act X _ hE μ15 _ _ (hM.ks k_375)) mX6_act lm_L_58 rfl s_Mo rfl ⟨Nat.le_of_ble_eq_true rfl, Nat.le_of_ble_eq_true rfl⟩ ⟨Nat.le_of_ble_eq_true rfl, Nat.le_of_ble_eq_true rfl⟩ (Nat.le_of_ble_eq_true rfl) hE (fun r_391 sh_391 μ16 h_391 => ?_)
    obtain ⟨rfl, rfl⟩ := h_391
    refine sx_icmp_eq (pc := 394) (tgt := 498) dL_law_394 (by decide) (fun c_394 => ?_) (fun c_394 => absurd rfl c_394)
    refine sx_iinc (pc := 498) (v := 0 + 5) (L' := [some (.ref bs), some (.ref (X.2 + 0)), some (.ref (X.2 + 95)), some (.ref (X.2 + 116)), some (.int (0 + 5)), none, none]) dL_law_498 rfl (by decide) (by decide) rfl ?_
    refine sx_goto (pc := 501) (tgt := 23) dL_law_501 (by decide) ?_
    exact law_end _ _ _ _ _ _ _ (by decide) _ _ _ (Nat.le_of_ble_eq_true rfl) (Nat.le_of_ble_eq_true rfl)
  · refine sx_tableIn (pc := 39) (off := 360) (tgt := 399) dL_law_39 (by decide) (by decide) (by decide) (by decide) ?_
    refine sx_aload_n (pc := 399) dL_law_399 rfl rfl ?_
    refine sx_aload_n (pc := 400) dL_law_400 rfl rfl ?_
    refine sx_iload (pc := 401) dL_law_401 rfl ?_
    refine sx_iconst (pc := 403) (v := 1) dL_law_403 (by decide) ?_
    refine sx_iadd (pc := 404) dL_law_404 ?_
    refine sx_sld (pc := 405) dL_law_405 (fun s h => ⟨h.2.2.1, h.2.2.2.1, h.2.2.2.2⟩) (by unfold vp_in; decide) ?_
    refine sx_callV (pc := 406) (As := [.int (xs (0 + 1 : Int32).toNatClampNeg)]) dL_law_406 (p_sum X _ hE μ _ hF) mX5_sum lm_L_59 rfl s_EW rfl ⟨Nat.le_of_ble_eq_true rfl, Nat.le_of_ble_eq_true rfl⟩ ⟨Nat.le_of_ble_eq_true rfl, Nat.le_of_ble_eq_true rfl⟩ (Nat.le_of_ble_eq_true rfl) hE (fun r_406 sh_406 μ17 h_406 => ?_)
    obtain ⟨rfl, k_406, rfl⟩ := h_406
    refine sx_aload_n (pc := 409) dL_law_409 rfl rfl ?_
    refine sx_aload_n (pc := 410) dL_law_410 rfl rfl ?_
    refine sx_iload (pc := 411) dL_law_411 rfl ?_
    refine sx_iconst (pc := 413) (v := 1) dL_law_413 (by decide) ?_
    refine sx_iadd (pc := 414) dL_law_414 ?_
    refine sx_sld (pc := 415) dL_law_415 (fun s h => ⟨h.2.2.1, h.2.2.2.1, h.2.2.2.2⟩) (by unfold vp_in; decide) ?_
    refine sx_callV (pc := 416) (As := [.int (xs (0 + 1 : Int32).toNatClampNeg)]) dL_law_416 (q_sum X _ hE μ17 _ (hM.ks k_406)) mX6_sum lm_L_62 rfl s_Mo rfl ⟨Nat.le_of_ble_eq_true rfl, Nat.le_of_ble_eq_true rfl⟩ ⟨Nat.le_of_ble_eq_true rfl, Nat.le_of_ble_eq_true rfl⟩ (Nat.le_of_ble_eq_true rfl) hE (fun r_416 sh_416 μ18 h_416 => ?_)
    obtain ⟨rfl, rfl⟩ := h_416
    refine sx_icmp_eq (pc := 419) (tgt := 498) dL_law_419 (by decide) (fun c_419 => ?_) (fun c_419 => absurd rfl c_419)
    refine sx_iinc (pc := 498) (v := 0 + 5) (L' := [some (.ref bs), some (.ref (X.2 + 0)), some (.ref (X.2 + 95)), some (.ref (X.2 + 116)), some (.int (0 + 5)), none, none]) dL_law_498 rfl (by decide) (by decide) rfl ?_
    refine sx_goto (pc := 501) (tgt := 23) dL_law_501 (by decide) ?_
    exact law_end _ _ _ _ _ _ _ (by decide) _ _ _ (Nat.le_of_ble_eq_true rfl) (Nat.le_of_ble_eq_true rfl)
  · refine sx_tableIn (pc := 39) (off := 385) (tgt := 424) dL_law_39 (by decide) (by decide) (by decide) (by decide) ?_
    refine sx_aload_n (pc := 424) dL_law_424 rfl rfl ?_
    refine sx_aload_n (pc := 425) dL_law_425 rfl rfl ?_
    refine sx_iload (pc := 426) dL_law_426 rfl ?_
    refine sx_iconst (pc := 428) (v := 1) dL_law_428 (by decide) ?_
    refine sx_iadd (pc := 429) dL_law_429 ?_
    refine sx_sld (pc := 430) dL_law_430 (fun s h => ⟨h.2.2.1, h.2.2.2.1, h.2.2.2.2⟩) (by unfold vp_in; decide) ?_
    refine sx_aload_n (pc := 431) dL_law_431 rfl rfl ?_
    refine sx_iload (pc := 432) dL_law_432 rfl ?_
    refine sx_iconst (pc := 434) (v := 2) dL_law_434 (by decide) ?_
    refine sx_iadd (pc := 435) dL_law_435 ?_
    refine sx_sld (pc := 436) dL_law_436 (fun s h => ⟨h.2.2.1, h.2.2.2.1, h.2.2.2.2⟩) (by unfold vp_in; decide) ?_
    refine sx_callV (pc := 437) (As := [.int (xs (0 + 1 : Int32).toNatClampNeg), .int (xs (0 + 2 : Int32).toNatClampNeg)]) dL_law_437 (p_state X _ hE μ _ _ hF) mX5_state lm_L_63 rfl s_EW rfl ⟨Nat.le_of_ble_eq_true rfl, Nat.le_of_ble_eq_true rfl⟩ ⟨Nat.le_of_ble_eq_true rfl, Nat.le_of_ble_eq_true rfl⟩ (Nat.le_of_ble_eq_true rfl) hE (fun r_437 sh_437 μ19 h_437 => ?_)
    obtain ⟨rfl, k_437, rfl⟩ := h_437
    refine sx_aload_n (pc := 440) dL_law_440 rfl rfl ?_
    refine sx_aload_n (pc := 441) dL_law_441 rfl rfl ?_
    refine sx_iload (pc := 442) dL_law_442 rfl ?_
    refine sx_iconst (pc := 444) (v := 1) dL_law_444 (by decide) ?_
    refine sx_iadd (pc := 445) dL_law_445 ?_
    refine sx_sld (pc := 446) dL_law_446 (fun s h => ⟨h.2.2.1, h.2.2.2.1, h.2.2.2.2⟩) (by unfold vp_in; decide) ?_
    refine sx_aload_n (pc := 447) dL_law_447 rfl rfl ?_
    refine sx_iload (pc := 448) dL_law_448 rfl ?_
    refine sx_iconst (pc := 450) (v := 2) dL_law_450 (by decide) ?_
    refine sx_iadd (pc := 451) dL_law_451 ?_
    refine sx_sld (pc := 452) dL_law_452 (fun s h => ⟨h.2.2.1, h.2.2.2.1, h.2.2.2.2⟩) (by unfold vp_in; decide) ?_
    refine sx_callV (pc := 453) (As := [.int (xs (0 + 1 : Int32).toNatClampNeg), .int (xs (0 + 2 : Int32).toNatClampNeg)]) dL_law_453 (q_state X _ hE μ19 _ _ (hM.ks k_437)) mX6_state lm_L_66 rfl s_Mo rfl ⟨Nat.le_of_ble_eq_true rfl, Nat.le_of_ble_eq_true rfl⟩ ⟨Nat.le_of_ble_eq_true rfl, Nat.le_of_ble_eq_true rfl⟩ (Nat.le_of_ble_eq_true rfl) hE (fun r_453 sh_453 μ20 h_453 => ?_)
    obtain ⟨rfl, rfl⟩ := h_453
    refine sx_icmp_eq (pc := 456) (tgt := 498) dL_law_456 (by decide) (fun c_456 => ?_) (fun c_456 => absurd rfl c_456)
    refine sx_iinc (pc := 498) (v := 0 + 5) (L' := [some (.ref bs), some (.ref (X.2 + 0)), some (.ref (X.2 + 95)), some (.ref (X.2 + 116)), some (.int (0 + 5)), none, none]) dL_law_498 rfl (by decide) (by decide) rfl ?_
    refine sx_goto (pc := 501) (tgt := 23) dL_law_501 (by decide) ?_
    exact law_end _ _ _ _ _ _ _ (by decide) _ _ _ (Nat.le_of_ble_eq_true rfl) (Nat.le_of_ble_eq_true rfl)
  · refine sx_tableIn (pc := 39) (off := 422) (tgt := 461) dL_law_39 (by decide) (by decide) (by decide) (by decide) ?_
    refine sx_aload_n (pc := 461) dL_law_461 rfl rfl ?_
    refine sx_aload_n (pc := 462) dL_law_462 rfl rfl ?_
    refine sx_iload (pc := 463) dL_law_463 rfl ?_
    refine sx_iconst (pc := 465) (v := 1) dL_law_465 (by decide) ?_
    refine sx_iadd (pc := 466) dL_law_466 ?_
    refine sx_sld (pc := 467) dL_law_467 (fun s h => ⟨h.2.2.1, h.2.2.2.1, h.2.2.2.2⟩) (by unfold vp_in; decide) ?_
    refine sx_aload_n (pc := 468) dL_law_468 rfl rfl ?_
    refine sx_iload (pc := 469) dL_law_469 rfl ?_
    refine sx_iconst (pc := 471) (v := 2) dL_law_471 (by decide) ?_
    refine sx_iadd (pc := 472) dL_law_472 ?_
    refine sx_sld (pc := 473) dL_law_473 (fun s h => ⟨h.2.2.1, h.2.2.2.1, h.2.2.2.2⟩) (by unfold vp_in; decide) ?_
    refine sx_callV (pc := 474) (As := [.int (xs (0 + 1 : Int32).toNatClampNeg), .int (xs (0 + 2 : Int32).toNatClampNeg)]) dL_law_474 (p_waits X _ hE μ _ _ hF) mX5_waits lm_L_67 rfl s_EW rfl ⟨Nat.le_of_ble_eq_true rfl, Nat.le_of_ble_eq_true rfl⟩ ⟨Nat.le_of_ble_eq_true rfl, Nat.le_of_ble_eq_true rfl⟩ (Nat.le_of_ble_eq_true rfl) hE (fun r_474 sh_474 μ21 h_474 => ?_)
    obtain ⟨rfl, k_474, rfl⟩ := h_474
    refine sx_aload_n (pc := 477) dL_law_477 rfl rfl ?_
    refine sx_aload_n (pc := 478) dL_law_478 rfl rfl ?_
    refine sx_iload (pc := 479) dL_law_479 rfl ?_
    refine sx_iconst (pc := 481) (v := 1) dL_law_481 (by decide) ?_
    refine sx_iadd (pc := 482) dL_law_482 ?_
    refine sx_sld (pc := 483) dL_law_483 (fun s h => ⟨h.2.2.1, h.2.2.2.1, h.2.2.2.2⟩) (by unfold vp_in; decide) ?_
    refine sx_aload_n (pc := 484) dL_law_484 rfl rfl ?_
    refine sx_iload (pc := 485) dL_law_485 rfl ?_
    refine sx_iconst (pc := 487) (v := 2) dL_law_487 (by decide) ?_
    refine sx_iadd (pc := 488) dL_law_488 ?_
    refine sx_sld (pc := 489) dL_law_489 (fun s h => ⟨h.2.2.1, h.2.2.2.1, h.2.2.2.2⟩) (by unfold vp_in; decide) ?_
    refine sx_callV (pc := 490) (As := [.int (xs (0 + 1 : Int32).toNatClampNeg), .int (xs (0 + 2 : Int32).toNatClampNeg)]) dL_law_490 (q_waits X _ hE μ21 _ _ (hM.ks k_474)) mX6_waits lm_L_70 rfl s_Mo rfl ⟨Nat.le_of_ble_eq_true rfl, Nat.le_of_ble_eq_true rfl⟩ ⟨Nat.le_of_ble_eq_true rfl, Nat.le_of_ble_eq_true rfl⟩ (Nat.le_of_ble_eq_true rfl) hE (fun r_490 sh_490 μ22 h_490 => ?_)
    obtain ⟨rfl, rfl⟩ := h_490
    refine sx_icmp_eq (pc := 493) (tgt := 498) dL_law_493 (by decide) (fun c_493 => ?_) (fun c_493 => absurd rfl c_493)
    refine sx_iinc (pc := 498) (v := 0 + 5) (L' := [some (.ref bs), some (.ref (X.2 + 0)), some (.ref (X.2 + 95)), some (.ref (X.2 + 116)), some (.int (0 + 5)), none, none]) dL_law_498 rfl (by decide) (by decide) rfl ?_
    refine sx_goto (pc := 501) (tgt := 23) dL_law_501 (by decide) ?_
    exact law_end _ _ _ _ _ _ _ (by decide) _ _ _ (Nat.le_of_ble_eq_true rfl) (Nat.le_of_ble_eq_true rfl)
  · refine sx_tableOut (pc := 39) (tgt := 498) dL_law_39 w_39 (by decide) ?_
    refine sx_iinc (pc := 498) (v := 0 + 5) (L' := [some (.ref bs), some (.ref (X.2 + 0)), some (.ref (X.2 + 95)), some (.ref (X.2 + 116)), some (.int (0 + 5)), none, none]) dL_law_498 rfl (by decide) (by decide) rfl ?_
    refine sx_goto (pc := 501) (tgt := 23) dL_law_501 (by decide) ?_
    exact law_end _ _ _ _ _ _ _ (by decide) _ _ _ (Nat.le_of_ble_eq_true rfl) (Nat.le_of_ble_eq_true rfl)
set_option maxHeartbeats 2000000 in
set_option maxRecDepth 20000 in
theorem shA_eq : (shC ++ shMo) ++ [(.inr (0, 1, none) : xS)] = shA := by unfold shA; rfl
theorem law_loop {l : Launch} (hl0 : l.stackTraces = false) (X : xD) (bs Ln : Nat) (hL : Ln ≤ 5) (xs : Nat → Int32) (μ2 μ3 μ4 μ5 : xM) (cs ss : Nat) (ecs : cs = 117) (ess : ss = 14230)
    (f1 : ∀ d, d < 6 → LFx μ2 d) (f2 : ∀ a, 57 ≤ a → a < 92 → a ≠ 58 → ∀ j, μ2 a j = 0) (f4 : μ2 92 1 = 0) (f5 : μ2 0 4 = 0) (hμ3 : μ3 = va_up μ2 95 (fun _ => 0)) (g1 : ∀ a, a < 96 → a ≠ 95 → μ4 a = μ3 a) (g3 : μ4 95 20 = 0) (g4 : μ4 95 22 = 0) (g5 : ∀ a, 96 ≤ a → a < 96 + 20 → a ≠ 96 + 4 → ∀ j, μ4 a j = 0) (g6 : ∀ j, j < 6 → μ4 (96 + 4) j = (-1)) (hμ5 : μ5 = va_up μ4 116 (fun _ => 0)) : sx l room_1 X (EL X bs Ln xs) false kL_law shA.length (ZL X) 23 [some (.ref bs), some (.ref (X.2 + 0)), some (.ref (X.2 + 95)), some (.ref (X.2 + 116)), some (.int 0), none, none] [] shA μ5 cs ss := by
  have k5 : ∀ a, a < 116 → μ5 a = μ4 a := fun a ha => by rw [hμ5]; simp [va_up, show a ≠ 116 by omega]
  have k3 : ∀ a, a < 95 → μ5 a = μ2 a := fun a ha => by rw [k5 a (by omega), g1 a (by omega) (by omega), hμ3]; simp [va_up, show a ≠ 95 by omega]
  have hF : Fr μ5 := by
    refine ⟨fun d hd => ?_, fun j => by rw [k3 57 (by omega)]; exact f2 57 (by omega) (by omega) (by omega) j, fun j => by rw [k3 91 (by omega)]; exact f2 91 (by omega) (by omega) (by omega) j, by rw [k3 92 (by omega)]; exact f4, by rw [k3 0 (by omega)]; exact f5⟩
    have h := f1 d hd
    rw [k3 (2 + 9 * d) (by omega), k3 (2 + 9 * d + 2) (by omega)]
    exact ⟨h.1, h.2.1, h.2.2.1, h.2.2.2.1, h.2.2.2.2.1, h.2.2.2.2.2.1, h.2.2.2.2.2.2.1⟩
  have hM : FM μ5 := by
    have z : ∀ a, 96 ≤ a → a < 116 → a ≠ 100 → ∀ j, μ5 a j = 0 := fun a h1 h2 h3 j => by rw [k5 a h2]; exact g5 a h1 (by omega) (by omega) j
    refine ⟨fun j hj => ⟨z 96 (by omega) (by omega) (by omega) j, z 98 (by omega) (by omega) (by omega) j, z 99 (by omega) (by omega) (by omega) j, by rw [k5 100 (by omega)]; exact g6 j hj, z 101 (by omega) (by omega) (by omega) j, z 102 (by omega) (by omega) (by omega) j, z 106 (by omega) (by omega) (by omega) j⟩, fun j => z 110 (by omega) (by omega) (by omega) j, fun j => z 113 (by omega) (by omega) (by omega) j, by rw [k5 95 (by omega)]; exact g3, by rw [k5 95 (by omega)]; exact g4⟩
  rcases Nat.lt_or_ge Ln 5 with h | h
  · refine law_end _ _ _ _ _ _ _ ?_ _ _ _ (by omega) (by omega)
    rcases (show Ln = 0 ∨ Ln = 1 ∨ Ln = 2 ∨ Ln = 3 ∨ Ln = 4 by omega) with rfl | rfl | rfl | rfl | rfl <;> decide
  · obtain rfl : Ln = 5 := by omega
    exact law_body hl0 X bs xs μ5 hF hM _ _ ecs ess
set_option maxHeartbeats 400000 in
set_option maxRecDepth 20000 in
theorem law_s3 {l : Launch} (hl0 : l.stackTraces = false) (X : xD) (bs Ln : Nat) (hL : Ln ≤ 5) (xs : Nat → Int32) (μ2 μ3 μ4 : xM) (cs ss : Nat) (ecs : cs = 116) (ess : ss = 14229) (f1 : ∀ d, d < 6 → LFx μ2 d) (f2 : ∀ a, 57 ≤ a → a < 92 → a ≠ 58 → ∀ j, μ2 a j = 0) (f4 : μ2 92 1 = 0) (f5 : μ2 0 4 = 0) (hμ3 : μ3 = va_up μ2 95 (fun _ => 0)) (g1 : ∀ a, a < 96 → a ≠ 95 → μ4 a = μ3 a) (g3 : μ4 95 20 = 0) (g4 : μ4 95 22 = 0) (g5 : ∀ a, 96 ≤ a → a < 96 + 20 → a ≠ 96 + 4 → ∀ j, μ4 a j = 0) (g6 : ∀ j, j < 6 → μ4 (96 + 4) j = (-1)) : sx l room_1 X (EL X bs Ln xs) true kL_law 0 (ZL X) 16 [some (.ref bs), some (.ref (X.2 + 0)), some (.ref (X.2 + 95)), none, none, none, none] [] (shC ++ shMo) μ4 cs ss := by
  subst ecs
  subst ess
  refine sx_iconst (pc := 16) (v := 1) dL_law_16 (by decide) ?_
  refine sx_newaL (pc := 17) (ti := 0) (N := 1) (n1 := 116) (sh' := shA) (by decide +kernel) dL_law_17 w_al rfl rfl rfl (by decide) (by decide) (by decide) shA_eq (Nat.le_of_ble_eq_true rfl) (Nat.le_of_ble_eq_true rfl) (fun _ _ h => h) (fun μ5 hμ5 => ?_)
  refine sx_astore_n (pc := 19) (L' := [some (.ref bs), some (.ref (X.2 + 0)), some (.ref (X.2 + 95)), some (.ref (X.2 + 116)), none, none, none]) dL_law_19 rfl (by decide) rfl ?_
  refine sx_iconst (pc := 20) (v := 0) dL_law_20 (by decide) ?_
  refine sx_istore (pc := 21) (L' := [some (.ref bs), some (.ref (X.2 + 0)), some (.ref (X.2 + 95)), some (.ref (X.2 + 116)), some (.int 0), none, none]) dL_law_21 (by decide) rfl ?_
  refine sx_fix ?_
  exact law_loop hl0 X bs Ln hL xs μ2 μ3 μ4 μ5 _ _ (by decide +kernel) (by decide +kernel) f1 f2 f4 f5 hμ3 g1 g3 g4 g5 g6 hμ5
set_option maxHeartbeats 400000 in
set_option maxRecDepth 20000 in
theorem law_s2 {l : Launch} (hl0 : l.stackTraces = false) (X : xD) (bs Ln : Nat) (hL : Ln ≤ 5) (xs : Nat → Int32) (μ2 : xM) (cs ss : Nat) (ecs : cs = 95) (ess : ss = 7051) (f1 : ∀ d, d < 6 → LFx μ2 d) (f2 : ∀ a, 57 ≤ a → a < 92 → a ≠ 58 → ∀ j, μ2 a j = 0) (f4 : μ2 92 1 = 0) (f5 : μ2 0 4 = 0) : sx l room_1 X (EL X bs Ln xs) true kL_law 0 (ZL X) 8 [some (.ref bs), some (.ref (X.2 + 0)), none, none, none, none, none] [] shC μ2 cs ss := by
  subst ecs
  subst ess
  refine sx_newL (pc := 8) (ci := 6) (fl := fl0_6) (n1 := 95) (sh' := shC ++ [.inl (6, fl0_6)]) (by decide +kernel) dL_law_8 rfl lc_L_16 in_6 ii_6 nf_6 rfl (Nat.le_of_ble_eq_true rfl) (Nat.le_of_ble_eq_true rfl) (fun μ3 hμ3 => ?_)
  refine sx_dup (pc := 11) dL_law_11 rfl ?_
  have hlen : (shC ++ [(.inl (6, fl0_6) : xS)]).length = 96 := by decide +kernel
  have hs95 : (shC ++ [(.inl (6, fl0_6) : xS)])[95]? = some (.inl (6, fl0_6)) := by decide +kernel
  generalize hS : shC ++ [(.inl (6, fl0_6) : xS)] = S at hlen hs95 ⊢
  refine sx_callI (pc := 12) (As := []) (k := 95) rfl dL_law_12 ((c_Model_init X S μ3 95 hs95 (fun j => by rw [hμ3]; simp [va_up]) []).ex (fun _ h => h.1)) mX6_init lm_L_18 rfl ⟨(Nat.le_of_ble_eq_true rfl), (Nat.le_of_ble_eq_true rfl)⟩ ⟨(Nat.le_of_ble_eq_true rfl), (Nat.le_of_ble_eq_true rfl)⟩ (Nat.le_of_ble_eq_true rfl) EL_st (fun r_12 sh_12 μ4 h_12 => ?_)
  obtain ⟨rfl, e12, g1, g2, g3, g4, g5, g6⟩ := h_12
  rw [hlen] at g1 g5 g6
  have e12' : shC ++ shMo = sh_12 := by
    rw [← e12, ← hS]
    decide +kernel
  subst e12'
  refine sx_astore_n (pc := 15) (L' := [some (.ref bs), some (.ref (X.2 + 0)), some (.ref (X.2 + 95)), none, none, none, none]) dL_law_15 rfl (by decide) rfl ?_
  exact law_s3 hl0 X bs Ln hL xs μ2 μ3 μ4 _ _ (by decide +kernel) (by decide +kernel) f1 f2 f4 f5 hμ3 g1 g3 g4 g5 g6
set_option maxHeartbeats 400000 in
set_option maxRecDepth 20000 in
theorem law_start {l : Launch} (hl0 : l.stackTraces = false) (X : xD) (bs Ln : Nat) (hL : Ln ≤ 5) (xs : Nat → Int32) : sx l room_1 X (EL X bs Ln xs) true kL_law 0 (ZL X) 0 [some (.ref bs), none, none, none, none, none, none] [] [] (fun _ _ => 0) 0 0 := by
  refine sx_newL (pc := 0) (ci := 5) (fl := fl0_5) (n1 := 0) (sh' := [.inl (5, fl0_5)]) rfl dL_law_0 rfl lc_L_8 in_5 ii_5 nf_5 rfl (Nat.le_of_ble_eq_true rfl) (Nat.le_of_ble_eq_true rfl) (fun μ1 hμ1 => ?_)
  refine sx_dup (pc := 3) dL_law_3 rfl ?_
  refine sx_callI (pc := 4) (As := []) (k := 0) rfl dL_law_4 ((c_EW_init X μ1).ex (fun _ h => h.1)) mX5_init lm_L_15 rfl ⟨(Nat.le_of_ble_eq_true rfl), (Nat.le_of_ble_eq_true rfl)⟩ ⟨(Nat.le_of_ble_eq_true rfl), (Nat.le_of_ble_eq_true rfl)⟩ (Nat.le_of_ble_eq_true rfl) EL_st (fun r_4 sh_4 μ2 h_4 => ?_)
  obtain ⟨rfl, rfl, f1, f2, f3, f4, f5⟩ := h_4
  refine sx_astore_n (pc := 7) (L' := [some (.ref bs), some (.ref (X.2 + 0)), none, none, none, none, none]) dL_law_7 rfl (by decide) rfl ?_
  exact law_s2 hl0 X bs Ln hL xs μ2 _ _ (by decide +kernel) (by decide +kernel) f1 f2 f4 f5
set_option maxHeartbeats 2000000 in
set_option maxRecDepth 20000 in
theorem law_words : (∀ w ∈ xnw, w ∈ lw_tbl) ∧ ∀ w ∈ xnw, w.onTables = true := by
  have h : xnw.all (fun w => decide (w ∈ lw_tbl) && w.onTables) = true := by decide +kernel
  refine ⟨fun w hw => ?_, fun w hw => ?_⟩
  · have h1 := List.all_eq_true.mp h w hw
    simp only [Bool.and_eq_true, decide_eq_true_eq] at h1
    exact h1.1
  · have h1 := List.all_eq_true.mp h w hw
    simp only [Bool.and_eq_true, decide_eq_true_eq] at h1
    exact h1.2
theorem lwt {w : Cond} (i : Nat) (h : decide (lw_tbl[i]? = some w) = true) : w ∈ lw_tbl := List.mem_of_getElem? (of_decide_eq_true h)
set_option maxHeartbeats 2000000 in
set_option maxRecDepth 20000 in
theorem law_ExT {b : Nat} {s : State} (hts : ∀ w ∈ lw_tbl, w.before #[Value.ref b] s = true) (hgv : (Jvm.Cond.and given_1 narrow_1).before #[Value.ref b] s = true) : ExT s.heap.size s := by
  have hs := flat_of_before _ hgv
  have u1 : (Cond.laysStatic Bundle.tN "UNASSIGNED_STACK" Bundle.steD).before #[Value.ref b] s = true := hts _ (lwt 534 (by decide +kernel))
  have u2 : (Cond.laysStatic Bundle.tN "SUPPRESSED_SENTINEL" Bundle.listD).before #[Value.ref b] s = true := hts _ (lwt 536 (by decide +kernel))
  have v1 : (Cond.isRef (.static Bundle.tN "UNASSIGNED_STACK" Bundle.steD)).before #[Value.ref b] s = true := hs _ (by decide +kernel)
  have v2 : (Cond.isRef (.static Bundle.tN "SUPPRESSED_SENTINEL" Bundle.listD)).before #[Value.ref b] s = true := hs _ (by decide +kernel)
  have w1 : (Cond.stringRef "ExchangeWire" 68 aioTx).before #[Value.ref b] s = true := hts _ (lwt 546 (by decide +kernel))
  have w2 : (Cond.castable aioN aioN).before #[Value.ref b] s = true := hts _ (lwt 507 (by decide +kernel))
  have w3 : ∀ n ∈ dcL, Cond.declares (Bundle.initS n) ∈ lw_tbl := by
    have h : dcL.all (fun n => decide (Cond.declares (Bundle.initS n) ∈ lw_tbl)) = true := by decide +kernel
    intro n hn
    exact of_decide_eq_true (List.all_eq_true.mp h n hn)
  obtain ⟨c, k, i, f, a, cell, hc, hi, hst, hsa, hcell, -⟩ := Cond.laysStatic_spec u1
  have ha : a < s.heap.size := (Array.getElem?_eq_some_iff.mp hcell).1
  refine ⟨w1, ⟨va_Nw.of rfl w2, fun n hn => va_Nw.of rfl (hts _ (w3 n hn))⟩, fun w hw => ?_, fun w hw => ?_, c, k, a, hc, ff_class hi, hsa, ha, ha⟩
  · simp only [stW, List.mem_cons, List.not_mem_nil, or_false] at hw
    rcases hw with rfl | rfl
    · exact u1
    · exact u2
  · simp only [srW, List.mem_cons, List.not_mem_nil, or_false] at hw
    rcases hw with rfl | rfl
    · exact v1
    · exact v2
set_option maxHeartbeats 2000000 in
set_option maxRecDepth 20000 in
theorem law_K {b : Nat} {s : State} (hts : ∀ w ∈ lw_tbl, w.before #[Value.ref b] s = true) : ∃ D : va_G × (Nat → ClassId), va_K D.1 classes (xty.mapIdx fun i t => (D.2 i, t)) s := by
  have hts' : ∀ w ∈ xws, w.before #[Value.ref b] s = true := fun w hw => hts w (List.mem_filter.mp hw).1
  have hc : ∀ c : Nat, ∃ d : ClassId × (Nat → Nat), ∀ q : vw_C, classes[c]? = some q → u_Kn s q.1 q.2.1 q.2.2 d.1 d.2 := by
    intro c
    match c, (Nat.lt_or_ge c 7) with
    | 0, _ =>
      obtain ⟨cC, iS, h⟩ := u_known hts' (xcl_ok 0 _ rfl).1 (hts' _ in_0)
      refine ⟨(cC, iS), fun q hq => ?_⟩
      cases hq
      exact h
    | 1, _ =>
      obtain ⟨cC, iS, h⟩ := u_known hts' (xcl_ok 1 _ rfl).1 (hts' _ in_1)
      refine ⟨(cC, iS), fun q hq => ?_⟩
      cases hq
      exact h
    | 2, _ =>
      obtain ⟨cC, iS, h⟩ := u_known hts' (xcl_ok 2 _ rfl).1 (hts' _ in_2)
      refine ⟨(cC, iS), fun q hq => ?_⟩
      cases hq
      exact h
    | 3, _ =>
      obtain ⟨cC, iS, h⟩ := u_known hts' (xcl_ok 3 _ rfl).1 (hts' _ in_3)
      refine ⟨(cC, iS), fun q hq => ?_⟩
      cases hq
      exact h
    | 4, _ =>
      obtain ⟨cC, iS, h⟩ := u_known hts' (xcl_ok 4 _ rfl).1 (hts' _ in_4)
      refine ⟨(cC, iS), fun q hq => ?_⟩
      cases hq
      exact h
    | 5, _ =>
      obtain ⟨cC, iS, h⟩ := u_known hts' (xcl_ok 5 _ rfl).1 (hts' _ in_5)
      refine ⟨(cC, iS), fun q hq => ?_⟩
      cases hq
      exact h
    | 6, _ =>
      obtain ⟨cC, iS, h⟩ := u_known hts' (xcl_ok 6 _ rfl).1 (hts' _ in_6)
      refine ⟨(cC, iS), fun q hq => ?_⟩
      cases hq
      exact h
    | n + 7, _ => exact ⟨(0, fun _ => 0), fun q hq => (by cases hq)⟩
  have ha : ∀ i : Nat, ∃ cA : ClassId, ∀ t : FieldType, xty[i]? = some t → ArrOfT s cA t ∧ va_RA s cA t := by
    intro i
    match i, (Nat.lt_or_ge i 6) with
    | 0, hi =>
      obtain ⟨cA, kA, comp, f1, f2, f3⟩ := Cond.arrayClass_spec (hts' _ w_al)
      refine ⟨cA, fun t ht => ?_⟩
      cases ht
      exact ⟨fun n z => ⟨fun k h => (by cases h), kA, f2, comp, f3⟩, f1⟩
    | 1, hi =>
      obtain ⟨cA, kA, comp, f1, f2, f3⟩ := Cond.arrayClass_spec (hts' _ w_ai)
      refine ⟨cA, fun t ht => ?_⟩
      cases ht
      exact ⟨fun n z => ⟨fun k h => (by cases h), kA, f2, comp, f3⟩, f1⟩
    | 2, hi =>
      obtain ⟨cA, kA, comp, f1, f2, f3⟩ := Cond.arrayClass_spec (hts' _ w_ab)
      refine ⟨cA, fun t ht => ?_⟩
      cases ht
      exact ⟨fun n z => ⟨fun k h => (by cases h), kA, f2, comp, f3⟩, f1⟩
    | 3, hi =>
      obtain ⟨cA, kA, comp, f1, f2, f3⟩ := Cond.arrayClass_spec (hts' _ w_az)
      refine ⟨cA, fun t ht => ?_⟩
      cases ht
      exact ⟨fun n z => ⟨fun k h => (by cases h), kA, f2, comp, f3⟩, f1⟩
    | 4, _ =>
      obtain ⟨comp, cA, kA, f1, f2, f3, f4, f5⟩ := Cond.arrayOver_spec (hts (Cond.arrayOver (.object "ExchangeWire$Line")) (lwt 63 (by decide +kernel)))
      refine ⟨cA, fun t ht => ?_⟩
      cases ht
      exact ⟨fun n z => ⟨fun k h => (by cases h), kA, f3, comp, f4⟩, kA, comp, f3, f4, f1, f5⟩
    | 5, _ =>
      obtain ⟨comp, cA, kA, f1, f2, f3, f4, f5⟩ := arrayOverA_spec (hts (Cond.arrayOver (.array .int)) (lwt 142 (by decide +kernel)))
      refine ⟨cA, fun t ht => ?_⟩
      cases ht
      exact ⟨fun n z => ⟨fun k h => (by cases h), kA, f3, comp, f4⟩, f5⟩
    | n + 6, _ => exact ⟨0, fun t ht => (by cases ht)⟩
  obtain ⟨dC, hdC⟩ := Classical.axiomOfChoice hc
  obtain ⟨dA, hdA⟩ := Classical.axiomOfChoice ha
  refine ⟨((fun c => (dC c).1, fun c => (dC c).2), dA), fun c q hq => hdC c q hq, fun k q hq => ?_⟩
  rw [List.getElem?_mapIdx] at hq
  cases ht : xty[k]? with
  | none => rw [ht] at hq; cases hq
  | some t =>
    rw [ht] at hq
    cases hq
    exact hdA k t ht
set_option maxHeartbeats 2000000 in
set_option maxRecDepth 20000 in
theorem whole_start {p : Program} {e : Env} {s : State} {m : MethodId} {below : List Frame} {meth : Method} {c : Code} (l : Launch) (hl0 : l.stackTraces = false) {b L : Nat} {xs : Nat → Int32} (hL : L ≤ 5) (C0 : lw_At p s m meth c b L xs) : W p l e room_1 s m #[Value.ref b] below meth c s.heap [] 0 0 (lw_Z below #[Value.ref b] s) (entryFrame m ([Value.ref b] : List Value).toArray 7) := by
  obtain ⟨hx, hb, hr, hml, hown, hts, hX, hbl, hlocks, hgv⟩ := C0
  obtain ⟨D, hK⟩ := law_K hts
  have hl := lv_entry ([.ref b]) (n := 7) (Nat.le_of_ble_eq_true rfl)
  rw [lg_entry_eq]
  generalize (lg_sl ([.ref b]) ++ List.replicate (7 - (lg_sl ([.ref b])).length) Slot.unset).toArray = ls at hl ⊢
  have hl : lv_has ls 7 [(0, .ref b)] := hl
  have hAO : ExA s := ⟨va_AO.of (hts _ (lwt 63 (by decide +kernel))), hts (Cond.arrayOver (.array .int)) (lwt 142 (by decide +kernel))⟩
  have hw := law_start hl0 (D, s.heap.size) b L hL xs p e s m #[Value.ref b] below meth c s.heap [] ls
    ⟨hx, hb, hml, hr, hlocks, hown, fun w hw => hts w (List.mem_filter.mp hw).1, fun w hw => va_Nw.of (law_words.2 w hw) (hts w (law_words.1 w hw)), hK, ⟨hAO, law_ExT hts hgv, hX, hbl, hbl⟩, fun _ => rfl, fun h => (by cases h), fun q hq cell hcell => (by
      have := (Array.getElem?_eq_some_iff.mp hcell).1
      have := hq.1
      exact absurd this (Nat.not_le.mpr (by assumption)))⟩
    ⟨fun k q h => (by simp [xwl] at h), ⟨Nat.le_refl _, fun _ _ _ => rfl, fun _ h => (by cases h)⟩, Nat.zero_le _, fun h => (by cases h), fun _ => rfl⟩
    ⟨hl, fun j v h => (by
      match j, h with
      | 0, h => cases h; rfl
      | 1, h => cases h
      | 2, h => cases h
      | 3, h => cases h
      | 4, h => cases h
      | 5, h => cases h
      | 6, h => cases h
      | j + 7, h => cases h)⟩
  intro T hT X'
  obtain ⟨t, a1, b1⟩ := hw T hT X'
  exact ⟨t, a1, b1 rfl⟩
set_option maxHeartbeats 4000000 in
theorem lw_walk (l : Launch) (hl0 : l.stackTraces = false) (b : Addr) (xs : List Int32) : MetFree l x (headSpec (Jvm.Cond.code x code maxLocals ret :: tables_1) room_1) (lw_P b xs) (fun _ _ _ _ _ => True) lw_Q := by
  refine MetFree.of_bodyS (code := code) (maxLocals := maxLocals) (ret := ret) (by decide) ?_ ?_
  · intro args s m h hn
    obtain ⟨meth, c, h1, h2, h3, h4, h5, h6, -, -⟩ := Cond.code_spec hn (atoms_spec (ws := Jvm.Cond.code x code maxLocals ret :: tables_1) h _ List.mem_cons_self)
    exact ⟨meth, c, h1, h2, h3, h4, h5, h6⟩
  · intro p e s m args below meth c s₁ B hml0 hP _
    obtain ⟨rfl, hx, hbd, hgv⟩ := hP
    obtain ⟨scr, harrAt, hlist, hof, hsmall⟩ := hx
    obtain ⟨hcb, hkn, -, -⟩ := State.arrayAt?_spec harrAt
    have hown : s.vm.findClass R_law = some m.cls := findClass_of_methodNamed B.named
    have hts0 : ∀ c ∈ (Jvm.Cond.code x code maxLocals ret :: tables_1), c.before #[Value.ref b] s = true := atoms_spec (ws := Jvm.Cond.code x code maxLocals ret :: tables_1) B.pre
    have hts : ∀ w ∈ lw_tbl, w.before #[Value.ref b] s = true := k2_hts_sels lw_privs (fun w hw => hts0 w (List.mem_cons_of_mem _ hw)) lw_privs_ok
    have hml : c.maxLocals = 7 := B.maxLocals_eq (hts0 _ List.mem_cons_self)
    have X₀ : Stand p l e room_1 s m #[Value.ref b] below meth c s₁ [] 0 0 := Stand.of_body B
    have hh0 : s₁.heap = s.heap := by rw [B.state]; rfl
    have hsz : scr.slots.size = xs.length := by rw [← Array.length_toList, hlist, List.length_map]
    have hval : ∀ j : Nat, j < xs.length → scr.slots[j]? = some (.int (xs.getD j 0)) := fun j hj => by
      rw [← Array.getElem?_toList, hlist]
      simp [hj]
    have hbl : b < s.heap.size := (Array.getElem?_eq_some_iff.mp hcb).1
    have hX : va_X b xs.length (fun j => xs.getD j 0) s s.heap := ⟨scr, hcb, hof, hkn, hsz, hval⟩
    have K : W p l e room_1 s m #[Value.ref b] below meth c s₁.heap [] 0 0 (lw_Z below #[Value.ref b] s) (entryFrame m ([Value.ref b] : List Value).toArray 7) := by
      rw [hh0]
      exact whole_start l hl0 hbd ⟨B.exec, B.bytes, B.returns, hml, hown, hts, hX, hbl, B.notSynchronized, hgv⟩
    obtain ⟨t, a1, o, b1, b2, b3⟩ := K s₁ rfl X₀
    exact ⟨t, o, a1, b1, b2, b3⟩
theorem lw_pre_spec {args : Array Value} {s : State} (h : (Jvm.Cond.and given_1 narrow_1).before args s = true) (hr : rest_1_c.before args s = true) : ∃ (b : Addr) (xs : List Int32), lw_P b xs args s := by
  have hs := flat_of_before _ h
  have hq := flat_of_before _ hr
  have hc : (Cond.count 1).before args s = true := hs _ (by decide +kernel)
  have harr : (Cond.arrayOf (.arg 0) .int).before args s = true := hs _ (by decide +kernel)
  have hle : (Cond.le (.length (.arg 0)) (.int 5)).before args s = true := hs _ (by decide +kernel)
  have hlen : (Cond.isInt (.length (.arg 0))).before args s = true := hq _ (by decide +kernel)
  have hall : (Cond.all (.arg 0) (.isInt (.elem (.arg 0) (.index 0)))).before args s = true := hq _ (by decide +kernel)
  obtain ⟨b, xs, hb, hx⟩ := State.ints_of_pre rfl harr hlen hall
  have hsm : xs.length < 2 ^ 31 := hx.choose_spec.2.2.2
  have hev : (Term.length (.arg 0)).eval args s none [] s = some (.int xs.length.toInt32) := hx.length_eval hb
  have hv := Cond.le_ints hev (show (Term.int 5).eval args s none [] s = some (.int 5) from rfl)
  have hd : xs.length.toInt32 ≤ 5 := by
    simpa [Cond.before, Cond.holds, hv] using hle
  have hN : xs.length ≤ 5 := (Int32.ofNat_le_ofNat hsm (by decide)).mp (show Int32.ofNat xs.length ≤ Int32.ofNat 5 from hd)
  exact ⟨b, xs, Cond.one_arg hc (show args[0]? = some (.ref b) from hb), hx, hN, h⟩
theorem lw_comes (l : Launch) (hl0 : l.stackTraces = false) : Comes l x (Jvm.Cond.code x code maxLocals ret :: tables_1) room_1 (fun tb e args s => Calls_1 tb e args s ∧ rest_1 tb e args s ∧ Pre_1 tb e args s)
    (fun _ _ args s o t => lw_Q args s o t) := by
  intro p e ha hc hk s m args below hf hfit hheap happ hpre
  obtain ⟨b, xs, hP⟩ := lw_pre_spec hpre.2.2 hpre.2.1
  obtain ⟨k, o, h1, h2, h3, hQ⟩ := lw_walk l hl0 b xs p e ha hc hk s m args below hf ((Spec.applies_iff_loose hf).mp happ).1 hP trivial
  exact ⟨k, o, h1, h2, h3, hQ⟩
theorem lw_frame {s t : State} {o : Outcome} {args : Array Value} (h : Framed s o t [] 600002 7302232) :
    Framed s o t (fieldLocs frame_1_writes args s ++ arrayLocs frame_1_arrays args s ++ staticLocs frame_1_statics s) 600002 7302232 := h
theorem lw_limb (L : Cond) (hL : ∀ (args : Array Value) (s t : State), L.after args s (.returned (some (.int 1))) t = true) :
    ArmFor flags0 classFile x code maxLocals ret World_1 tables_1 room_1 Calls_1 rest_1 Pre_1
      (fun tb e a s o t => postC L tb e a s o t ∧ Framed s o t (fieldLocs frame_1_writes a s ++ arrayLocs frame_1_arrays a s ++ staticLocs frame_1_statics s) 600002 7302232) := by
  intro l hfl _ _ p e ha hc hk s m args below hf hfit hheap happ hpre
  obtain ⟨k, o, h1, h2, h3, rfl, hF⟩ := lw_comes l (by unfold Launch.stackTraces; rw [hfl]; decide) p e ha hc hk s m args below hf hfit hheap happ hpre
  exact ⟨k, _, h1, h2, h3, hL args s _, lw_frame hF⟩
theorem i_vc : Claimed_1_1 ∧ Claimed_1_2 := ⟨lw_limb limb_1_1 (fun args s t => by simp [limb_1_1, Cond.after, Cond.holds, Cond.value]), lw_limb limb_1_2 (fun args s t => Cond.after_iff.mpr (by
  first | (rw [show limb_1_2 = Cond.eq .result (.int 1) from rfl, Cond.eq_ints (x := 1) (y := 1) rfl rfl]; simp; done) | (simp [limb_1_2, Cond.value, Term.eval]; done)))⟩
