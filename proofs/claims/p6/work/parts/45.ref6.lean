/-- what is left of lines and house after a message -/
def AnS (D : Nat) (dev : Int32) (f : Nat → Int32) (z : Nat) (μ : xM) (σ : SG) : Prop := (prs f z = none ∧ σ = (μ 99, μ 100, upd (μ 101) D (μ 101 D + 1), hvw μ)) ∨ ∃ t, prs f z = some t ∧ (((t.1 = 81 ∨ t.2.1 = μ 100 D) ∧ σ = snp μ) ∨ (¬ (t.1 = 81 ∨ t.2.1 = μ 100 D) ∧ ((((¬ t.1 = 83 ∧ μ 99 D = 0) ∨ bd t) ∧ σ = (μ 99, upd (μ 100) D t.2.1, μ 101, hvw μ)) ∨ (¬ ((¬ t.1 = 83 ∧ μ 99 D = 0) ∨ bd t) ∧ σ = (upd (μ 99) D 1, upd (μ 100) D t.2.1, μ 101, jT (hvw μ) dev t)))))
theorem RF.tm {μ : xM} {t : PT} (h : RF μ t) : tM μ = t := by
  obtain ⟨h1, h2, h3, h4, h5⟩ := h
  rw [tM, h1, h2, h3, h4, h5]
theorem RF.same {μ μ' : xM} {t : PT} (h : RF μ t) (e : μ' 95 = μ 95) : RF μ' t := by
  unfold RF; rw [e]; exact h
theorem rf_p {f : Nat → Int32} {n : Nat} {μ : xM} {t : PT} (hp : prs f n = some t) (hR : RF μ t) (hb : ¬ bd t) : (hP t.1 → ∃ p, p < 30 ∧ μ 95 26 = nI p) ∧ (hI t.1 → ∃ i, i < 30 ∧ μ 95 27 = nI i) := by
  obtain ⟨_, _, ⟨m1, b1, e1⟩, ⟨m2, b2, e2⟩, _⟩ := prs_s hp
  refine ⟨fun z => ?_, fun z => ?_⟩
  · rw [hR.2.2.1, e1]
    refine ⟨m1, Nat.lt_of_not_le fun w => hb (Or.inl ⟨z, ?_⟩), rfl⟩
    rw [e1, show (29 : Int32) = nI 29 from rfl, nI_ltI (by decide) (by omega)]; omega
  · rw [hR.2.2.2.1, e2]
    refine ⟨m2, Nat.lt_of_not_le fun w => hb (Or.inr (Or.inl ⟨z, ?_⟩)), rfl⟩
    rw [e2, show (29 : Int32) = nI 29 from rfl, nI_ltI (by decide) (by omega)]; omega
theorem jT_rf {h : HT} {dev : Int32} {μ : xM} {t : PT} (hR : RF μ t) : jud h dev (μ 95 25) (μ 95 24) ((μ 95 27).toNatClampNeg) ((μ 95 26).toNatClampNeg) (μ 95 28) = jT h dev t := by
  obtain ⟨h1, h2, h3, h4, h5⟩ := hR
  rw [h1, h2, h3, h4, h5]
set_option maxHeartbeats 1000000 in
set_option maxRecDepth 20000 in
theorem c_answers (X : xD) (Ex : State → Prop) (hE : xEs X false shA.length Ex) (μ : xM) (dev : Int32) (hb : 0 ≤ dev ∧ dev < 6) (z n : Nat) (hz2 : z ≤ 60) (hn : n + 1 < 2 ^ 20) (hz : μ 96 dev.toNatClampNeg = nI z) {f : Nat → Int32} (hf0 : ∀ j, j < 60 → μ 97 (60 * dev.toNatClampNeg + j) &&& 255 = f j) (hW : HW n (hvw μ)) (hT : ∃ t, t ≤ 30 ∧ μ 102 dev.toNatClampNeg = nI t) (hKp : ∃ t, t ≤ 30 ∧ μ 104 dev.toNatClampNeg = nI t) : Ct X Ex false yX6_answers kX6_answers (rmN 3) [.ref (X.2 + 95), .int dev] shA μ (fun r sh' μ' => shA = sh' ∧ r = none ∧ ∃ σ, IE dev.toNatClampNeg σ μ μ' ∧ AnS dev.toNatClampNeg dev f z μ σ) := by
  refine Ct.of (L0 := [some (.ref (X.2 + 95)), some (.int dev), none, none, none]) (by decide) rfl (fun h => by cases h) (by simp [Value.category]) (Nat.le_of_ble_eq_true rfl) rfl (fun l => ?_)
  obtain ⟨k, hkn, hk⟩ := hW.2
  have hk : μ 95 20 = nI k := hk
  obtain ⟨t0, ht0, ht0e⟩ := hT
  have h : IV dev.toNatClampNeg (μ 95 25) (snp μ) μ μ t0 := ⟨Aw.rf, rfl, hKp, ht0e, rfl⟩
  refine sx_aload_n (pc := 0) dX6_answers_0 rfl rfl ?_
  refine sx_getr (pc := 1) (ci := 6) (j := 7) (r := 102) dX6_answers_1 rfl s_Mo rfl (by decide) lf_X6_30 ?_
  refine sx_iload_n (pc := 4) dX6_answers_4 rfl rfl ?_
  refine sx_iconst (pc := 5) (v := 0) dX6_answers_5 (by decide) ?_
  refine sx_iast (pc := 6) dX6_answers_6 s_M7 (by decide) rfl (vp_in_lt (n := 6) hb.1 hb.2 (by decide)) (fun μ1 hμ1 => ?_)
  have e6 := hμ1; replace h := h.p102 hμ1 (t' := 0) (by rw [hμ1, xup_at, if_pos ⟨rfl, rfl⟩]; exact (rfl : (0 : Int32) = nI 0))
  have hz_μ1 : μ1 96 dev.toNatClampNeg = nI z := by rw [hμ1, xup_at, if_neg (by omega)]; exact hz
  have hk_μ1 : μ1 95 20 = nI k := by rw [hμ1, xup_at, if_neg (by omega)]; exact hk
  refine sx_aload_n (pc := 7) dX6_answers_7 rfl rfl ?_
  refine sx_iload_n (pc := 8) dX6_answers_8 rfl rfl ?_
  refine sx_callV (pc := 9) (As := [.int dev]) dX6_answers_9 (c_reads X Ex hE μ1 _ hb z hz2 hz_μ1 (f := f) (fun j hj => by rw [e6, show xup μ 102 dev.toNatClampNeg 0 97 = μ 97 from rfl]; exact hf0 j hj)) mX6_reads lm_X6_131 rfl s_Mo rfl ⟨Nat.le_of_ble_eq_true rfl, Nat.le_of_ble_eq_true rfl⟩ ⟨Nat.le_of_ble_eq_true rfl, Nat.le_of_ble_eq_true rfl⟩ (Nat.le_of_ble_eq_true rfl) hE (fun r_9 sh1 μ2 h_9 => ?_)
  obtain ⟨rfl, k_9, x_9, rfl, hx_9⟩ := h_9
  have hz_μ2 : μ2 96 dev.toNatClampNeg = nI z := by rw [k_9.1 96 (by decide)]; exact hz_μ1
  have hk_μ2 : μ2 95 20 = nI k := (k_9.2 20 (by omega)).trans hk_μ1
  replace h := h.rd k_9
  refine sx_if_ne (pc := 12) (tgt := 38) dX6_answers_12 (by decide) (fun c_12 => ?_) (fun c_12 => ?_)
  · have h_12t := c_12
    obtain ⟨t, hp, hR⟩ := hx_9.elim (fun y => y.2) (fun y => absurd y.1 h_12t)
    replace h := hR.2.1 ▸ h
    have hS9 := h.2.1
    have h99 : μ2 99 = μ 99 := congrArg (fun y : SG => y.1) hS9
    have h100 : μ2 100 = μ 100 := congrArg (fun y : SG => y.2.1) hS9
    refine sx_aload_n (pc := 38) dX6_answers_38 rfl rfl ?_
    refine sx_geti (pc := 39) (ci := 6) (j := 24) dX6_answers_39 rfl s_Mo rfl (by decide) lf_X6_87 ?_
    refine sx_bipush (pc := 42) (v := 81) dX6_answers_42 (by decide) ?_
    refine sx_icmp_ne (pc := 44) (tgt := 70) dX6_answers_44 (by decide) (fun c_44 => ?_) (fun c_44 => ?_)
    · have h_44t := c_44
      refine sx_aload_n (pc := 70) dX6_answers_70 rfl rfl ?_
      refine sx_geti (pc := 71) (ci := 6) (j := 24) dX6_answers_71 rfl s_Mo rfl (by decide) lf_X6_87 ?_
      refine sx_bipush (pc := 74) (v := 81) dX6_answers_74 (by decide) ?_
      refine sx_icmp_eq (pc := 76) (tgt := 92) dX6_answers_76 (by decide) (fun c_76 => ?_) (fun c_76 => ?_)
      · have h_76t := c_76
        obtain ⟨q9, hq9, hq9e⟩ := h.2.2.1
        refine sx_aload_n (pc := 92) dX6_answers_92 rfl rfl ?_
        refine sx_iload_n (pc := 93) dX6_answers_93 rfl rfl ?_
        refine sx_callV (pc := 94) (As := [.int dev]) dX6_answers_94 (c_again X Ex hE μ2 _ hb q9 hq9 hq9e) mX6_again lm_X6_138 rfl s_Mo rfl ⟨Nat.le_of_ble_eq_true rfl, Nat.le_of_ble_eq_true rfl⟩ ⟨Nat.le_of_ble_eq_true rfl, Nat.le_of_ble_eq_true rfl⟩ (Nat.le_of_ble_eq_true rfl) hE (fun r_94 sh1 μ3 h_94 => ?_)
        obtain ⟨rfl, rfl, k_94, q_94⟩ := h_94
        replace h := h.tt k_94 q_94
        exact sx_vret (pc := 97) dX6_answers_97 rfl (Nat.zero_le _) (Nat.zero_le _) (⟨rfl, rfl, _, h.end_ hq9, Or.inr ⟨t, hp, Or.inl ⟨by first | exact Or.inl (by rw [← hR.1]; exact h_76t) | exact Or.inr (by rw [← hR.2.1, ← h100]; exact h_89f), rfl⟩⟩⟩)
      · have h_76f := c_76
        refine sx_aload_n (pc := 79) dX6_answers_79 rfl rfl ?_
        refine sx_geti (pc := 80) (ci := 6) (j := 25) dX6_answers_80 rfl s_Mo rfl (by decide) lf_X6_94 ?_
        refine sx_aload_n (pc := 83) dX6_answers_83 rfl rfl ?_
        refine sx_getr (pc := 84) (ci := 6) (j := 5) (r := 100) dX6_answers_84 rfl s_Mo rfl (by decide) lf_X6_24 ?_
        refine sx_iload_n (pc := 87) dX6_answers_87 rfl rfl ?_
        refine sx_iald (pc := 88) dX6_answers_88 s_M5 (by decide) rfl (vp_in_lt (n := 6) hb.1 hb.2 (by decide)) ?_
        refine sx_icmp_ne (pc := 89) (tgt := 98) dX6_answers_89 (by decide) (fun c_89 => ?_) (fun c_89 => ?_)
        · have h_89t := c_89
          refine sx_aload_n (pc := 98) dX6_answers_98 rfl rfl ?_
          refine sx_geti (pc := 99) (ci := 6) (j := 24) dX6_answers_99 rfl s_Mo rfl (by decide) lf_X6_87 ?_
          refine sx_bipush (pc := 102) (v := 83) dX6_answers_102 (by decide) ?_
          refine sx_icmp_eq (pc := 104) (tgt := 126) dX6_answers_104 (by decide) (fun c_104 => ?_) (fun c_104 => ?_)
          · have h_104t := c_104
            refine sx_aload_n (pc := 126) dX6_answers_126 rfl rfl ?_
            refine sx_callV (pc := 127) (As := []) dX6_answers_127 (c_bad X Ex hE μ2) mX6_bad lm_X6_141 rfl s_Mo rfl ⟨Nat.le_of_ble_eq_true rfl, Nat.le_of_ble_eq_true rfl⟩ ⟨Nat.le_of_ble_eq_true rfl, Nat.le_of_ble_eq_true rfl⟩ (Nat.le_of_ble_eq_true rfl) hE (fun r_127 sh1 μ4 h_127 => ?_)
            obtain ⟨rfl, rfl, x_127, rfl, hx_127⟩ := h_127
            refine sx_if_le (pc := 130) (tgt := 152) dX6_answers_130 (by decide) (fun c_130 => ?_) (fun c_130 => ?_)
            · have h_130t := c_130
              have hnb : ¬ bd t := by rw [← hR.tm]; exact (hx_127.elim (fun y => y.2) (fun y => absurd h_130t y.1))
              have hA9 : ¬ ((¬ t.1 = 83 ∧ μ 99 dev.toNatClampNeg = 0) ∨ bd t) := fun y => y.elim (fun w => by first | exact w.1 (by rw [← hR.1]; exact h_104t) | exact h_113t (by rw [h99]; exact w.2)) hnb
              refine sx_aload_n (pc := 152) dX6_answers_152 rfl rfl ?_
              refine sx_getr (pc := 153) (ci := 6) (j := 4) (r := 99) dX6_answers_153 rfl s_Mo rfl (by decide) lf_X6_21 ?_
              refine sx_iload_n (pc := 156) dX6_answers_156 rfl rfl ?_
              refine sx_iconst (pc := 157) (v := 1) dX6_answers_157 (by decide) ?_
              refine sx_zast (pc := 158) rfl dX6_answers_158 s_M4 (by decide) rfl (vp_in_lt (n := 6) hb.1 hb.2 (by decide)) (fun μ5 hμ5 => ?_)
              have e158 := hμ5; replace h := h.p99 (by decide) hμ5
              have hz_μ5 : μ5 96 dev.toNatClampNeg = nI z := by rw [hμ5, xup_at, if_neg (by omega)]; exact hz_μ2
              have hk_μ5 : μ5 95 20 = nI k := by rw [hμ5, xup_at, if_neg (by omega)]; exact hk_μ2
              have hH9 : hvw μ5 = hvw μ := congrArg (fun y : SG => y.2.2.2) h.2.1
              have hR2 := hR.same (μ' := μ5) (by rw [e158]; funext b; rw [xup_at, if_neg (by omega)])
              refine sx_aload_n (pc := 159) dX6_answers_159 rfl rfl ?_
              refine sx_iload_n (pc := 160) dX6_answers_160 rfl rfl ?_
              refine sx_aload_n (pc := 161) dX6_answers_161 rfl rfl ?_
              refine sx_geti (pc := 162) (ci := 6) (j := 25) dX6_answers_162 rfl s_Mo rfl (by decide) lf_X6_94 ?_
              refine sx_callV (pc := 165) (As := [.int dev, .int (μ5 95 25)]) dX6_answers_165 (c_judge X Ex hE μ5 _ _ _ _ k n (by omega) rfl rfl (by rw [hR2.1]; exact (prs_s hp).1) (fun y => h_76f (by rw [hR.1, ← hR2.1]; exact y)) (fun y => (rf_p hp hR2 hnb).1 (by rw [hR2.1] at y; exact y)) (fun y => (rf_p hp hR2 hnb).2 (by rw [hR2.1] at y; exact y)) hk_μ5 (by rw [hH9]; exact hW)) mX6_judge lm_X6_145 rfl s_Mo rfl ⟨Nat.le_of_ble_eq_true rfl, Nat.le_of_ble_eq_true rfl⟩ ⟨Nat.le_of_ble_eq_true rfl, Nat.le_of_ble_eq_true rfl⟩ (Nat.le_of_ble_eq_true rfl) hE (fun r_165 sh1 μ6 h_165 => ?_)
              obtain ⟨rfl, k_165, t_165, x_165, rfl⟩ := h_165
              replace h := h.jud (H := jT (hvw μ) dev t) k_165 (by rw [t_165, jT_rf hR2, hH9])
              refine sx_istore_n (pc := 168) (L' := [some (.ref (X.2 + 95)), some (.int dev), some (.int x_165), none, none]) dX6_answers_168 rfl (by decide) rfl ?_
              refine sx_aload_n (pc := 169) dX6_answers_169 rfl rfl ?_
              refine sx_iload_n (pc := 170) dX6_answers_170 rfl rfl ?_
              refine sx_aload_n (pc := 171) dX6_answers_171 rfl rfl ?_
              refine sx_geti (pc := 172) (ci := 6) (j := 29) dX6_answers_172 rfl s_Mo rfl (by decide) lf_X6_148 ?_
              refine sx_if_eq (pc := 175) (tgt := 183) dX6_answers_175 (by decide) (fun c_175 => ?_) (fun c_175 => ?_)
              · have h_175t := c_175
                refine sx_bipush (pc := 183) (v := 88) dX6_answers_183 (by decide) ?_
                refine sx_callV (pc := 185) (As := [.int dev, .int 88]) dX6_answers_185 (c_put X Ex hE μ6 _ hb _ (0) (by omega) h.2.2.2.1) mX6_put lm_X6_119 rfl s_Mo rfl ⟨Nat.le_of_ble_eq_true rfl, Nat.le_of_ble_eq_true rfl⟩ ⟨Nat.le_of_ble_eq_true rfl, Nat.le_of_ble_eq_true rfl⟩ (Nat.le_of_ble_eq_true rfl) hE (fun r_185 sh1 μ7 h_185 => ?_)
                obtain ⟨rfl, rfl, k_185, q_185⟩ := h_185
                replace h := h.tt k_185 q_185
                refine sx_iconst (pc := 188) (v := 1) dX6_answers_188 (by decide) ?_
                refine sx_istore_n (pc := 189) (L' := [some (.ref (X.2 + 95)), some (.int dev), some (.int x_165), some (.int 1), none]) dX6_answers_189 rfl (by decide) rfl ?_
                exact l_p hE hb (fun μ9 I9 => ⟨rfl, rfl, _, I9, Or.inr ⟨t, hp, Or.inr ⟨(fun y => y.elim (fun w => h_76f (by rw [hR.1]; exact w)) (fun w => h_89t (by rw [hR.2.1, h100]; exact w))), Or.inr ⟨hA9, rfl⟩⟩⟩⟩) (by omega) h _ _
              · have h_175f := c_175
                refine sx_bipush (pc := 178) (v := 89) dX6_answers_178 (by decide) ?_
                refine sx_goto (pc := 180) (tgt := 185) dX6_answers_180 (by decide) ?_
                refine sx_callV (pc := 185) (As := [.int dev, .int 89]) dX6_answers_185 (c_put X Ex hE μ6 _ hb _ (0) (by omega) h.2.2.2.1) mX6_put lm_X6_119 rfl s_Mo rfl ⟨Nat.le_of_ble_eq_true rfl, Nat.le_of_ble_eq_true rfl⟩ ⟨Nat.le_of_ble_eq_true rfl, Nat.le_of_ble_eq_true rfl⟩ (Nat.le_of_ble_eq_true rfl) hE (fun r_185 sh1 μ8 h_185 => ?_)
                obtain ⟨rfl, rfl, k_185, q_185⟩ := h_185
                replace h := h.tt k_185 q_185
                refine sx_iconst (pc := 188) (v := 1) dX6_answers_188 (by decide) ?_
                refine sx_istore_n (pc := 189) (L' := [some (.ref (X.2 + 95)), some (.int dev), some (.int x_165), some (.int 1), none]) dX6_answers_189 rfl (by decide) rfl ?_
                exact l_p hE hb (fun μ9 I9 => ⟨rfl, rfl, _, I9, Or.inr ⟨t, hp, Or.inr ⟨(fun y => y.elim (fun w => h_76f (by rw [hR.1]; exact w)) (fun w => h_89t (by rw [hR.2.1, h100]; exact w))), Or.inr ⟨hA9, rfl⟩⟩⟩⟩) (by omega) h _ _
            · have h_130f := c_130
              refine sx_aload_n (pc := 133) dX6_answers_133 rfl rfl ?_
              refine sx_iload_n (pc := 134) dX6_answers_134 rfl rfl ?_
              refine sx_bipush (pc := 135) (v := 69) dX6_answers_135 (by decide) ?_
              refine sx_callV (pc := 137) (As := [.int dev, .int 69]) dX6_answers_137 (c_put X Ex hE μ2 _ hb _ (0) (by omega) h.2.2.2.1) mX6_put lm_X6_119 rfl s_Mo rfl ⟨Nat.le_of_ble_eq_true rfl, Nat.le_of_ble_eq_true rfl⟩ ⟨Nat.le_of_ble_eq_true rfl, Nat.le_of_ble_eq_true rfl⟩ (Nat.le_of_ble_eq_true rfl) hE (fun r_137 sh1 μ9 h_137 => ?_)
              obtain ⟨rfl, rfl, k_137, q_137⟩ := h_137
              replace h := h.tt k_137 q_137
              refine sx_aload_n (pc := 140) dX6_answers_140 rfl rfl ?_
              refine sx_iload_n (pc := 141) dX6_answers_141 rfl rfl ?_
              refine sx_aload_n (pc := 142) dX6_answers_142 rfl rfl ?_
              refine sx_callV (pc := 143) (As := []) dX6_answers_143 (c_bad X Ex hE μ9) mX6_bad lm_X6_141 rfl s_Mo rfl ⟨Nat.le_of_ble_eq_true rfl, Nat.le_of_ble_eq_true rfl⟩ ⟨Nat.le_of_ble_eq_true rfl, Nat.le_of_ble_eq_true rfl⟩ (Nat.le_of_ble_eq_true rfl) hE (fun r_143 sh1 μ10 h_143 => ?_)
              obtain ⟨rfl, rfl, x_143, rfl, hx_143⟩ := h_143
              refine sx_callV (pc := 146) (As := [.int dev, .int x_143]) dX6_answers_146 (c_put X Ex hE μ9 _ hb _ (0 + 1) (by omega) h.2.2.2.1) mX6_put lm_X6_119 rfl s_Mo rfl ⟨Nat.le_of_ble_eq_true rfl, Nat.le_of_ble_eq_true rfl⟩ ⟨Nat.le_of_ble_eq_true rfl, Nat.le_of_ble_eq_true rfl⟩ (Nat.le_of_ble_eq_true rfl) hE (fun r_146 sh1 μ11 h_146 => ?_)
              obtain ⟨rfl, rfl, k_146, q_146⟩ := h_146
              replace h := h.tt k_146 q_146
              refine sx_goto (pc := 149) (tgt := 239) dX6_answers_149 (by decide) ?_
              exact l_fin239 hE hb (fun μ9 I9 => ⟨rfl, rfl, _, I9, Or.inr ⟨t, hp, Or.inr ⟨(fun y => y.elim (fun w => h_76f (by rw [hR.1]; exact w)) (fun w => h_89t (by rw [hR.2.1, h100]; exact w))), Or.inl ⟨Or.inr (by rw [← hR.tm]; exact (hx_127.elim (fun y => absurd y.1 h_130f) (fun y => y.2))), rfl⟩⟩⟩⟩) (by omega) h _ _ _
          · have h_104f := c_104
            refine sx_aload_n (pc := 107) dX6_answers_107 rfl rfl ?_
            refine sx_getr (pc := 108) (ci := 6) (j := 4) (r := 99) dX6_answers_108 rfl s_Mo rfl (by decide) lf_X6_21 ?_
            refine sx_iload_n (pc := 111) dX6_answers_111 rfl rfl ?_
            refine sx_zald (pc := 112) dX6_answers_112 s_M4 (by decide) rfl (vp_in_lt (n := 6) hb.1 hb.2 (by decide)) ?_
            refine sx_if_ne (pc := 113) (tgt := 126) dX6_answers_113 (by decide) (fun c_113 => ?_) (fun c_113 => ?_)
            · have h_113t := c_113
              refine sx_aload_n (pc := 126) dX6_answers_126 rfl rfl ?_
              refine sx_callV (pc := 127) (As := []) dX6_answers_127 (c_bad X Ex hE μ2) mX6_bad lm_X6_141 rfl s_Mo rfl ⟨Nat.le_of_ble_eq_true rfl, Nat.le_of_ble_eq_true rfl⟩ ⟨Nat.le_of_ble_eq_true rfl, Nat.le_of_ble_eq_true rfl⟩ (Nat.le_of_ble_eq_true rfl) hE (fun r_127 sh1 μ12 h_127 => ?_)
              obtain ⟨rfl, rfl, x_127, rfl, hx_127⟩ := h_127
              refine sx_if_le (pc := 130) (tgt := 152) dX6_answers_130 (by decide) (fun c_130 => ?_) (fun c_130 => ?_)
              · have h_130t := c_130
                have hnb : ¬ bd t := by rw [← hR.tm]; exact (hx_127.elim (fun y => y.2) (fun y => absurd h_130t y.1))
                have hA9 : ¬ ((¬ t.1 = 83 ∧ μ 99 dev.toNatClampNeg = 0) ∨ bd t) := fun y => y.elim (fun w => by first | exact w.1 (by rw [← hR.1]; exact h_104t) | exact h_113t (by rw [h99]; exact w.2)) hnb
                refine sx_aload_n (pc := 152) dX6_answers_152 rfl rfl ?_
                refine sx_getr (pc := 153) (ci := 6) (j := 4) (r := 99) dX6_answers_153 rfl s_Mo rfl (by decide) lf_X6_21 ?_
                refine sx_iload_n (pc := 156) dX6_answers_156 rfl rfl ?_
                refine sx_iconst (pc := 157) (v := 1) dX6_answers_157 (by decide) ?_
                refine sx_zast (pc := 158) rfl dX6_answers_158 s_M4 (by decide) rfl (vp_in_lt (n := 6) hb.1 hb.2 (by decide)) (fun μ13 hμ13 => ?_)
                have e158 := hμ13; replace h := h.p99 (by decide) hμ13
                have hz_μ13 : μ13 96 dev.toNatClampNeg = nI z := by rw [hμ13, xup_at, if_neg (by omega)]; exact hz_μ2
                have hk_μ13 : μ13 95 20 = nI k := by rw [hμ13, xup_at, if_neg (by omega)]; exact hk_μ2
                have hH9 : hvw μ13 = hvw μ := congrArg (fun y : SG => y.2.2.2) h.2.1
                have hR2 := hR.same (μ' := μ13) (by rw [e158]; funext b; rw [xup_at, if_neg (by omega)])
                refine sx_aload_n (pc := 159) dX6_answers_159 rfl rfl ?_
                refine sx_iload_n (pc := 160) dX6_answers_160 rfl rfl ?_
                refine sx_aload_n (pc := 161) dX6_answers_161 rfl rfl ?_
                refine sx_geti (pc := 162) (ci := 6) (j := 25) dX6_answers_162 rfl s_Mo rfl (by decide) lf_X6_94 ?_
                refine sx_callV (pc := 165) (As := [.int dev, .int (μ13 95 25)]) dX6_answers_165 (c_judge X Ex hE μ13 _ _ _ _ k n (by omega) rfl rfl (by rw [hR2.1]; exact (prs_s hp).1) (fun y => h_76f (by rw [hR.1, ← hR2.1]; exact y)) (fun y => (rf_p hp hR2 hnb).1 (by rw [hR2.1] at y; exact y)) (fun y => (rf_p hp hR2 hnb).2 (by rw [hR2.1] at y; exact y)) hk_μ13 (by rw [hH9]; exact hW)) mX6_judge lm_X6_145 rfl s_Mo rfl ⟨Nat.le_of_ble_eq_true rfl, Nat.le_of_ble_eq_true rfl⟩ ⟨Nat.le_of_ble_eq_true rfl, Nat.le_of_ble_eq_true rfl⟩ (Nat.le_of_ble_eq_true rfl) hE (fun r_165 sh1 μ14 h_165 => ?_)
                obtain ⟨rfl, k_165, t_165, x_165, rfl⟩ := h_165
                replace h := h.jud (H := jT (hvw μ) dev t) k_165 (by rw [t_165, jT_rf hR2, hH9])
                refine sx_istore_n (pc := 168) (L' := [some (.ref (X.2 + 95)), some (.int dev), some (.int x_165), none, none]) dX6_answers_168 rfl (by decide) rfl ?_
                refine sx_aload_n (pc := 169) dX6_answers_169 rfl rfl ?_
                refine sx_iload_n (pc := 170) dX6_answers_170 rfl rfl ?_
                refine sx_aload_n (pc := 171) dX6_answers_171 rfl rfl ?_
                refine sx_geti (pc := 172) (ci := 6) (j := 29) dX6_answers_172 rfl s_Mo rfl (by decide) lf_X6_148 ?_
                refine sx_if_eq (pc := 175) (tgt := 183) dX6_answers_175 (by decide) (fun c_175 => ?_) (fun c_175 => ?_)
                · have h_175t := c_175
                  refine sx_bipush (pc := 183) (v := 88) dX6_answers_183 (by decide) ?_
                  refine sx_callV (pc := 185) (As := [.int dev, .int 88]) dX6_answers_185 (c_put X Ex hE μ14 _ hb _ (0) (by omega) h.2.2.2.1) mX6_put lm_X6_119 rfl s_Mo rfl ⟨Nat.le_of_ble_eq_true rfl, Nat.le_of_ble_eq_true rfl⟩ ⟨Nat.le_of_ble_eq_true rfl, Nat.le_of_ble_eq_true rfl⟩ (Nat.le_of_ble_eq_true rfl) hE (fun r_185 sh1 μ15 h_185 => ?_)
                  obtain ⟨rfl, rfl, k_185, q_185⟩ := h_185
                  replace h := h.tt k_185 q_185
                  refine sx_iconst (pc := 188) (v := 1) dX6_answers_188 (by decide) ?_
                  refine sx_istore_n (pc := 189) (L' := [some (.ref (X.2 + 95)), some (.int dev), some (.int x_165), some (.int 1), none]) dX6_answers_189 rfl (by decide) rfl ?_
                  exact l_p hE hb (fun μ9 I9 => ⟨rfl, rfl, _, I9, Or.inr ⟨t, hp, Or.inr ⟨(fun y => y.elim (fun w => h_76f (by rw [hR.1]; exact w)) (fun w => h_89t (by rw [hR.2.1, h100]; exact w))), Or.inr ⟨hA9, rfl⟩⟩⟩⟩) (by omega) h _ _
                · have h_175f := c_175
                  refine sx_bipush (pc := 178) (v := 89) dX6_answers_178 (by decide) ?_
                  refine sx_goto (pc := 180) (tgt := 185) dX6_answers_180 (by decide) ?_
                  refine sx_callV (pc := 185) (As := [.int dev, .int 89]) dX6_answers_185 (c_put X Ex hE μ14 _ hb _ (0) (by omega) h.2.2.2.1) mX6_put lm_X6_119 rfl s_Mo rfl ⟨Nat.le_of_ble_eq_true rfl, Nat.le_of_ble_eq_true rfl⟩ ⟨Nat.le_of_ble_eq_true rfl, Nat.le_of_ble_eq_true rfl⟩ (Nat.le_of_ble_eq_true rfl) hE (fun r_185 sh1 μ16 h_185 => ?_)
                  obtain ⟨rfl, rfl, k_185, q_185⟩ := h_185
                  replace h := h.tt k_185 q_185
                  refine sx_iconst (pc := 188) (v := 1) dX6_answers_188 (by decide) ?_
                  refine sx_istore_n (pc := 189) (L' := [some (.ref (X.2 + 95)), some (.int dev), some (.int x_165), some (.int 1), none]) dX6_answers_189 rfl (by decide) rfl ?_
                  exact l_p hE hb (fun μ9 I9 => ⟨rfl, rfl, _, I9, Or.inr ⟨t, hp, Or.inr ⟨(fun y => y.elim (fun w => h_76f (by rw [hR.1]; exact w)) (fun w => h_89t (by rw [hR.2.1, h100]; exact w))), Or.inr ⟨hA9, rfl⟩⟩⟩⟩) (by omega) h _ _
              · have h_130f := c_130
                refine sx_aload_n (pc := 133) dX6_answers_133 rfl rfl ?_
                refine sx_iload_n (pc := 134) dX6_answers_134 rfl rfl ?_
                refine sx_bipush (pc := 135) (v := 69) dX6_answers_135 (by decide) ?_
                refine sx_callV (pc := 137) (As := [.int dev, .int 69]) dX6_answers_137 (c_put X Ex hE μ2 _ hb _ (0) (by omega) h.2.2.2.1) mX6_put lm_X6_119 rfl s_Mo rfl ⟨Nat.le_of_ble_eq_true rfl, Nat.le_of_ble_eq_true rfl⟩ ⟨Nat.le_of_ble_eq_true rfl, Nat.le_of_ble_eq_true rfl⟩ (Nat.le_of_ble_eq_true rfl) hE (fun r_137 sh1 μ17 h_137 => ?_)
                obtain ⟨rfl, rfl, k_137, q_137⟩ := h_137
                replace h := h.tt k_137 q_137
                refine sx_aload_n (pc := 140) dX6_answers_140 rfl rfl ?_
                refine sx_iload_n (pc := 141) dX6_answers_141 rfl rfl ?_
                refine sx_aload_n (pc := 142) dX6_answers_142 rfl rfl ?_
                refine sx_callV (pc := 143) (As := []) dX6_answers_143 (c_bad X Ex hE μ17) mX6_bad lm_X6_141 rfl s_Mo rfl ⟨Nat.le_of_ble_eq_true rfl, Nat.le_of_ble_eq_true rfl⟩ ⟨Nat.le_of_ble_eq_true rfl, Nat.le_of_ble_eq_true rfl⟩ (Nat.le_of_ble_eq_true rfl) hE (fun r_143 sh1 μ18 h_143 => ?_)
                obtain ⟨rfl, rfl, x_143, rfl, hx_143⟩ := h_143
                refine sx_callV (pc := 146) (As := [.int dev, .int x_143]) dX6_answers_146 (c_put X Ex hE μ17 _ hb _ (0 + 1) (by omega) h.2.2.2.1) mX6_put lm_X6_119 rfl s_Mo rfl ⟨Nat.le_of_ble_eq_true rfl, Nat.le_of_ble_eq_true rfl⟩ ⟨Nat.le_of_ble_eq_true rfl, Nat.le_of_ble_eq_true rfl⟩ (Nat.le_of_ble_eq_true rfl) hE (fun r_146 sh1 μ19 h_146 => ?_)
                obtain ⟨rfl, rfl, k_146, q_146⟩ := h_146
                replace h := h.tt k_146 q_146
                refine sx_goto (pc := 149) (tgt := 239) dX6_answers_149 (by decide) ?_
                exact l_fin239 hE hb (fun μ9 I9 => ⟨rfl, rfl, _, I9, Or.inr ⟨t, hp, Or.inr ⟨(fun y => y.elim (fun w => h_76f (by rw [hR.1]; exact w)) (fun w => h_89t (by rw [hR.2.1, h100]; exact w))), Or.inl ⟨Or.inr (by rw [← hR.tm]; exact (hx_127.elim (fun y => absurd y.1 h_130f) (fun y => y.2))), rfl⟩⟩⟩⟩) (by omega) h _ _ _
            · have h_113f := c_113
              refine sx_aload_n (pc := 116) dX6_answers_116 rfl rfl ?_
              refine sx_iload_n (pc := 117) dX6_answers_117 rfl rfl ?_
              refine sx_bipush (pc := 118) (v := 88) dX6_answers_118 (by decide) ?_
              refine sx_callV (pc := 120) (As := [.int dev, .int 88]) dX6_answers_120 (c_put X Ex hE μ2 _ hb _ (0) (by omega) h.2.2.2.1) mX6_put lm_X6_119 rfl s_Mo rfl ⟨Nat.le_of_ble_eq_true rfl, Nat.le_of_ble_eq_true rfl⟩ ⟨Nat.le_of_ble_eq_true rfl, Nat.le_of_ble_eq_true rfl⟩ (Nat.le_of_ble_eq_true rfl) hE (fun r_120 sh1 μ20 h_120 => ?_)
              obtain ⟨rfl, rfl, k_120, q_120⟩ := h_120
              replace h := h.tt k_120 q_120
              refine sx_goto (pc := 123) (tgt := 239) dX6_answers_123 (by decide) ?_
              exact l_fin239 hE hb (fun μ9 I9 => ⟨rfl, rfl, _, I9, Or.inr ⟨t, hp, Or.inr ⟨(fun y => y.elim (fun w => h_76f (by rw [hR.1]; exact w)) (fun w => h_89t (by rw [hR.2.1, h100]; exact w))), Or.inl ⟨Or.inl ⟨fun w => h_104f (by rw [hR.1]; exact w), by rw [← h99]; exact h_113f⟩, rfl⟩⟩⟩⟩) (by omega) h _ _ _
        · have h_89f := c_89
          obtain ⟨q9, hq9, hq9e⟩ := h.2.2.1
          refine sx_aload_n (pc := 92) dX6_answers_92 rfl rfl ?_
          refine sx_iload_n (pc := 93) dX6_answers_93 rfl rfl ?_
          refine sx_callV (pc := 94) (As := [.int dev]) dX6_answers_94 (c_again X Ex hE μ2 _ hb q9 hq9 hq9e) mX6_again lm_X6_138 rfl s_Mo rfl ⟨Nat.le_of_ble_eq_true rfl, Nat.le_of_ble_eq_true rfl⟩ ⟨Nat.le_of_ble_eq_true rfl, Nat.le_of_ble_eq_true rfl⟩ (Nat.le_of_ble_eq_true rfl) hE (fun r_94 sh1 μ21 h_94 => ?_)
          obtain ⟨rfl, rfl, k_94, q_94⟩ := h_94
          replace h := h.tt k_94 q_94
          exact sx_vret (pc := 97) dX6_answers_97 rfl (Nat.zero_le _) (Nat.zero_le _) (⟨rfl, rfl, _, h.end_ hq9, Or.inr ⟨t, hp, Or.inl ⟨by first | exact Or.inl (by rw [← hR.1]; exact h_76t) | exact Or.inr (by rw [← hR.2.1, ← h100]; exact h_89f), rfl⟩⟩⟩)
    · have h_44f := c_44
      refine sx_aload_n (pc := 47) dX6_answers_47 rfl rfl ?_
      refine sx_getr (pc := 48) (ci := 6) (j := 9) (r := 104) dX6_answers_48 rfl s_Mo rfl (by decide) lf_X6_36 ?_
      refine sx_iload_n (pc := 51) dX6_answers_51 rfl rfl ?_
      refine sx_iald (pc := 52) dX6_answers_52 s_M9 (by decide) rfl (vp_in_lt (n := 6) hb.1 hb.2 (by decide)) ?_
      refine sx_if_ne (pc := 53) (tgt := 70) dX6_answers_53 (by decide) (fun c_53 => ?_) (fun c_53 => ?_)
      · have h_53t := c_53
        refine sx_aload_n (pc := 70) dX6_answers_70 rfl rfl ?_
        refine sx_geti (pc := 71) (ci := 6) (j := 24) dX6_answers_71 rfl s_Mo rfl (by decide) lf_X6_87 ?_
        refine sx_bipush (pc := 74) (v := 81) dX6_answers_74 (by decide) ?_
        refine sx_icmp_eq (pc := 76) (tgt := 92) dX6_answers_76 (by decide) (fun c_76 => ?_) (fun c_76 => ?_)
        · have h_76t := c_76
          obtain ⟨q9, hq9, hq9e⟩ := h.2.2.1
          refine sx_aload_n (pc := 92) dX6_answers_92 rfl rfl ?_
          refine sx_iload_n (pc := 93) dX6_answers_93 rfl rfl ?_
          refine sx_callV (pc := 94) (As := [.int dev]) dX6_answers_94 (c_again X Ex hE μ2 _ hb q9 hq9 hq9e) mX6_again lm_X6_138 rfl s_Mo rfl ⟨Nat.le_of_ble_eq_true rfl, Nat.le_of_ble_eq_true rfl⟩ ⟨Nat.le_of_ble_eq_true rfl, Nat.le_of_ble_eq_true rfl⟩ (Nat.le_of_ble_eq_true rfl) hE (fun r_94 sh1 μ22 h_94 => ?_)
          obtain ⟨rfl, rfl, k_94, q_94⟩ := h_94
          replace h := h.tt k_94 q_94
          exact sx_vret (pc := 97) dX6_answers_97 rfl (Nat.zero_le _) (Nat.zero_le _) (⟨rfl, rfl, _, h.end_ hq9, Or.inr ⟨t, hp, Or.inl ⟨by first | exact Or.inl (by rw [← hR.1]; exact h_76t) | exact Or.inr (by rw [← hR.2.1, ← h100]; exact h_89f), rfl⟩⟩⟩)
        · have h_76f := c_76
          refine sx_aload_n (pc := 79) dX6_answers_79 rfl rfl ?_
          refine sx_geti (pc := 80) (ci := 6) (j := 25) dX6_answers_80 rfl s_Mo rfl (by decide) lf_X6_94 ?_
          refine sx_aload_n (pc := 83) dX6_answers_83 rfl rfl ?_
          refine sx_getr (pc := 84) (ci := 6) (j := 5) (r := 100) dX6_answers_84 rfl s_Mo rfl (by decide) lf_X6_24 ?_
          refine sx_iload_n (pc := 87) dX6_answers_87 rfl rfl ?_
          refine sx_iald (pc := 88) dX6_answers_88 s_M5 (by decide) rfl (vp_in_lt (n := 6) hb.1 hb.2 (by decide)) ?_
          refine sx_icmp_ne (pc := 89) (tgt := 98) dX6_answers_89 (by decide) (fun c_89 => ?_) (fun c_89 => ?_)
          · have h_89t := c_89
            refine sx_aload_n (pc := 98) dX6_answers_98 rfl rfl ?_
            refine sx_geti (pc := 99) (ci := 6) (j := 24) dX6_answers_99 rfl s_Mo rfl (by decide) lf_X6_87 ?_
            refine sx_bipush (pc := 102) (v := 83) dX6_answers_102 (by decide) ?_
            refine sx_icmp_eq (pc := 104) (tgt := 126) dX6_answers_104 (by decide) (fun c_104 => ?_) (fun c_104 => ?_)
            · have h_104t := c_104
              refine sx_aload_n (pc := 126) dX6_answers_126 rfl rfl ?_
              refine sx_callV (pc := 127) (As := []) dX6_answers_127 (c_bad X Ex hE μ2) mX6_bad lm_X6_141 rfl s_Mo rfl ⟨Nat.le_of_ble_eq_true rfl, Nat.le_of_ble_eq_true rfl⟩ ⟨Nat.le_of_ble_eq_true rfl, Nat.le_of_ble_eq_true rfl⟩ (Nat.le_of_ble_eq_true rfl) hE (fun r_127 sh1 μ23 h_127 => ?_)
              obtain ⟨rfl, rfl, x_127, rfl, hx_127⟩ := h_127
              refine sx_if_le (pc := 130) (tgt := 152) dX6_answers_130 (by decide) (fun c_130 => ?_) (fun c_130 => ?_)
              · have h_130t := c_130
                have hnb : ¬ bd t := by rw [← hR.tm]; exact (hx_127.elim (fun y => y.2) (fun y => absurd h_130t y.1))
                have hA9 : ¬ ((¬ t.1 = 83 ∧ μ 99 dev.toNatClampNeg = 0) ∨ bd t) := fun y => y.elim (fun w => by first | exact w.1 (by rw [← hR.1]; exact h_104t) | exact h_113t (by rw [h99]; exact w.2)) hnb
                refine sx_aload_n (pc := 152) dX6_answers_152 rfl rfl ?_
                refine sx_getr (pc := 153) (ci := 6) (j := 4) (r := 99) dX6_answers_153 rfl s_Mo rfl (by decide) lf_X6_21 ?_
                refine sx_iload_n (pc := 156) dX6_answers_156 rfl rfl ?_
                refine sx_iconst (pc := 157) (v := 1) dX6_answers_157 (by decide) ?_
                refine sx_zast (pc := 158) rfl dX6_answers_158 s_M4 (by decide) rfl (vp_in_lt (n := 6) hb.1 hb.2 (by decide)) (fun μ24 hμ24 => ?_)
                have e158 := hμ24; replace h := h.p99 (by decide) hμ24
                have hz_μ24 : μ24 96 dev.toNatClampNeg = nI z := by rw [hμ24, xup_at, if_neg (by omega)]; exact hz_μ2
                have hk_μ24 : μ24 95 20 = nI k := by rw [hμ24, xup_at, if_neg (by omega)]; exact hk_μ2
                have hH9 : hvw μ24 = hvw μ := congrArg (fun y : SG => y.2.2.2) h.2.1
                have hR2 := hR.same (μ' := μ24) (by rw [e158]; funext b; rw [xup_at, if_neg (by omega)])
                refine sx_aload_n (pc := 159) dX6_answers_159 rfl rfl ?_
                refine sx_iload_n (pc := 160) dX6_answers_160 rfl rfl ?_
                refine sx_aload_n (pc := 161) dX6_answers_161 rfl rfl ?_
                refine sx_geti (pc := 162) (ci := 6) (j := 25) dX6_answers_162 rfl s_Mo rfl (by decide) lf_X6_94 ?_
                refine sx_callV (pc := 165) (As := [.int dev, .int (μ24 95 25)]) dX6_answers_165 (c_judge X Ex hE μ24 _ _ _ _ k n (by omega) rfl rfl (by rw [hR2.1]; exact (prs_s hp).1) (fun y => h_76f (by rw [hR.1, ← hR2.1]; exact y)) (fun y => (rf_p hp hR2 hnb).1 (by rw [hR2.1] at y; exact y)) (fun y => (rf_p hp hR2 hnb).2 (by rw [hR2.1] at y; exact y)) hk_μ24 (by rw [hH9]; exact hW)) mX6_judge lm_X6_145 rfl s_Mo rfl ⟨Nat.le_of_ble_eq_true rfl, Nat.le_of_ble_eq_true rfl⟩ ⟨Nat.le_of_ble_eq_true rfl, Nat.le_of_ble_eq_true rfl⟩ (Nat.le_of_ble_eq_true rfl) hE (fun r_165 sh1 μ25 h_165 => ?_)
                obtain ⟨rfl, k_165, t_165, x_165, rfl⟩ := h_165
                replace h := h.jud (H := jT (hvw μ) dev t) k_165 (by rw [t_165, jT_rf hR2, hH9])
                refine sx_istore_n (pc := 168) (L' := [some (.ref (X.2 + 95)), some (.int dev), some (.int x_165), none, none]) dX6_answers_168 rfl (by decide) rfl ?_
                refine sx_aload_n (pc := 169) dX6_answers_169 rfl rfl ?_
                refine sx_iload_n (pc := 170) dX6_answers_170 rfl rfl ?_
                refine sx_aload_n (pc := 171) dX6_answers_171 rfl rfl ?_
                refine sx_geti (pc := 172) (ci := 6) (j := 29) dX6_answers_172 rfl s_Mo rfl (by decide) lf_X6_148 ?_
                refine sx_if_eq (pc := 175) (tgt := 183) dX6_answers_175 (by decide) (fun c_175 => ?_) (fun c_175 => ?_)
                · have h_175t := c_175
                  refine sx_bipush (pc := 183) (v := 88) dX6_answers_183 (by decide) ?_
                  refine sx_callV (pc := 185) (As := [.int dev, .int 88]) dX6_answers_185 (c_put X Ex hE μ25 _ hb _ (0) (by omega) h.2.2.2.1) mX6_put lm_X6_119 rfl s_Mo rfl ⟨Nat.le_of_ble_eq_true rfl, Nat.le_of_ble_eq_true rfl⟩ ⟨Nat.le_of_ble_eq_true rfl, Nat.le_of_ble_eq_true rfl⟩ (Nat.le_of_ble_eq_true rfl) hE (fun r_185 sh1 μ26 h_185 => ?_)
                  obtain ⟨rfl, rfl, k_185, q_185⟩ := h_185
                  replace h := h.tt k_185 q_185
                  refine sx_iconst (pc := 188) (v := 1) dX6_answers_188 (by decide) ?_
                  refine sx_istore_n (pc := 189) (L' := [some (.ref (X.2 + 95)), some (.int dev), some (.int x_165), some (.int 1), none]) dX6_answers_189 rfl (by decide) rfl ?_
                  exact l_p hE hb (fun μ9 I9 => ⟨rfl, rfl, _, I9, Or.inr ⟨t, hp, Or.inr ⟨(fun y => y.elim (fun w => h_76f (by rw [hR.1]; exact w)) (fun w => h_89t (by rw [hR.2.1, h100]; exact w))), Or.inr ⟨hA9, rfl⟩⟩⟩⟩) (by omega) h _ _
                · have h_175f := c_175
                  refine sx_bipush (pc := 178) (v := 89) dX6_answers_178 (by decide) ?_
                  refine sx_goto (pc := 180) (tgt := 185) dX6_answers_180 (by decide) ?_
                  refine sx_callV (pc := 185) (As := [.int dev, .int 89]) dX6_answers_185 (c_put X Ex hE μ25 _ hb _ (0) (by omega) h.2.2.2.1) mX6_put lm_X6_119 rfl s_Mo rfl ⟨Nat.le_of_ble_eq_true rfl, Nat.le_of_ble_eq_true rfl⟩ ⟨Nat.le_of_ble_eq_true rfl, Nat.le_of_ble_eq_true rfl⟩ (Nat.le_of_ble_eq_true rfl) hE (fun r_185 sh1 μ27 h_185 => ?_)
                  obtain ⟨rfl, rfl, k_185, q_185⟩ := h_185
                  replace h := h.tt k_185 q_185
                  refine sx_iconst (pc := 188) (v := 1) dX6_answers_188 (by decide) ?_
                  refine sx_istore_n (pc := 189) (L' := [some (.ref (X.2 + 95)), some (.int dev), some (.int x_165), some (.int 1), none]) dX6_answers_189 rfl (by decide) rfl ?_
                  exact l_p hE hb (fun μ9 I9 => ⟨rfl, rfl, _, I9, Or.inr ⟨t, hp, Or.inr ⟨(fun y => y.elim (fun w => h_76f (by rw [hR.1]; exact w)) (fun w => h_89t (by rw [hR.2.1, h100]; exact w))), Or.inr ⟨hA9, rfl⟩⟩⟩⟩) (by omega) h _ _
              · have h_130f := c_130
                refine sx_aload_n (pc := 133) dX6_answers_133 rfl rfl ?_
                refine sx_iload_n (pc := 134) dX6_answers_134 rfl rfl ?_
                refine sx_bipush (pc := 135) (v := 69) dX6_answers_135 (by decide) ?_
                refine sx_callV (pc := 137) (As := [.int dev, .int 69]) dX6_answers_137 (c_put X Ex hE μ2 _ hb _ (0) (by omega) h.2.2.2.1) mX6_put lm_X6_119 rfl s_Mo rfl ⟨Nat.le_of_ble_eq_true rfl, Nat.le_of_ble_eq_true rfl⟩ ⟨Nat.le_of_ble_eq_true rfl, Nat.le_of_ble_eq_true rfl⟩ (Nat.le_of_ble_eq_true rfl) hE (fun r_137 sh1 μ28 h_137 => ?_)
                obtain ⟨rfl, rfl, k_137, q_137⟩ := h_137
                replace h := h.tt k_137 q_137
                refine sx_aload_n (pc := 140) dX6_answers_140 rfl rfl ?_
                refine sx_iload_n (pc := 141) dX6_answers_141 rfl rfl ?_
                refine sx_aload_n (pc := 142) dX6_answers_142 rfl rfl ?_
                refine sx_callV (pc := 143) (As := []) dX6_answers_143 (c_bad X Ex hE μ28) mX6_bad lm_X6_141 rfl s_Mo rfl ⟨Nat.le_of_ble_eq_true rfl, Nat.le_of_ble_eq_true rfl⟩ ⟨Nat.le_of_ble_eq_true rfl, Nat.le_of_ble_eq_true rfl⟩ (Nat.le_of_ble_eq_true rfl) hE (fun r_143 sh1 μ29 h_143 => ?_)
                obtain ⟨rfl, rfl, x_143, rfl, hx_143⟩ := h_143
                refine sx_callV (pc := 146) (As := [.int dev, .int x_143]) dX6_answers_146 (c_put X Ex hE μ28 _ hb _ (0 + 1) (by omega) h.2.2.2.1) mX6_put lm_X6_119 rfl s_Mo rfl ⟨Nat.le_of_ble_eq_true rfl, Nat.le_of_ble_eq_true rfl⟩ ⟨Nat.le_of_ble_eq_true rfl, Nat.le_of_ble_eq_true rfl⟩ (Nat.le_of_ble_eq_true rfl) hE (fun r_146 sh1 μ30 h_146 => ?_)
                obtain ⟨rfl, rfl, k_146, q_146⟩ := h_146
                replace h := h.tt k_146 q_146
                refine sx_goto (pc := 149) (tgt := 239) dX6_answers_149 (by decide) ?_
                exact l_fin239 hE hb (fun μ9 I9 => ⟨rfl, rfl, _, I9, Or.inr ⟨t, hp, Or.inr ⟨(fun y => y.elim (fun w => h_76f (by rw [hR.1]; exact w)) (fun w => h_89t (by rw [hR.2.1, h100]; exact w))), Or.inl ⟨Or.inr (by rw [← hR.tm]; exact (hx_127.elim (fun y => absurd y.1 h_130f) (fun y => y.2))), rfl⟩⟩⟩⟩) (by omega) h _ _ _
            · have h_104f := c_104
              refine sx_aload_n (pc := 107) dX6_answers_107 rfl rfl ?_
              refine sx_getr (pc := 108) (ci := 6) (j := 4) (r := 99) dX6_answers_108 rfl s_Mo rfl (by decide) lf_X6_21 ?_
              refine sx_iload_n (pc := 111) dX6_answers_111 rfl rfl ?_
              refine sx_zald (pc := 112) dX6_answers_112 s_M4 (by decide) rfl (vp_in_lt (n := 6) hb.1 hb.2 (by decide)) ?_
              refine sx_if_ne (pc := 113) (tgt := 126) dX6_answers_113 (by decide) (fun c_113 => ?_) (fun c_113 => ?_)
              · have h_113t := c_113
                refine sx_aload_n (pc := 126) dX6_answers_126 rfl rfl ?_
                refine sx_callV (pc := 127) (As := []) dX6_answers_127 (c_bad X Ex hE μ2) mX6_bad lm_X6_141 rfl s_Mo rfl ⟨Nat.le_of_ble_eq_true rfl, Nat.le_of_ble_eq_true rfl⟩ ⟨Nat.le_of_ble_eq_true rfl, Nat.le_of_ble_eq_true rfl⟩ (Nat.le_of_ble_eq_true rfl) hE (fun r_127 sh1 μ31 h_127 => ?_)
                obtain ⟨rfl, rfl, x_127, rfl, hx_127⟩ := h_127
                refine sx_if_le (pc := 130) (tgt := 152) dX6_answers_130 (by decide) (fun c_130 => ?_) (fun c_130 => ?_)
                · have h_130t := c_130
                  have hnb : ¬ bd t := by rw [← hR.tm]; exact (hx_127.elim (fun y => y.2) (fun y => absurd h_130t y.1))
                  have hA9 : ¬ ((¬ t.1 = 83 ∧ μ 99 dev.toNatClampNeg = 0) ∨ bd t) := fun y => y.elim (fun w => by first | exact w.1 (by rw [← hR.1]; exact h_104t) | exact h_113t (by rw [h99]; exact w.2)) hnb
                  refine sx_aload_n (pc := 152) dX6_answers_152 rfl rfl ?_
                  refine sx_getr (pc := 153) (ci := 6) (j := 4) (r := 99) dX6_answers_153 rfl s_Mo rfl (by decide) lf_X6_21 ?_
                  refine sx_iload_n (pc := 156) dX6_answers_156 rfl rfl ?_
                  refine sx_iconst (pc := 157) (v := 1) dX6_answers_157 (by decide) ?_
                  refine sx_zast (pc := 158) rfl dX6_answers_158 s_M4 (by decide) rfl (vp_in_lt (n := 6) hb.1 hb.2 (by decide)) (fun μ32 hμ32 => ?_)
                  have e158 := hμ32; replace h := h.p99 (by decide) hμ32
                  have hz_μ32 : μ32 96 dev.toNatClampNeg = nI z := by rw [hμ32, xup_at, if_neg (by omega)]; exact hz_μ2
                  have hk_μ32 : μ32 95 20 = nI k := by rw [hμ32, xup_at, if_neg (by omega)]; exact hk_μ2
                  have hH9 : hvw μ32 = hvw μ := congrArg (fun y : SG => y.2.2.2) h.2.1
                  have hR2 := hR.same (μ' := μ32) (by rw [e158]; funext b; rw [xup_at, if_neg (by omega)])
                  refine sx_aload_n (pc := 159) dX6_answers_159 rfl rfl ?_
                  refine sx_iload_n (pc := 160) dX6_answers_160 rfl rfl ?_
                  refine sx_aload_n (pc := 161) dX6_answers_161 rfl rfl ?_
                  refine sx_geti (pc := 162) (ci := 6) (j := 25) dX6_answers_162 rfl s_Mo rfl (by decide) lf_X6_94 ?_
                  refine sx_callV (pc := 165) (As := [.int dev, .int (μ32 95 25)]) dX6_answers_165 (c_judge X Ex hE μ32 _ _ _ _ k n (by omega) rfl rfl (by rw [hR2.1]; exact (prs_s hp).1) (fun y => h_76f (by rw [hR.1, ← hR2.1]; exact y)) (fun y => (rf_p hp hR2 hnb).1 (by rw [hR2.1] at y; exact y)) (fun y => (rf_p hp hR2 hnb).2 (by rw [hR2.1] at y; exact y)) hk_μ32 (by rw [hH9]; exact hW)) mX6_judge lm_X6_145 rfl s_Mo rfl ⟨Nat.le_of_ble_eq_true rfl, Nat.le_of_ble_eq_true rfl⟩ ⟨Nat.le_of_ble_eq_true rfl, Nat.le_of_ble_eq_true rfl⟩ (Nat.le_of_ble_eq_true rfl) hE (fun r_165 sh1 μ33 h_165 => ?_)
                  obtain ⟨rfl, k_165, t_165, x_165, rfl⟩ := h_165
                  replace h := h.jud (H := jT (hvw μ) dev t) k_165 (by rw [t_165, jT_rf hR2, hH9])
                  refine sx_istore_n (pc := 168) (L' := [some (.ref (X.2 + 95)), some (.int dev), some (.int x_165), none, none]) dX6_answers_168 rfl (by decide) rfl ?_
                  refine sx_aload_n (pc := 169) dX6_answers_169 rfl rfl ?_
                  refine sx_iload_n (pc := 170) dX6_answers_170 rfl rfl ?_
                  refine sx_aload_n (pc := 171) dX6_answers_171 rfl rfl ?_
                  refine sx_geti (pc := 172) (ci := 6) (j := 29) dX6_answers_172 rfl s_Mo rfl (by decide) lf_X6_148 ?_
                  refine sx_if_eq (pc := 175) (tgt := 183) dX6_answers_175 (by decide) (fun c_175 => ?_) (fun c_175 => ?_)
                  · have h_175t := c_175
                    refine sx_bipush (pc := 183) (v := 88) dX6_answers_183 (by decide) ?_
                    refine sx_callV (pc := 185) (As := [.int dev, .int 88]) dX6_answers_185 (c_put X Ex hE μ33 _ hb _ (0) (by omega) h.2.2.2.1) mX6_put lm_X6_119 rfl s_Mo rfl ⟨Nat.le_of_ble_eq_true rfl, Nat.le_of_ble_eq_true rfl⟩ ⟨Nat.le_of_ble_eq_true rfl, Nat.le_of_ble_eq_true rfl⟩ (Nat.le_of_ble_eq_true rfl) hE (fun r_185 sh1 μ34 h_185 => ?_)
                    obtain ⟨rfl, rfl, k_185, q_185⟩ := h_185
                    replace h := h.tt k_185 q_185
                    refine sx_iconst (pc := 188) (v := 1) dX6_answers_188 (by decide) ?_
                    refine sx_istore_n (pc := 189) (L' := [some (.ref (X.2 + 95)), some (.int dev), some (.int x_165), some (.int 1), none]) dX6_answers_189 rfl (by decide) rfl ?_
                    exact l_p hE hb (fun μ9 I9 => ⟨rfl, rfl, _, I9, Or.inr ⟨t, hp, Or.inr ⟨(fun y => y.elim (fun w => h_76f (by rw [hR.1]; exact w)) (fun w => h_89t (by rw [hR.2.1, h100]; exact w))), Or.inr ⟨hA9, rfl⟩⟩⟩⟩) (by omega) h _ _
                  · have h_175f := c_175
                    refine sx_bipush (pc := 178) (v := 89) dX6_answers_178 (by decide) ?_
                    refine sx_goto (pc := 180) (tgt := 185) dX6_answers_180 (by decide) ?_
                    refine sx_callV (pc := 185) (As := [.int dev, .int 89]) dX6_answers_185 (c_put X Ex hE μ33 _ hb _ (0) (by omega) h.2.2.2.1) mX6_put lm_X6_119 rfl s_Mo rfl ⟨Nat.le_of_ble_eq_true rfl, Nat.le_of_ble_eq_true rfl⟩ ⟨Nat.le_of_ble_eq_true rfl, Nat.le_of_ble_eq_true rfl⟩ (Nat.le_of_ble_eq_true rfl) hE (fun r_185 sh1 μ35 h_185 => ?_)
                    obtain ⟨rfl, rfl, k_185, q_185⟩ := h_185
                    replace h := h.tt k_185 q_185
                    refine sx_iconst (pc := 188) (v := 1) dX6_answers_188 (by decide) ?_
                    refine sx_istore_n (pc := 189) (L' := [some (.ref (X.2 + 95)), some (.int dev), some (.int x_165), some (.int 1), none]) dX6_answers_189 rfl (by decide) rfl ?_
                    exact l_p hE hb (fun μ9 I9 => ⟨rfl, rfl, _, I9, Or.inr ⟨t, hp, Or.inr ⟨(fun y => y.elim (fun w => h_76f (by rw [hR.1]; exact w)) (fun w => h_89t (by rw [hR.2.1, h100]; exact w))), Or.inr ⟨hA9, rfl⟩⟩⟩⟩) (by omega) h _ _
                · have h_130f := c_130
                  refine sx_aload_n (pc := 133) dX6_answers_133 rfl rfl ?_
                  refine sx_iload_n (pc := 134) dX6_answers_134 rfl rfl ?_
                  refine sx_bipush (pc := 135) (v := 69) dX6_answers_135 (by decide) ?_
                  refine sx_callV (pc := 137) (As := [.int dev, .int 69]) dX6_answers_137 (c_put X Ex hE μ2 _ hb _ (0) (by omega) h.2.2.2.1) mX6_put lm_X6_119 rfl s_Mo rfl ⟨Nat.le_of_ble_eq_true rfl, Nat.le_of_ble_eq_true rfl⟩ ⟨Nat.le_of_ble_eq_true rfl, Nat.le_of_ble_eq_true rfl⟩ (Nat.le_of_ble_eq_true rfl) hE (fun r_137 sh1 μ36 h_137 => ?_)
                  obtain ⟨rfl, rfl, k_137, q_137⟩ := h_137
                  replace h := h.tt k_137 q_137
                  refine sx_aload_n (pc := 140) dX6_answers_140 rfl rfl ?_
                  refine sx_iload_n (pc := 141) dX6_answers_141 rfl rfl ?_
                  refine sx_aload_n (pc := 142) dX6_answers_142 rfl rfl ?_
                  refine sx_callV (pc := 143) (As := []) dX6_answers_143 (c_bad X Ex hE μ36) mX6_bad lm_X6_141 rfl s_Mo rfl ⟨Nat.le_of_ble_eq_true rfl, Nat.le_of_ble_eq_true rfl⟩ ⟨Nat.le_of_ble_eq_true rfl, Nat.le_of_ble_eq_true rfl⟩ (Nat.le_of_ble_eq_true rfl) hE (fun r_143 sh1 μ37 h_143 => ?_)
                  obtain ⟨rfl, rfl, x_143, rfl, hx_143⟩ := h_143
                  refine sx_callV (pc := 146) (As := [.int dev, .int x_143]) dX6_answers_146 (c_put X Ex hE μ36 _ hb _ (0 + 1) (by omega) h.2.2.2.1) mX6_put lm_X6_119 rfl s_Mo rfl ⟨Nat.le_of_ble_eq_true rfl, Nat.le_of_ble_eq_true rfl⟩ ⟨Nat.le_of_ble_eq_true rfl, Nat.le_of_ble_eq_true rfl⟩ (Nat.le_of_ble_eq_true rfl) hE (fun r_146 sh1 μ38 h_146 => ?_)
                  obtain ⟨rfl, rfl, k_146, q_146⟩ := h_146
                  replace h := h.tt k_146 q_146
                  refine sx_goto (pc := 149) (tgt := 239) dX6_answers_149 (by decide) ?_
                  exact l_fin239 hE hb (fun μ9 I9 => ⟨rfl, rfl, _, I9, Or.inr ⟨t, hp, Or.inr ⟨(fun y => y.elim (fun w => h_76f (by rw [hR.1]; exact w)) (fun w => h_89t (by rw [hR.2.1, h100]; exact w))), Or.inl ⟨Or.inr (by rw [← hR.tm]; exact (hx_127.elim (fun y => absurd y.1 h_130f) (fun y => y.2))), rfl⟩⟩⟩⟩) (by omega) h _ _ _
              · have h_113f := c_113
                refine sx_aload_n (pc := 116) dX6_answers_116 rfl rfl ?_
                refine sx_iload_n (pc := 117) dX6_answers_117 rfl rfl ?_
                refine sx_bipush (pc := 118) (v := 88) dX6_answers_118 (by decide) ?_
                refine sx_callV (pc := 120) (As := [.int dev, .int 88]) dX6_answers_120 (c_put X Ex hE μ2 _ hb _ (0) (by omega) h.2.2.2.1) mX6_put lm_X6_119 rfl s_Mo rfl ⟨Nat.le_of_ble_eq_true rfl, Nat.le_of_ble_eq_true rfl⟩ ⟨Nat.le_of_ble_eq_true rfl, Nat.le_of_ble_eq_true rfl⟩ (Nat.le_of_ble_eq_true rfl) hE (fun r_120 sh1 μ39 h_120 => ?_)
                obtain ⟨rfl, rfl, k_120, q_120⟩ := h_120
                replace h := h.tt k_120 q_120
                refine sx_goto (pc := 123) (tgt := 239) dX6_answers_123 (by decide) ?_
                exact l_fin239 hE hb (fun μ9 I9 => ⟨rfl, rfl, _, I9, Or.inr ⟨t, hp, Or.inr ⟨(fun y => y.elim (fun w => h_76f (by rw [hR.1]; exact w)) (fun w => h_89t (by rw [hR.2.1, h100]; exact w))), Or.inl ⟨Or.inl ⟨fun w => h_104f (by rw [hR.1]; exact w), by rw [← h99]; exact h_113f⟩, rfl⟩⟩⟩⟩) (by omega) h _ _ _
          · have h_89f := c_89
            obtain ⟨q9, hq9, hq9e⟩ := h.2.2.1
            refine sx_aload_n (pc := 92) dX6_answers_92 rfl rfl ?_
            refine sx_iload_n (pc := 93) dX6_answers_93 rfl rfl ?_
            refine sx_callV (pc := 94) (As := [.int dev]) dX6_answers_94 (c_again X Ex hE μ2 _ hb q9 hq9 hq9e) mX6_again lm_X6_138 rfl s_Mo rfl ⟨Nat.le_of_ble_eq_true rfl, Nat.le_of_ble_eq_true rfl⟩ ⟨Nat.le_of_ble_eq_true rfl, Nat.le_of_ble_eq_true rfl⟩ (Nat.le_of_ble_eq_true rfl) hE (fun r_94 sh1 μ40 h_94 => ?_)
            obtain ⟨rfl, rfl, k_94, q_94⟩ := h_94
            replace h := h.tt k_94 q_94
            exact sx_vret (pc := 97) dX6_answers_97 rfl (Nat.zero_le _) (Nat.zero_le _) (⟨rfl, rfl, _, h.end_ hq9, Or.inr ⟨t, hp, Or.inl ⟨by first | exact Or.inl (by rw [← hR.1]; exact h_76t) | exact Or.inr (by rw [← hR.2.1, ← h100]; exact h_89f), rfl⟩⟩⟩)
      · have h_53f := c_53
        refine sx_aload_n (pc := 56) dX6_answers_56 rfl rfl ?_
        refine sx_iload_n (pc := 57) dX6_answers_57 rfl rfl ?_
        refine sx_bipush (pc := 58) (v := 88) dX6_answers_58 (by decide) ?_
        refine sx_callV (pc := 60) (As := [.int dev, .int 88]) dX6_answers_60 (c_put X Ex hE μ2 _ hb _ (0) (by omega) h.2.2.2.1) mX6_put lm_X6_119 rfl s_Mo rfl ⟨Nat.le_of_ble_eq_true rfl, Nat.le_of_ble_eq_true rfl⟩ ⟨Nat.le_of_ble_eq_true rfl, Nat.le_of_ble_eq_true rfl⟩ (Nat.le_of_ble_eq_true rfl) hE (fun r_60 sh1 μ41 h_60 => ?_)
        obtain ⟨rfl, rfl, k_60, q_60⟩ := h_60
        replace h := h.tt k_60 q_60
        refine sx_aload_n (pc := 63) dX6_answers_63 rfl rfl ?_
        refine sx_iload_n (pc := 64) dX6_answers_64 rfl rfl ?_
        refine sx_iconst (pc := 65) (v := 0) dX6_answers_65 (by decide) ?_
        refine sx_callV (pc := 66) (As := [.int dev, .int 0]) dX6_answers_66 (c_finish X Ex hE μ41 _ hb _ 1 (by omega) h.2.2.2.1) mX6_finish lm_X6_134 rfl s_Mo rfl ⟨Nat.le_of_ble_eq_true rfl, Nat.le_of_ble_eq_true rfl⟩ ⟨Nat.le_of_ble_eq_true rfl, Nat.le_of_ble_eq_true rfl⟩ (Nat.le_of_ble_eq_true rfl) hE (fun r_66 sh1 μ42 h_66 => ?_)
        obtain ⟨rfl, rfl, f1, f2, f3, f4, f5, f6⟩ := h_66
        exact sx_vret (pc := 69) dX6_answers_69 rfl (Nat.zero_le _) (Nat.zero_le _) (⟨rfl, rfl, _, h.fin0 (by omega) f1 f2 f3 f4 (f5 rfl), Or.inr ⟨t, hp, Or.inl ⟨Or.inl (by rw [← hR.1]; exact h_44f), rfl⟩⟩⟩)
  · have h_12f := c_12
    have hp := hx_9.elim (fun y => absurd (y.1.symm.trans h_12f) (by decide)) (fun y => y.2)
    refine sx_aload_n (pc := 15) dX6_answers_15 rfl rfl ?_
    refine sx_getr (pc := 16) (ci := 6) (j := 6) (r := 101) dX6_answers_16 rfl s_Mo rfl (by decide) lf_X6_27 ?_
    refine sx_iload_n (pc := 19) dX6_answers_19 rfl rfl ?_
    refine sx_dup2 (pc := 20) dX6_answers_20 rfl rfl ?_
    refine sx_iald (pc := 21) dX6_answers_21 s_M6 (by decide) rfl (vp_in_lt (n := 6) hb.1 hb.2 (by decide)) ?_
    refine sx_iconst (pc := 22) (v := 1) dX6_answers_22 (by decide) ?_
    refine sx_iadd (pc := 23) dX6_answers_23 ?_
    refine sx_iast (pc := 24) dX6_answers_24 s_M6 (by decide) rfl (vp_in_lt (n := 6) hb.1 hb.2 (by decide)) (fun μ43 hμ43 => ?_)
    replace h := h.p101 hμ43
    have hz_μ43 : μ43 96 dev.toNatClampNeg = nI z := by rw [hμ43, xup_at, if_neg (by omega)]; exact hz_μ2
    have hk_μ43 : μ43 95 20 = nI k := by rw [hμ43, xup_at, if_neg (by omega)]; exact hk_μ2
    refine sx_aload_n (pc := 25) dX6_answers_25 rfl rfl ?_
    refine sx_iload_n (pc := 26) dX6_answers_26 rfl rfl ?_
    refine sx_bipush (pc := 27) (v := 78) dX6_answers_27 (by decide) ?_
    refine sx_callV (pc := 29) (As := [.int dev, .int 78]) dX6_answers_29 (c_put X Ex hE μ43 _ hb _ (0) (by omega) h.2.2.2.1) mX6_put lm_X6_119 rfl s_Mo rfl ⟨Nat.le_of_ble_eq_true rfl, Nat.le_of_ble_eq_true rfl⟩ ⟨Nat.le_of_ble_eq_true rfl, Nat.le_of_ble_eq_true rfl⟩ (Nat.le_of_ble_eq_true rfl) hE (fun r_29 sh1 μ44 h_29 => ?_)
    obtain ⟨rfl, rfl, k_29, q_29⟩ := h_29
    replace h := h.tt k_29 q_29
    refine sx_aload_n (pc := 32) dX6_answers_32 rfl rfl ?_
    refine sx_iload_n (pc := 33) dX6_answers_33 rfl rfl ?_
    refine sx_callV (pc := 34) (As := [.int dev]) dX6_answers_34 (c_close X Ex hE μ44 _ hb 1 (by omega) h.2.2.2.1) mX6_close lm_X6_126 rfl s_Mo rfl ⟨Nat.le_of_ble_eq_true rfl, Nat.le_of_ble_eq_true rfl⟩ ⟨Nat.le_of_ble_eq_true rfl, Nat.le_of_ble_eq_true rfl⟩ (Nat.le_of_ble_eq_true rfl) hE (fun r_34 sh1 μ45 h_34 => ?_)
    obtain ⟨rfl, rfl, k_34, q_34⟩ := h_34
    replace h := h.tt k_34 q_34
    exact sx_vret (pc := 37) dX6_answers_37 rfl (Nat.zero_le _) (Nat.zero_le _) (⟨rfl, rfl, _, h.end_ (by omega), Or.inl ⟨hp, rfl⟩⟩)
