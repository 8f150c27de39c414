/-! the reference's answers: only their lengths matter here -/
def Tt (D : Nat) (μ μ' : xM) : Prop := (∀ a, a ≠ 102 → a ≠ 103 → μ' a = μ a) ∧ ∀ e, e ≠ D → μ' 102 e = μ 102 e
theorem Tt.rf {D : Nat} {μ : xM} : Tt D μ μ := ⟨fun _ _ _ => rfl, fun _ _ => rfl⟩
theorem Tt.trans {D : Nat} {μ μ1 μ2 : xM} (h : Tt D μ μ1) (h' : Tt D μ1 μ2) : Tt D μ μ2 := ⟨fun a h1 h2 => (h'.1 a h1 h2).trans (h.1 a h1 h2), fun e he => (h'.2 e he).trans (h.2 e he)⟩
theorem Tt.p3 {D : Nat} {μ μ1 μ2 : xM} {j : Nat} {v : Int32} (h : Tt D μ μ1) (e : μ2 = xup μ1 103 j v) : Tt D μ μ2 :=
  ⟨fun a h1 h2 => by rw [← h.1 a h1 h2, e]; funext b; rw [xup_at, if_neg (fun q => h2 q.1)], fun i hi => by rw [e, xup_at, if_neg (by omega)]; exact h.2 i hi⟩
theorem Tt.p2 {D : Nat} {μ μ1 μ2 : xM} {v : Int32} (h : Tt D μ μ1) (e : μ2 = xup μ1 102 D v) : Tt D μ μ2 :=
  ⟨fun a h1 h2 => by rw [← h.1 a h1 h2, e]; funext b; rw [xup_at, if_neg (fun q => h1 q.1)], fun i hi => by rw [e, xup_at, if_neg (fun q => hi q.2)]; exact h.2 i hi⟩
theorem only_put {k : Nat} {μ μ1 μ2 : xM} {j : Nat} {v : Int32} (h : ∀ a, a ≠ k → μ1 a = μ a) (e : μ2 = xup μ1 k j v) : ∀ a, a ≠ k → μ2 a = μ a := fun a ha => by
  rw [← h a ha, e]; funext b; rw [xup_at, if_neg (fun q => ha q.1)]
set_option maxHeartbeats 1000000 in
set_option maxRecDepth 20000 in
theorem c_put (X : xD) (Ex : State → Prop) (hE : xEs X false shA.length Ex) (μ : xM) (dev : Int32) (hb : 0 ≤ dev ∧ dev < 6) (ch : Int32) (t : Nat) (ht : t < 30) (h0 : μ 102 dev.toNatClampNeg = nI t) : Ct X Ex false yX6_put kX6_put (rmN 0) [.ref (X.2 + 95), .int dev, .int ch] shA μ (fun r sh' μ' => shA = sh' ∧ r = none ∧ Tt dev.toNatClampNeg μ μ' ∧ μ' 102 dev.toNatClampNeg = nI (t + 1)) := by
  refine Ct.of (L0 := [some (.ref (X.2 + 95)), some (.int dev), some (.int ch)]) (by decide) rfl (fun h => by cases h) (by simp [Value.category]) (Nat.le_of_ble_eq_true rfl) rfl (fun l => ?_)
  refine sx_aload_n (pc := 0) dX6_put_0 rfl rfl ?_
  refine sx_getr (pc := 1) (ci := 6) (j := 8) (r := 103) dX6_put_1 rfl s_Mo rfl (by decide) lf_X6_33 ?_
  refine sx_bipush (pc := 4) (v := 30) dX6_put_4 (by decide) ?_
  refine sx_iload_n (pc := 6) dX6_put_6 rfl rfl ?_
  refine sx_imul (pc := 7) dX6_put_7 ?_
  refine sx_aload_n (pc := 8) dX6_put_8 rfl rfl ?_
  refine sx_getr (pc := 9) (ci := 6) (j := 7) (r := 102) dX6_put_9 rfl s_Mo rfl (by decide) lf_X6_30 ?_
  refine sx_iload_n (pc := 12) dX6_put_12 rfl rfl ?_
  refine sx_iald (pc := 13) dX6_put_13 s_M7 (by decide) rfl (vp_in_lt (n := 6) hb.1 hb.2 (by decide)) ?_
  rw [h0]
  refine sx_iadd (pc := 14) dX6_put_14 ?_
  refine sx_iload_n (pc := 15) dX6_put_15 rfl rfl ?_
  refine sx_i2b (pc := 16) dX6_put_16 rfl ?_
  refine sx_bast (pc := 17) rfl dX6_put_17 s_M8 (by decide) rfl (ix_mul hb 30 t 180 (fun k hk => by omega) (by decide) (by decide)) (fun μ1 hμ1 => ?_)
  have h0_μ1 : μ1 102 dev.toNatClampNeg = nI t := by rw [hμ1, xup_at, if_neg (by omega)]; exact h0
  refine sx_aload_n (pc := 18) dX6_put_18 rfl rfl ?_
  refine sx_getr (pc := 19) (ci := 6) (j := 7) (r := 102) dX6_put_19 rfl s_Mo rfl (by decide) lf_X6_30 ?_
  refine sx_iload_n (pc := 22) dX6_put_22 rfl rfl ?_
  refine sx_dup2 (pc := 23) dX6_put_23 rfl rfl ?_
  refine sx_iald (pc := 24) dX6_put_24 s_M7 (by decide) rfl (vp_in_lt (n := 6) hb.1 hb.2 (by decide)) ?_
  rw [h0_μ1]
  refine sx_iconst (pc := 25) (v := 1) dX6_put_25 (by decide) ?_
  refine sx_iadd (pc := 26) dX6_put_26 ?_
  rw [nI_1]
  refine sx_iast (pc := 27) dX6_put_27 s_M7 (by decide) rfl (vp_in_lt (n := 6) hb.1 hb.2 (by decide)) (fun μ2 hμ2 => ?_)
  have h0_μ2 : μ2 102 dev.toNatClampNeg = nI (t + 1) := by rw [hμ2, xup_at, if_pos ⟨rfl, rfl⟩]
  exact sx_vret (pc := 28) dX6_put_28 rfl (Nat.zero_le _) (Nat.zero_le _) (⟨rfl, rfl, (Tt.p2 (Tt.p3 Tt.rf hμ1) hμ2), h0_μ2⟩)
set_option maxHeartbeats 1000000 in
set_option maxRecDepth 20000 in
theorem l_close {X : xD} {Ex : State → Prop} {l : Launch} {Z : List Frame → Array Value → State → State → Prop} {n0 : Nat} {μ : xM} {dev : Int32} (hb : 0 ≤ dev ∧ dev < 6) {t : Nat} (ht : t < 30) (h0 : μ 102 dev.toNatClampNeg = nI t) (hZ : ∀ (v i : Int32), sx l (rmN 1) X Ex false kX6_close n0 Z 38 [some (.ref (X.2 + 95)), some (.int dev), some (.int v), some (.int i)] [] shA μ 0 0) : ∀ (m j : Nat) (v : Int32), t - j ≤ m → j ≤ t → sx l (rmN 1) X Ex false kX6_close n0 Z 4 [some (.ref (X.2 + 95)), some (.int dev), some (.int v), some (.int (nI j))] [] shA μ 0 0 := by
  intro m
  induction m with
  | zero =>
    intro j v hm hj
    refine sx_iload_n (pc := 4) dX6_close_4 rfl rfl ?_
    refine sx_aload_n (pc := 5) dX6_close_5 rfl rfl ?_
    refine sx_getr (pc := 6) (ci := 6) (j := 7) (r := 102) dX6_close_6 rfl s_Mo rfl (by decide) lf_X6_30 ?_
    refine sx_iload_n (pc := 9) dX6_close_9 rfl rfl ?_
    refine sx_iald (pc := 10) dX6_close_10 s_M7 (by decide) rfl (vp_in_lt (n := 6) hb.1 hb.2 (by decide)) ?_
    rw [h0]
    refine sx_icmp_ge (pc := 11) (tgt := 38) dX6_close_11 (by decide) (fun c_11 => ?_) (fun c_11 => absurd (nI_le (by omega) (by omega)) c_11)
    exact hZ _ _
  | succ m ih =>
    intro j v hm hj
    refine sx_iload_n (pc := 4) dX6_close_4 rfl rfl ?_
    refine sx_aload_n (pc := 5) dX6_close_5 rfl rfl ?_
    refine sx_getr (pc := 6) (ci := 6) (j := 7) (r := 102) dX6_close_6 rfl s_Mo rfl (by decide) lf_X6_30 ?_
    refine sx_iload_n (pc := 9) dX6_close_9 rfl rfl ?_
    refine sx_iald (pc := 10) dX6_close_10 s_M7 (by decide) rfl (vp_in_lt (n := 6) hb.1 hb.2 (by decide)) ?_
    rw [h0]
    refine sx_icmp_ge (pc := 11) (tgt := 38) dX6_close_11 (by decide) (fun c_11 => ?_) (fun c_11 => ?_)
    · have h_11t := c_11
      exact hZ _ _
    · have h_11f := c_11
      have hlt : j < t := Nat.lt_of_not_le fun z => h_11f (nI_le z (by omega))
      refine sx_iload_n (pc := 14) dX6_close_14 rfl rfl ?_
      refine sx_aload_n (pc := 15) dX6_close_15 rfl rfl ?_
      refine sx_getr (pc := 16) (ci := 6) (j := 8) (r := 103) dX6_close_16 rfl s_Mo rfl (by decide) lf_X6_33 ?_
      refine sx_bipush (pc := 19) (v := 30) dX6_close_19 (by decide) ?_
      refine sx_iload_n (pc := 21) dX6_close_21 rfl rfl ?_
      refine sx_imul (pc := 22) dX6_close_22 ?_
      refine sx_iload_n (pc := 23) dX6_close_23 rfl rfl ?_
      refine sx_iadd (pc := 24) dX6_close_24 ?_
      refine sx_bald (pc := 25) dX6_close_25 s_M8 (by decide) rfl (ix_mul hb 30 j 180 (fun k hk => by omega) (by decide) (by decide)) ?_
      refine sx_sipush (pc := 26) (v := 255) dX6_close_26 (by decide) ?_
      refine sx_iand (pc := 29) dX6_close_29 ?_
      refine sx_iadd (pc := 30) dX6_close_30 ?_
      refine sx_istore_n (pc := 31) (L' := [some (.ref (X.2 + 95)), some (.int dev), some (.int (v + ((μ 103 ((30 * dev) + (nI j)).toNatClampNeg) &&& 255))), some (.int (nI j))]) dX6_close_31 rfl (by decide) rfl ?_
      refine sx_iinc (pc := 32) (v := nI (j + 1)) (L' := [some (.ref (X.2 + 95)), some (.int dev), some (.int (v + ((μ 103 ((30 * dev) + (nI j)).toNatClampNeg) &&& 255))), some (.int (nI (j + 1)))]) dX6_close_32 rfl (nI_1 j) (by decide) rfl ?_
      refine sx_goto (pc := 35) (tgt := 4) dX6_close_35 (by decide) ?_
      exact ih (j + 1) _ (by omega) (by omega)
set_option maxHeartbeats 1000000 in
set_option maxRecDepth 20000 in
theorem c_close (X : xD) (Ex : State → Prop) (hE : xEs X false shA.length Ex) (μ : xM) (dev : Int32) (hb : 0 ≤ dev ∧ dev < 6) (t : Nat) (ht : t < 26) (h0 : μ 102 dev.toNatClampNeg = nI t) : Ct X Ex false yX6_close kX6_close (rmN 1) [.ref (X.2 + 95), .int dev] shA μ (fun r sh' μ' => shA = sh' ∧ r = none ∧ Tt dev.toNatClampNeg μ μ' ∧ μ' 102 dev.toNatClampNeg = nI (t + 4)) := by
  refine Ct.of (L0 := [some (.ref (X.2 + 95)), some (.int dev), none, none]) (by decide) rfl (fun h => by cases h) (by simp [Value.category]) (Nat.le_of_ble_eq_true rfl) rfl (fun l => ?_)
  refine sx_iconst (pc := 0) (v := 0) dX6_close_0 (by decide) ?_
  refine sx_istore_n (pc := 1) (L' := [some (.ref (X.2 + 95)), some (.int dev), some (.int 0), none]) dX6_close_1 rfl (by decide) rfl ?_
  refine sx_iconst (pc := 2) (v := 0) dX6_close_2 (by decide) ?_
  refine sx_istore_n (pc := 3) (L' := [some (.ref (X.2 + 95)), some (.int dev), some (.int 0), some (.int 0)]) dX6_close_3 rfl (by decide) rfl ?_
  refine l_close hb (by omega) h0 (fun v i => ?_) t 0 0 (by omega) (Nat.zero_le _)
  refine sx_aload_n (pc := 38) dX6_close_38 rfl rfl ?_
  refine sx_iload_n (pc := 39) dX6_close_39 rfl rfl ?_
  refine sx_bipush (pc := 40) (v := 90) dX6_close_40 (by decide) ?_
  refine sx_callV (pc := 42) (As := [.int dev, .int 90]) dX6_close_42 (c_put X Ex hE μ _ hb _ (t) (by omega) h0) mX6_put lm_X6_119 rfl s_Mo rfl ⟨Nat.le_of_ble_eq_true rfl, Nat.le_of_ble_eq_true rfl⟩ ⟨Nat.le_of_ble_eq_true rfl, Nat.le_of_ble_eq_true rfl⟩ (Nat.le_of_ble_eq_true rfl) hE (fun r_42 sh1 μ1 h_42 => ?_)
  obtain ⟨rfl, rfl, k_42, q_42⟩ := h_42
  refine sx_aload_n (pc := 45) dX6_close_45 rfl rfl ?_
  refine sx_iload_n (pc := 46) dX6_close_46 rfl rfl ?_
  refine sx_iload_n (pc := 47) dX6_close_47 rfl rfl ?_
  refine sx_sipush (pc := 48) (v := 256) dX6_close_48 (by decide) ?_
  refine sx_irem (pc := 51) dX6_close_51 (by decide) ?_
  refine sx_bipush (pc := 52) (v := 16) dX6_close_52 (by decide) ?_
  refine sx_idiv (pc := 54) dX6_close_54 (by decide) ?_
  refine sx_callS (pc := 55) (As := [.int ((v - v / 256 * 256) / 16)]) dX6_close_55 (c_digit X Ex false shA μ1 _) mX6_digit lm_X6_123 rfl ⟨Nat.le_of_ble_eq_true rfl, Nat.le_of_ble_eq_true rfl⟩ ⟨Nat.le_of_ble_eq_true rfl, Nat.le_of_ble_eq_true rfl⟩ (Nat.le_of_ble_eq_true rfl) hE (fun r_55 sh1 μ2 h_55 => ?_)
  obtain ⟨rfl, rfl, x_55, rfl⟩ := h_55
  refine sx_callV (pc := 58) (As := [.int dev, .int x_55]) dX6_close_58 (c_put X Ex hE μ1 _ hb _ (t + 1) (by omega) q_42) mX6_put lm_X6_119 rfl s_Mo rfl ⟨Nat.le_of_ble_eq_true rfl, Nat.le_of_ble_eq_true rfl⟩ ⟨Nat.le_of_ble_eq_true rfl, Nat.le_of_ble_eq_true rfl⟩ (Nat.le_of_ble_eq_true rfl) hE (fun r_58 sh1 μ3 h_58 => ?_)
  obtain ⟨rfl, rfl, k_58, q_58⟩ := h_58
  refine sx_aload_n (pc := 61) dX6_close_61 rfl rfl ?_
  refine sx_iload_n (pc := 62) dX6_close_62 rfl rfl ?_
  refine sx_iload_n (pc := 63) dX6_close_63 rfl rfl ?_
  refine sx_bipush (pc := 64) (v := 16) dX6_close_64 (by decide) ?_
  refine sx_irem (pc := 66) dX6_close_66 (by decide) ?_
  refine sx_callS (pc := 67) (As := [.int (v - v / 16 * 16)]) dX6_close_67 (c_digit X Ex false shA μ3 _) mX6_digit lm_X6_123 rfl ⟨Nat.le_of_ble_eq_true rfl, Nat.le_of_ble_eq_true rfl⟩ ⟨Nat.le_of_ble_eq_true rfl, Nat.le_of_ble_eq_true rfl⟩ (Nat.le_of_ble_eq_true rfl) hE (fun r_67 sh1 μ4 h_67 => ?_)
  obtain ⟨rfl, rfl, x_67, rfl⟩ := h_67
  refine sx_callV (pc := 70) (As := [.int dev, .int x_67]) dX6_close_70 (c_put X Ex hE μ3 _ hb _ (t + 1 + 1) (by omega) q_58) mX6_put lm_X6_119 rfl s_Mo rfl ⟨Nat.le_of_ble_eq_true rfl, Nat.le_of_ble_eq_true rfl⟩ ⟨Nat.le_of_ble_eq_true rfl, Nat.le_of_ble_eq_true rfl⟩ (Nat.le_of_ble_eq_true rfl) hE (fun r_70 sh1 μ5 h_70 => ?_)
  obtain ⟨rfl, rfl, k_70, q_70⟩ := h_70
  refine sx_aload_n (pc := 73) dX6_close_73 rfl rfl ?_
  refine sx_iload_n (pc := 74) dX6_close_74 rfl rfl ?_
  refine sx_bipush (pc := 75) (v := 13) dX6_close_75 (by decide) ?_
  refine sx_callV (pc := 77) (As := [.int dev, .int 13]) dX6_close_77 (c_put X Ex hE μ5 _ hb _ (t + 1 + 1 + 1) (by omega) q_70) mX6_put lm_X6_119 rfl s_Mo rfl ⟨Nat.le_of_ble_eq_true rfl, Nat.le_of_ble_eq_true rfl⟩ ⟨Nat.le_of_ble_eq_true rfl, Nat.le_of_ble_eq_true rfl⟩ (Nat.le_of_ble_eq_true rfl) hE (fun r_77 sh1 μ6 h_77 => ?_)
  obtain ⟨rfl, rfl, k_77, q_77⟩ := h_77
  exact sx_vret (pc := 80) dX6_close_80 rfl (Nat.zero_le _) (Nat.zero_le _) (⟨rfl, rfl, (Tt.trans (Tt.trans (Tt.trans (Tt.trans Tt.rf k_42) k_58) k_70) k_77), q_77⟩)
set_option maxHeartbeats 1000000 in
set_option maxRecDepth 20000 in
theorem l_fin {X : xD} {Ex : State → Prop} {l : Launch} {kp : Int32} {μ0 : xM} {Po : Option Value → List xS → xM → Prop} {dev : Int32} (hb : 0 ≤ dev ∧ dev < 6) {t : Nat} (ht : t ≤ 30) (hPo : ∀ μ', (∀ a, a ≠ 105 → μ' a = μ0 a) → Po none shA μ') : ∀ (m j : Nat) (μ : xM), t - j ≤ m → j ≤ t → μ 102 dev.toNatClampNeg = nI t → (∀ a, a ≠ 105 → μ a = μ0 a) → sx l (rmN 2) X Ex false kX6_finish shA.length (xZ X false shA.length Po 0 0) 55 [some (.ref (X.2 + 95)), some (.int dev), some (.int kp), some (.int (nI j))] [] shA μ 0 0 := by
  intro m
  induction m with
  | zero =>
    intro j μ hm hj h0 hC
    refine sx_iload_n (pc := 55) dX6_finish_55 rfl rfl ?_
    refine sx_aload_n (pc := 56) dX6_finish_56 rfl rfl ?_
    refine sx_getr (pc := 57) (ci := 6) (j := 7) (r := 102) dX6_finish_57 rfl s_Mo rfl (by decide) lf_X6_30 ?_
    refine sx_iload_n (pc := 60) dX6_finish_60 rfl rfl ?_
    refine sx_iald (pc := 61) dX6_finish_61 s_M7 (by decide) rfl (vp_in_lt (n := 6) hb.1 hb.2 (by decide)) ?_
    rw [h0]
    refine sx_icmp_ge (pc := 62) (tgt := 93) dX6_finish_62 (by decide) (fun c_62 => ?_) (fun c_62 => absurd (nI_le (by omega) (by omega)) c_62)
    exact sx_vret (pc := 93) dX6_finish_93 rfl (Nat.zero_le _) (Nat.zero_le _) (hPo _ hC)
  | succ m ih =>
    intro j μ hm hj h0 hC
    refine sx_iload_n (pc := 55) dX6_finish_55 rfl rfl ?_
    refine sx_aload_n (pc := 56) dX6_finish_56 rfl rfl ?_
    refine sx_getr (pc := 57) (ci := 6) (j := 7) (r := 102) dX6_finish_57 rfl s_Mo rfl (by decide) lf_X6_30 ?_
    refine sx_iload_n (pc := 60) dX6_finish_60 rfl rfl ?_
    refine sx_iald (pc := 61) dX6_finish_61 s_M7 (by decide) rfl (vp_in_lt (n := 6) hb.1 hb.2 (by decide)) ?_
    rw [h0]
    refine sx_icmp_ge (pc := 62) (tgt := 93) dX6_finish_62 (by decide) (fun c_62 => ?_) (fun c_62 => ?_)
    · have h_62t := c_62
      exact sx_vret (pc := 93) dX6_finish_93 rfl (Nat.zero_le _) (Nat.zero_le _) (hPo _ hC)
    · have h_62f := c_62
      have hlt : j < t := Nat.lt_of_not_le fun z => h_62f (nI_le z (by omega))
      refine sx_aload_n (pc := 65) dX6_finish_65 rfl rfl ?_
      refine sx_getr (pc := 66) (ci := 6) (j := 10) (r := 105) dX6_finish_66 rfl s_Mo rfl (by decide) lf_X6_39 ?_
      refine sx_bipush (pc := 69) (v := 30) dX6_finish_69 (by decide) ?_
      refine sx_iload_n (pc := 71) dX6_finish_71 rfl rfl ?_
      refine sx_imul (pc := 72) dX6_finish_72 ?_
      refine sx_iload_n (pc := 73) dX6_finish_73 rfl rfl ?_
      refine sx_iadd (pc := 74) dX6_finish_74 ?_
      refine sx_aload_n (pc := 75) dX6_finish_75 rfl rfl ?_
      refine sx_getr (pc := 76) (ci := 6) (j := 8) (r := 103) dX6_finish_76 rfl s_Mo rfl (by decide) lf_X6_33 ?_
      refine sx_bipush (pc := 79) (v := 30) dX6_finish_79 (by decide) ?_
      refine sx_iload_n (pc := 81) dX6_finish_81 rfl rfl ?_
      refine sx_imul (pc := 82) dX6_finish_82 ?_
      refine sx_iload_n (pc := 83) dX6_finish_83 rfl rfl ?_
      refine sx_iadd (pc := 84) dX6_finish_84 ?_
      refine sx_bald (pc := 85) dX6_finish_85 s_M8 (by decide) rfl (ix_mul hb 30 j 180 (fun k hk => by omega) (by decide) (by decide)) ?_
      refine sx_bast (pc := 86) rfl dX6_finish_86 s_M10 (by decide) rfl (ix_mul hb 30 j 180 (fun k hk => by omega) (by decide) (by decide)) (fun μ1 hμ1 => ?_)
      have h0_μ1 : μ1 102 dev.toNatClampNeg = nI t := by rw [hμ1, xup_at, if_neg (by omega)]; exact h0
      refine sx_iinc (pc := 87) (v := nI (j + 1)) (L' := [some (.ref (X.2 + 95)), some (.int dev), some (.int kp), some (.int (nI (j + 1)))]) dX6_finish_87 rfl (nI_1 j) (by decide) rfl ?_
      refine sx_goto (pc := 90) (tgt := 55) dX6_finish_90 (by decide) ?_
      exact ih (j + 1) _ (by omega) (by omega) h0_μ1 (only_put hC hμ1)
set_option maxHeartbeats 1000000 in
set_option maxRecDepth 20000 in
theorem c_finish (X : xD) (Ex : State → Prop) (hE : xEs X false shA.length Ex) (μ : xM) (dev : Int32) (hb : 0 ≤ dev ∧ dev < 6) (kp : Int32) (t : Nat) (ht : t < 24) (h0 : μ 102 dev.toNatClampNeg = nI t) : Ct X Ex false yX6_finish kX6_finish (rmN 2) [.ref (X.2 + 95), .int dev, .int kp] shA μ (fun r sh' μ' => shA = sh' ∧ r = none ∧ (∀ a, a ≠ 100 → a ≠ 102 → a ≠ 103 → a ≠ 104 → a ≠ 105 → μ' a = μ a) ∧ (∀ e, e ≠ dev.toNatClampNeg → μ' 102 e = μ 102 e ∧ μ' 104 e = μ 104 e) ∧ μ' 102 dev.toNatClampNeg = nI (t + 6) ∧ (μ' 104 dev.toNatClampNeg = μ 104 dev.toNatClampNeg ∨ μ' 104 dev.toNatClampNeg = nI (t + 6)) ∧ (kp = 0 → μ' 100 = μ 100) ∧ (¬ kp = 0 → μ' 100 = upd (μ 100) dev.toNatClampNeg (μ 95 25))) := by
  refine Ct.of (L0 := [some (.ref (X.2 + 95)), some (.int dev), some (.int kp), none]) (by decide) rfl (fun h => by cases h) (by simp [Value.category]) (Nat.le_of_ble_eq_true rfl) rfl (fun l => ?_)
  refine sx_aload_n (pc := 0) dX6_finish_0 rfl rfl ?_
  refine sx_iload_n (pc := 1) dX6_finish_1 rfl rfl ?_
  refine sx_aload_n (pc := 2) dX6_finish_2 rfl rfl ?_
  refine sx_geti (pc := 3) (ci := 6) (j := 24) dX6_finish_3 rfl s_Mo rfl (by decide) lf_X6_87 ?_
  refine sx_callV (pc := 6) (As := [.int dev, .int (μ 95 24)]) dX6_finish_6 (c_put X Ex hE μ _ hb _ (t) (by omega) h0) mX6_put lm_X6_119 rfl s_Mo rfl ⟨Nat.le_of_ble_eq_true rfl, Nat.le_of_ble_eq_true rfl⟩ ⟨Nat.le_of_ble_eq_true rfl, Nat.le_of_ble_eq_true rfl⟩ (Nat.le_of_ble_eq_true rfl) hE (fun r_6 sh1 μ1 h_6 => ?_)
  obtain ⟨rfl, rfl, k_6, q_6⟩ := h_6
  have hT_μ1 : μ1 102 dev.toNatClampNeg = nI (t + 1) := q_6
  refine sx_aload_n (pc := 9) dX6_finish_9 rfl rfl ?_
  refine sx_iload_n (pc := 10) dX6_finish_10 rfl rfl ?_
  refine sx_bipush (pc := 11) (v := 48) dX6_finish_11 (by decide) ?_
  refine sx_aload_n (pc := 13) dX6_finish_13 rfl rfl ?_
  refine sx_geti (pc := 14) (ci := 6) (j := 25) dX6_finish_14 rfl s_Mo rfl (by decide) lf_X6_94 ?_
  refine sx_iadd (pc := 17) dX6_finish_17 ?_
  refine sx_callV (pc := 18) (As := [.int dev, .int (48 + (μ1 95 25))]) dX6_finish_18 (c_put X Ex hE μ1 _ hb _ (t + 1) (by omega) q_6) mX6_put lm_X6_119 rfl s_Mo rfl ⟨Nat.le_of_ble_eq_true rfl, Nat.le_of_ble_eq_true rfl⟩ ⟨Nat.le_of_ble_eq_true rfl, Nat.le_of_ble_eq_true rfl⟩ (Nat.le_of_ble_eq_true rfl) hE (fun r_18 sh1 μ2 h_18 => ?_)
  obtain ⟨rfl, rfl, k_18, q_18⟩ := h_18
  have hT_μ2 : μ2 102 dev.toNatClampNeg = nI (t + 1 + 1) := q_18
  refine sx_aload_n (pc := 21) dX6_finish_21 rfl rfl ?_
  refine sx_iload_n (pc := 22) dX6_finish_22 rfl rfl ?_
  refine sx_callV (pc := 23) (As := [.int dev]) dX6_finish_23 (c_close X Ex hE μ2 _ hb (t + 1 + 1) (by omega) q_18) mX6_close lm_X6_126 rfl s_Mo rfl ⟨Nat.le_of_ble_eq_true rfl, Nat.le_of_ble_eq_true rfl⟩ ⟨Nat.le_of_ble_eq_true rfl, Nat.le_of_ble_eq_true rfl⟩ (Nat.le_of_ble_eq_true rfl) hE (fun r_23 sh1 μ3 h_23 => ?_)
  obtain ⟨rfl, rfl, k_23, q_23⟩ := h_23
  have hT_μ3 : μ3 102 dev.toNatClampNeg = nI (t + 6) := q_23
  refine sx_iload_n (pc := 26) dX6_finish_26 rfl rfl ?_
  refine sx_if_ne (pc := 27) (tgt := 31) dX6_finish_27 (by decide) (fun c_27 => ?_) (fun c_27 => ?_)
  · have h_27t := c_27
    refine sx_aload_n (pc := 31) dX6_finish_31 rfl rfl ?_
    refine sx_getr (pc := 32) (ci := 6) (j := 5) (r := 100) dX6_finish_32 rfl s_Mo rfl (by decide) lf_X6_24 ?_
    refine sx_iload_n (pc := 35) dX6_finish_35 rfl rfl ?_
    refine sx_aload_n (pc := 36) dX6_finish_36 rfl rfl ?_
    refine sx_geti (pc := 37) (ci := 6) (j := 25) dX6_finish_37 rfl s_Mo rfl (by decide) lf_X6_94 ?_
    refine sx_iast (pc := 40) dX6_finish_40 s_M5 (by decide) rfl (vp_in_lt (n := 6) hb.1 hb.2 (by decide)) (fun μ4 hμ4 => ?_)
    have hT_μ4 : μ4 102 dev.toNatClampNeg = nI (t + 6) := by rw [hμ4, xup_at, if_neg (by omega)]; exact hT_μ3
    refine sx_aload_n (pc := 41) dX6_finish_41 rfl rfl ?_
    refine sx_getr (pc := 42) (ci := 6) (j := 9) (r := 104) dX6_finish_42 rfl s_Mo rfl (by decide) lf_X6_36 ?_
    refine sx_iload_n (pc := 45) dX6_finish_45 rfl rfl ?_
    refine sx_aload_n (pc := 46) dX6_finish_46 rfl rfl ?_
    refine sx_getr (pc := 47) (ci := 6) (j := 7) (r := 102) dX6_finish_47 rfl s_Mo rfl (by decide) lf_X6_30 ?_
    refine sx_iload_n (pc := 50) dX6_finish_50 rfl rfl ?_
    refine sx_iald (pc := 51) dX6_finish_51 s_M7 (by decide) rfl (vp_in_lt (n := 6) hb.1 hb.2 (by decide)) ?_
    rw [hT_μ4]
    refine sx_iast (pc := 52) dX6_finish_52 s_M9 (by decide) rfl (vp_in_lt (n := 6) hb.1 hb.2 (by decide)) (fun μ5 hμ5 => ?_)
    have hT_μ5 : μ5 102 dev.toNatClampNeg = nI (t + 6) := by rw [hμ5, xup_at, if_neg (by omega)]; exact hT_μ4
    refine sx_iconst (pc := 53) (v := 0) dX6_finish_53 (by decide) ?_
    refine sx_istore_n (pc := 54) (L' := [some (.ref (X.2 + 95)), some (.int dev), some (.int kp), some (.int 0)]) dX6_finish_54 rfl (by decide) rfl ?_
    have kk : Tt dev.toNatClampNeg μ μ3 := Tt.trans (Tt.trans k_6 k_18) k_23
    refine l_fin hb (t := t + 6) (by omega) (fun μ9 h9 => ⟨rfl, rfl, fun a a0 a2 a3 a4 a5 => ?_, fun e he => ⟨?_, ?_⟩, ?_, Or.inr ?_, fun z => absurd z h_27t, fun _ => ?_⟩) 30 0 _ (by omega) (Nat.zero_le _) hT_μ5 (fun _ _ => rfl)
    · rw [h9 a a5, hμ5, show xup μ4 104 dev.toNatClampNeg _ a = μ4 a from (by funext b; rw [xup_at, if_neg (fun q => a4 q.1)]), hμ4, show xup μ3 100 dev.toNatClampNeg _ a = μ3 a from (by funext b; rw [xup_at, if_neg (fun q => a0 q.1)])]; exact kk.1 a a2 a3
    · rw [h9 102 (by decide), hμ5, xup_at, if_neg (by omega), hμ4, xup_at, if_neg (by omega)]; exact kk.2 e he
    · rw [h9 104 (by decide), hμ5, xup_at, if_neg (fun q => he q.2), hμ4, xup_at, if_neg (by omega), kk.1 104 (by decide) (by decide)]
    · rw [h9 102 (by decide)]; exact hT_μ5
    · rw [h9 104 (by decide), hμ5, xup_at, if_pos ⟨rfl, rfl⟩]
    · rw [h9 100 (by decide), hμ5, hμ4]; show upd (μ3 100) dev.toNatClampNeg (μ3 95 25) = _; rw [kk.1 100 (by decide) (by decide), kk.1 95 (by decide) (by decide)]
  · have h_27f := c_27
    exact sx_vret (pc := 30) dX6_finish_30 rfl (Nat.zero_le _) (Nat.zero_le _) (by have kk : Tt dev.toNatClampNeg μ _ := Tt.trans (Tt.trans k_6 k_18) k_23; exact ⟨rfl, rfl, fun a _ a2 a3 _ _ => kk.1 a a2 a3, fun e he => ⟨kk.2 e he, by rw [kk.1 104 (by decide) (by decide)]⟩, q_23, Or.inl (by rw [kk.1 104 (by decide) (by decide)]), fun _ => kk.1 100 (by decide) (by decide), fun z => absurd h_27f z⟩)
set_option maxHeartbeats 1000000 in
set_option maxRecDepth 20000 in
theorem l_again {X : xD} {Ex : State → Prop} {l : Launch} {μ0 : xM} {Po : Option Value → List xS → xM → Prop} {dev : Int32} (hb : 0 ≤ dev ∧ dev < 6) {t : Nat} (ht : t ≤ 30) (hPo : ∀ μ', (∀ a, a ≠ 103 → μ' a = μ0 a) → Po none shA μ') : ∀ (m j : Nat) (μ : xM), t - j ≤ m → j ≤ t → μ 104 dev.toNatClampNeg = nI t → (∀ a, a ≠ 103 → μ a = μ0 a) → sx l (rmN 0) X Ex false kX6_again shA.length (xZ X false shA.length Po 0 0) 14 [some (.ref (X.2 + 95)), some (.int dev), some (.int (nI j))] [] shA μ 0 0 := by
  intro m
  induction m with
  | zero =>
    intro j μ hm hj h0 hC
    refine sx_iload_n (pc := 14) dX6_again_14 rfl rfl ?_
    refine sx_aload_n (pc := 15) dX6_again_15 rfl rfl ?_
    refine sx_getr (pc := 16) (ci := 6) (j := 9) (r := 104) dX6_again_16 rfl s_Mo rfl (by decide) lf_X6_36 ?_
    refine sx_iload_n (pc := 19) dX6_again_19 rfl rfl ?_
    refine sx_iald (pc := 20) dX6_again_20 s_M9 (by decide) rfl (vp_in_lt (n := 6) hb.1 hb.2 (by decide)) ?_
    rw [h0]
    refine sx_icmp_ge (pc := 21) (tgt := 52) dX6_again_21 (by decide) (fun c_21 => ?_) (fun c_21 => absurd (nI_le (by omega) (by omega)) c_21)
    exact sx_vret (pc := 52) dX6_again_52 rfl (Nat.zero_le _) (Nat.zero_le _) (hPo _ hC)
  | succ m ih =>
    intro j μ hm hj h0 hC
    refine sx_iload_n (pc := 14) dX6_again_14 rfl rfl ?_
    refine sx_aload_n (pc := 15) dX6_again_15 rfl rfl ?_
    refine sx_getr (pc := 16) (ci := 6) (j := 9) (r := 104) dX6_again_16 rfl s_Mo rfl (by decide) lf_X6_36 ?_
    refine sx_iload_n (pc := 19) dX6_again_19 rfl rfl ?_
    refine sx_iald (pc := 20) dX6_again_20 s_M9 (by decide) rfl (vp_in_lt (n := 6) hb.1 hb.2 (by decide)) ?_
    rw [h0]
    refine sx_icmp_ge (pc := 21) (tgt := 52) dX6_again_21 (by decide) (fun c_21 => ?_) (fun c_21 => ?_)
    · have h_21t := c_21
      exact sx_vret (pc := 52) dX6_again_52 rfl (Nat.zero_le _) (Nat.zero_le _) (hPo _ hC)
    · have h_21f := c_21
      have hlt : j < t := Nat.lt_of_not_le fun z => h_21f (nI_le z (by omega))
      refine sx_aload_n (pc := 24) dX6_again_24 rfl rfl ?_
      refine sx_getr (pc := 25) (ci := 6) (j := 8) (r := 103) dX6_again_25 rfl s_Mo rfl (by decide) lf_X6_33 ?_
      refine sx_bipush (pc := 28) (v := 30) dX6_again_28 (by decide) ?_
      refine sx_iload_n (pc := 30) dX6_again_30 rfl rfl ?_
      refine sx_imul (pc := 31) dX6_again_31 ?_
      refine sx_iload_n (pc := 32) dX6_again_32 rfl rfl ?_
      refine sx_iadd (pc := 33) dX6_again_33 ?_
      refine sx_aload_n (pc := 34) dX6_again_34 rfl rfl ?_
      refine sx_getr (pc := 35) (ci := 6) (j := 10) (r := 105) dX6_again_35 rfl s_Mo rfl (by decide) lf_X6_39 ?_
      refine sx_bipush (pc := 38) (v := 30) dX6_again_38 (by decide) ?_
      refine sx_iload_n (pc := 40) dX6_again_40 rfl rfl ?_
      refine sx_imul (pc := 41) dX6_again_41 ?_
      refine sx_iload_n (pc := 42) dX6_again_42 rfl rfl ?_
      refine sx_iadd (pc := 43) dX6_again_43 ?_
      refine sx_bald (pc := 44) dX6_again_44 s_M10 (by decide) rfl (ix_mul hb 30 j 180 (fun k hk => by omega) (by decide) (by decide)) ?_
      refine sx_bast (pc := 45) rfl dX6_again_45 s_M8 (by decide) rfl (ix_mul hb 30 j 180 (fun k hk => by omega) (by decide) (by decide)) (fun μ1 hμ1 => ?_)
      have h0_μ1 : μ1 104 dev.toNatClampNeg = nI t := by rw [hμ1, xup_at, if_neg (by omega)]; exact h0
      refine sx_iinc (pc := 46) (v := nI (j + 1)) (L' := [some (.ref (X.2 + 95)), some (.int dev), some (.int (nI (j + 1)))]) dX6_again_46 rfl (nI_1 j) (by decide) rfl ?_
      refine sx_goto (pc := 49) (tgt := 14) dX6_again_49 (by decide) ?_
      exact ih (j + 1) _ (by omega) (by omega) h0_μ1 (only_put hC hμ1)
set_option maxHeartbeats 1000000 in
set_option maxRecDepth 20000 in
theorem c_again (X : xD) (Ex : State → Prop) (hE : xEs X false shA.length Ex) (μ : xM) (dev : Int32) (hb : 0 ≤ dev ∧ dev < 6) (t : Nat) (ht : t ≤ 30) (h0 : μ 104 dev.toNatClampNeg = nI t) : Ct X Ex false yX6_again kX6_again (rmN 0) [.ref (X.2 + 95), .int dev] shA μ (fun r sh' μ' => shA = sh' ∧ r = none ∧ Tt dev.toNatClampNeg μ μ' ∧ μ' 102 dev.toNatClampNeg = nI t) := by
  refine Ct.of (L0 := [some (.ref (X.2 + 95)), some (.int dev), none]) (by decide) rfl (fun h => by cases h) (by simp [Value.category]) (Nat.le_of_ble_eq_true rfl) rfl (fun l => ?_)
  refine sx_aload_n (pc := 0) dX6_again_0 rfl rfl ?_
  refine sx_getr (pc := 1) (ci := 6) (j := 7) (r := 102) dX6_again_1 rfl s_Mo rfl (by decide) lf_X6_30 ?_
  refine sx_iload_n (pc := 4) dX6_again_4 rfl rfl ?_
  refine sx_aload_n (pc := 5) dX6_again_5 rfl rfl ?_
  refine sx_getr (pc := 6) (ci := 6) (j := 9) (r := 104) dX6_again_6 rfl s_Mo rfl (by decide) lf_X6_36 ?_
  refine sx_iload_n (pc := 9) dX6_again_9 rfl rfl ?_
  refine sx_iald (pc := 10) dX6_again_10 s_M9 (by decide) rfl (vp_in_lt (n := 6) hb.1 hb.2 (by decide)) ?_
  rw [h0]
  refine sx_iast (pc := 11) dX6_again_11 s_M7 (by decide) rfl (vp_in_lt (n := 6) hb.1 hb.2 (by decide)) (fun μ1 hμ1 => ?_)
  have h0_μ1 : μ1 104 dev.toNatClampNeg = nI t := by rw [hμ1, xup_at, if_neg (by omega)]; exact h0
  have hT_μ1 : μ1 102 dev.toNatClampNeg = nI t := by rw [hμ1, xup_at, if_pos ⟨rfl, rfl⟩]
  refine sx_iconst (pc := 12) (v := 0) dX6_again_12 (by decide) ?_
  refine sx_istore_n (pc := 13) (L' := [some (.ref (X.2 + 95)), some (.int dev), some (.int 0)]) dX6_again_13 rfl (by decide) rfl ?_
  exact l_again hb ht (fun μ9 h9 => ⟨rfl, rfl, ⟨fun a a2 a3 => (h9 a a3).trans ((Tt.p2 Tt.rf hμ1).1 a a2 a3), fun e he => by rw [h9 102 (by decide)]; exact (Tt.p2 Tt.rf hμ1).2 e he⟩, by rw [h9 102 (by decide)]; exact hT_μ1⟩) 30 0 _ (by omega) (Nat.zero_le _) h0_μ1 (fun _ _ => rfl)
