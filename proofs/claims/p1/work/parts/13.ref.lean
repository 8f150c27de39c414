theorem dq_t {x : Int32} {A : Prop} (h : (x = 1 ∧ A) ∨ (x = 0 ∧ ¬ A)) (hx : ¬ x = 0) : A := by
  rcases h with h | h
  · exact h.2
  · exact absurd h.1 hx
theorem dq_f {x : Int32} {A : Prop} (h : (x = 1 ∧ A) ∨ (x = 0 ∧ ¬ A)) (hx : x = 0) : ¬ A := by
  rcases h with h | h
  · rw [h.1] at hx; exact absurd hx (by decide)
  · exact h.2
theorem sw5 (w : Int32) : w = 0 ∨ w = 1 ∨ w = 2 ∨ w = 3 ∨ w = 4 ∨ (w.toInt < 0 ∨ 4 < w.toInt) := by
  by_cases h : w.toInt < 0 ∨ 4 < w.toInt
  · exact Or.inr (Or.inr (Or.inr (Or.inr (Or.inr h))))
  · have h0 : w.toInt = 0 ∨ w.toInt = 1 ∨ w.toInt = 2 ∨ w.toInt = 3 ∨ w.toInt = 4 := by omega
    rcases h0 with h0 | h0 | h0 | h0 | h0
    · exact Or.inl (Int32.toInt_inj.mp h0)
    · exact Or.inr (Or.inl (Int32.toInt_inj.mp h0))
    · exact Or.inr (Or.inr (Or.inl (Int32.toInt_inj.mp h0)))
    · exact Or.inr (Or.inr (Or.inr (Or.inl (Int32.toInt_inj.mp h0))))
    · exact Or.inr (Or.inr (Or.inr (Or.inr (Or.inl (Int32.toInt_inj.mp h0)))))
theorem R_st_out {d w : Int32} (hb : 0 ≤ d ∧ d < 6) (h : w.toInt < 0 ∨ 4 < w.toInt) : R_state d w = (-1) := by
  rw [R_state, if_pos hb, if_neg]
  rintro (rfl | rfl | rfl | rfl) <;> revert h <;> decide
theorem lt_of_le (x : Int32) (n : Nat) (hn : n + 1 < 2 ^ 31) : x ≤ nI n ↔ x < nI (n + 1) := by
  rw [Int32.le_iff_toInt_le, Int32.lt_iff_toInt_lt, nI_toInt (by omega), nI_toInt hn]
  omega
theorem dev_k {dev : Int32} (hb : 0 ≤ dev ∧ dev < 6) : ∃ k : Nat, k < 6 ∧ dev = nI k := vp_in_of (vp_in_lt (n := 6) hb.1 hb.2 (by decide)) (by decide)
theorem ix_mul {dev : Int32} (hb : 0 ≤ dev ∧ dev < 6) (c t n : Nat) (h : ∀ k, k < 6 → c * k + t < n) (hc : c < 2 ^ 20) (hn : n < 2 ^ 31) : vp_in (nI c * dev + nI t) n := by
  obtain ⟨k, hk, rfl⟩ := dev_k hb
  rw [pk_mul, nI_add]
  exact vp_in_nI (h k hk) hn
/-- a new reference -/
def FM (μ : xM) : Prop := (∀ j, j < 6 → μ 96 j = 0 ∧ μ 98 j = 0 ∧ μ 99 j = 0 ∧ μ 100 j = (-1) ∧ μ 101 j = 0 ∧ μ 102 j = 0 ∧ μ 106 j = 0) ∧ (∀ j, μ 110 j = 0) ∧ (∀ j, μ 113 j = 0) ∧ μ 95 20 = 0 ∧ μ 95 22 = 0
set_option maxHeartbeats 1000000 in
set_option maxRecDepth 20000 in
theorem p_state (X : xD) (Ex : State → Prop) (hE : xEs X false shA.length Ex) (μ : xM) (dev w : Int32) (hF : Fr μ) : Ct X Ex false yX5_state kX5_state (rmN 1) [.ref (X.2 + 0), .int dev, .int w] shA μ (fun r sh' μ' => shA = sh' ∧ Ks μ μ' ∧ r = some (.int (R_state dev w))) := by
  refine Ct.of (L0 := [some (.ref (X.2 + 0)), some (.int dev), some (.int w), none]) (by decide) rfl (fun h => by cases h) (by simp [Value.category]) (Nat.le_of_ble_eq_true rfl) rfl (fun l => ?_)
  refine sx_iload_n (pc := 0) dX5_state_0 rfl rfl ?_
  refine sx_bipush (pc := 1) (v := 6) dX5_state_1 (by decide) ?_
  refine sx_callS (pc := 3) (As := [.int dev, .int 6]) dX5_state_3 (c_isBelow X Ex false shA μ _ _) mX5_isBelow lm_X5_41 rfl ⟨Nat.le_of_ble_eq_true rfl, Nat.le_of_ble_eq_true rfl⟩ ⟨Nat.le_of_ble_eq_true rfl, Nat.le_of_ble_eq_true rfl⟩ (Nat.le_of_ble_eq_true rfl) hE (fun r_3 sh1 μ1 h_3 => ?_)
  obtain ⟨rfl, rfl, x_3, rfl, hx_3⟩ := h_3
  refine sx_if_ne (pc := 6) (tgt := 11) dX5_state_6 (by decide) (fun c_6 => ?_) (fun c_6 => ?_)
  · have h_6t := c_6
    have hb := isB_t hx_3 h_6t
    have hd := clamp_lt (n := 6) hb.1 hb.2 (by decide)
    have hf := hF.1 _ hd
    refine sx_aload_n (pc := 11) dX5_state_11 rfl rfl ?_
    refine sx_getr (pc := 12) (ci := 5) (j := 0) (r := 1) dX5_state_12 rfl s_EW rfl (by decide) lf_X5_11 ?_
    refine sx_iload_n (pc := 15) dX5_state_15 rfl rfl ?_
    refine sx_aald (pc := 16) (r := 2 + 9 * dev.toNatClampNeg) dX5_state_16 s_lines rfl rfl (vp_in_lt hb.1 hb.2 (by decide)) (el_lines _ hd) ?_
    refine sx_astore_n (pc := 17) (L' := [some (.ref (X.2 + 0)), some (.int dev), some (.int w), some (.ref (X.2 + (2 + 9 * dev.toNatClampNeg)))]) dX5_state_17 rfl (by decide) rfl ?_
    refine sx_iload_n (pc := 18) dX5_state_18 rfl rfl ?_
    rcases sw5 w with rfl | rfl | rfl | rfl | rfl | w_19
    · refine sx_tableIn (pc := 19) (off := 33) (tgt := 52) dX5_state_19 (by decide) (by decide) (by decide) (by decide) ?_
      refine sx_aload_n (pc := 52) dX5_state_52 rfl rfl ?_
      refine sx_geti (pc := 53) (ci := 2) (j := 4) dX5_state_53 rfl (s_Line _ hd) rfl (by decide) lf_X5_116 ?_
      exact sx_iret (pc := 56) dX5_state_56 rfl rfl (Nat.zero_le _) (Nat.zero_le _) (⟨rfl, (Ks.rf), by rw [R_state, if_pos hb, hf.2.2.2.1]; rfl⟩)
    · refine sx_tableIn (pc := 19) (off := 38) (tgt := 57) dX5_state_19 (by decide) (by decide) (by decide) (by decide) ?_
      refine sx_aload_n (pc := 57) dX5_state_57 rfl rfl ?_
      refine sx_geti (pc := 58) (ci := 2) (j := 3) dX5_state_58 rfl (s_Line _ hd) rfl (by decide) lf_X5_119 ?_
      refine sx_if_eq (pc := 61) (tgt := 68) dX5_state_61 (by decide) (fun c_61 => ?_) (fun c_61 => absurd hf.2.2.1 c_61)
      refine sx_iconst (pc := 68) (v := 0) dX5_state_68 (by decide) ?_
      exact sx_iret (pc := 69) dX5_state_69 rfl rfl (Nat.zero_le _) (Nat.zero_le _) (⟨rfl, (Ks.rf), by rw [R_state, if_pos hb]; rfl⟩)
    · refine sx_tableIn (pc := 19) (off := 51) (tgt := 70) dX5_state_19 (by decide) (by decide) (by decide) (by decide) ?_
      refine sx_aload_n (pc := 70) dX5_state_70 rfl rfl ?_
      refine sx_geti (pc := 71) (ci := 2) (j := 2) dX5_state_71 rfl (s_Line _ hd) rfl (by decide) lf_X5_45 ?_
      refine sx_if_eq (pc := 74) (tgt := 81) dX5_state_74 (by decide) (fun c_74 => ?_) (fun c_74 => absurd hf.2.1 c_74)
      refine sx_iconst (pc := 81) (v := 0) dX5_state_81 (by decide) ?_
      exact sx_iret (pc := 82) dX5_state_82 rfl rfl (Nat.zero_le _) (Nat.zero_le _) (⟨rfl, (Ks.rf), by rw [R_state, if_pos hb]; rfl⟩)
    · refine sx_tableIn (pc := 19) (off := 64) (tgt := 83) dX5_state_19 (by decide) (by decide) (by decide) (by decide) ?_
      refine sx_aload_n (pc := 83) dX5_state_83 rfl rfl ?_
      refine sx_geti (pc := 84) (ci := 2) (j := 11) dX5_state_84 rfl (s_Line _ hd) rfl (by decide) lf_X5_87 ?_
      exact sx_iret (pc := 87) dX5_state_87 rfl rfl (Nat.zero_le _) (Nat.zero_le _) (⟨rfl, (Ks.rf), by rw [R_state, if_pos hb, hf.2.2.2.2.2.1]; rfl⟩)
    · refine sx_tableIn (pc := 19) (off := 69) (tgt := 88) dX5_state_19 (by decide) (by decide) (by decide) (by decide) ?_
      refine sx_aload_n (pc := 88) dX5_state_88 rfl rfl ?_
      refine sx_geti (pc := 89) (ci := 2) (j := 5) dX5_state_89 rfl (s_Line _ hd) rfl (by decide) lf_X5_122 ?_
      exact sx_iret (pc := 92) dX5_state_92 rfl rfl (Nat.zero_le _) (Nat.zero_le _) (⟨rfl, (Ks.rf), by rw [R_state, if_pos hb, hf.2.2.2.2.1]; rfl⟩)
    · refine sx_tableOut (pc := 19) (tgt := 93) dX5_state_19 w_19 (by decide) ?_
      refine sx_iconst (pc := 93) (v := (-1)) dX5_state_93 (by decide) ?_
      exact sx_iret (pc := 94) dX5_state_94 rfl rfl (Nat.zero_le _) (Nat.zero_le _) (⟨rfl, (Ks.rf), by rw [R_st_out hb w_19]⟩)
  · have h_6f := c_6
    refine sx_iconst (pc := 9) (v := (-1)) dX5_state_9 (by decide) ?_
    exact sx_iret (pc := 10) dX5_state_10 rfl rfl (Nat.zero_le _) (Nat.zero_le _) (⟨rfl, (Ks.rf), by rw [R_state, if_neg (isB_f hx_3 h_6f)]⟩)
set_option maxHeartbeats 1000000 in
set_option maxRecDepth 20000 in
theorem c_in (X : xD) (Ex : State → Prop) (fr : Bool) (sh : List xS) (μ : xM) (v lo hi : Int32) : Ct X Ex fr yX6_in kX6_in (rmN 0) [.int v, .int lo, .int hi] sh μ (fun r sh' μ' => sh = sh' ∧ μ = μ' ∧ ∃ x : Int32, r = some (.int x) ∧ ((x = 1 ∧ lo ≤ v ∧ v ≤ hi) ∨ (x = 0 ∧ ¬ (lo ≤ v ∧ v ≤ hi)))) := by
  refine Ct.of (L0 := [some (.int v), some (.int lo), some (.int hi)]) (by decide) rfl (fun h => by cases h) (by simp [Value.category]) (Nat.le_of_ble_eq_true rfl) rfl (fun l => ?_)
  refine sx_iload_n (pc := 0) dX6_in_0 rfl rfl ?_
  refine sx_iload_n (pc := 1) dX6_in_1 rfl rfl ?_
  refine sx_icmp_lt (pc := 2) (tgt := 14) dX6_in_2 (by decide) (fun c_2 => ?_) (fun c_2 => ?_)
  · have h_2t := c_2
    refine sx_iconst (pc := 14) (v := 0) dX6_in_14 (by decide) ?_
    exact sx_iret (pc := 15) dX6_in_15 rfl rfl (Nat.zero_le _) (Nat.zero_le _) (by refine ⟨rfl, rfl, _, rfl, ?_⟩; first | (left; exact ⟨rfl, Int32.not_lt.mp h_2f, Int32.not_lt.mp h_7f⟩) | (right; refine ⟨rfl, fun q => ?_⟩; first | exact absurd h_2t (Int32.not_lt.mpr q.1) | exact absurd h_7t (Int32.not_lt.mpr q.2)))
  · have h_2f := c_2
    refine sx_iload_n (pc := 5) dX6_in_5 rfl rfl ?_
    refine sx_iload_n (pc := 6) dX6_in_6 rfl rfl ?_
    refine sx_icmp_gt (pc := 7) (tgt := 14) dX6_in_7 (by decide) (fun c_7 => ?_) (fun c_7 => ?_)
    · have h_7t := c_7
      refine sx_iconst (pc := 14) (v := 0) dX6_in_14 (by decide) ?_
      exact sx_iret (pc := 15) dX6_in_15 rfl rfl (Nat.zero_le _) (Nat.zero_le _) (by refine ⟨rfl, rfl, _, rfl, ?_⟩; first | (left; exact ⟨rfl, Int32.not_lt.mp h_2f, Int32.not_lt.mp h_7f⟩) | (right; refine ⟨rfl, fun q => ?_⟩; first | exact absurd h_2t (Int32.not_lt.mpr q.1) | exact absurd h_7t (Int32.not_lt.mpr q.2)))
    · have h_7f := c_7
      refine sx_iconst (pc := 10) (v := 1) dX6_in_10 (by decide) ?_
      refine sx_goto (pc := 11) (tgt := 15) dX6_in_11 (by decide) ?_
      exact sx_iret (pc := 15) dX6_in_15 rfl rfl (Nat.zero_le _) (Nat.zero_le _) (by refine ⟨rfl, rfl, _, rfl, ?_⟩; first | (left; exact ⟨rfl, Int32.not_lt.mp h_2f, Int32.not_lt.mp h_7f⟩) | (right; refine ⟨rfl, fun q => ?_⟩; first | exact absurd h_2t (Int32.not_lt.mpr q.1) | exact absurd h_7t (Int32.not_lt.mpr q.2)))
theorem inB {x v : Int32} (n : Nat) (hn : n + 1 < 2 ^ 31) (h : (x = 1 ∧ 0 ≤ v ∧ v ≤ nI n) ∨ (x = 0 ∧ ¬ (0 ≤ v ∧ v ≤ nI n))) : (x = 1 ∧ 0 ≤ v ∧ v < nI (n + 1)) ∨ (x = 0 ∧ ¬ (0 ≤ v ∧ v < nI (n + 1))) := by
  rw [← lt_of_le v n hn]; exact h
set_option maxHeartbeats 1000000 in
set_option maxRecDepth 20000 in
theorem c_isDevice (X : xD) (Ex : State → Prop) (hE : xEs X false shA.length Ex) (μ : xM) (v : Int32) : Ct X Ex false yX6_isDevice kX6_isDevice (rmN 1) [.int v] shA μ (fun r sh' μ' => shA = sh' ∧ μ = μ' ∧ ∃ x : Int32, r = some (.int x) ∧ ((x = 1 ∧ 0 ≤ v ∧ v < 6) ∨ (x = 0 ∧ ¬ (0 ≤ v ∧ v < 6)))) := by
  refine Ct.of (L0 := [some (.int v)]) (by decide) rfl (fun h => by cases h) (by simp [Value.category]) (Nat.le_of_ble_eq_true rfl) rfl (fun l => ?_)
  refine sx_iload_n (pc := 0) dX6_isDevice_0 rfl rfl ?_
  refine sx_iconst (pc := 1) (v := 0) dX6_isDevice_1 (by decide) ?_
  refine sx_iconst (pc := 2) (v := 5) dX6_isDevice_2 (by decide) ?_
  refine sx_callS (pc := 3) (As := [.int v, .int 0, .int 5]) dX6_isDevice_3 (c_in X Ex false shA μ _ 0 5) mX6_in lm_X6_76 rfl ⟨Nat.le_of_ble_eq_true rfl, Nat.le_of_ble_eq_true rfl⟩ ⟨Nat.le_of_ble_eq_true rfl, Nat.le_of_ble_eq_true rfl⟩ (Nat.le_of_ble_eq_true rfl) hE (fun r_3 sh1 μ1 h_3 => ?_)
  obtain ⟨rfl, rfl, x_3, rfl, zx_3⟩ := h_3
  have hx_3 := inB 5 (by decide) zx_3
  exact sx_iret (pc := 6) dX6_isDevice_6 rfl (by rcases hx_3 with q | q <;> rw [q.1] <;> rfl) (Nat.zero_le _) (Nat.zero_le _) (⟨rfl, rfl, _, rfl, hx_3⟩)
set_option maxHeartbeats 1000000 in
set_option maxRecDepth 20000 in
theorem c_digit (X : xD) (Ex : State → Prop) (fr : Bool) (sh : List xS) (μ : xM) (v : Int32) : Ct X Ex fr yX6_digit kX6_digit (rmN 0) [.int v] sh μ (fun r sh' μ' => sh = sh' ∧ μ = μ' ∧ ∃ x : Int32, r = some (.int x)) := by
  refine Ct.of (L0 := [some (.int v)]) (by decide) rfl (fun h => by cases h) (by simp [Value.category]) (Nat.le_of_ble_eq_true rfl) rfl (fun l => ?_)
  refine sx_iload_n (pc := 0) dX6_digit_0 rfl rfl ?_
  refine sx_bipush (pc := 1) (v := 10) dX6_digit_1 (by decide) ?_
  refine sx_icmp_ge (pc := 3) (tgt := 13) dX6_digit_3 (by decide) (fun c_3 => ?_) (fun c_3 => ?_)
  · have h_3t := c_3
    refine sx_bipush (pc := 13) (v := 65) dX6_digit_13 (by decide) ?_
    refine sx_iload_n (pc := 15) dX6_digit_15 rfl rfl ?_
    refine sx_iadd (pc := 16) dX6_digit_16 ?_
    refine sx_bipush (pc := 17) (v := 10) dX6_digit_17 (by decide) ?_
    refine sx_isub (pc := 19) dX6_digit_19 ?_
    exact sx_iret (pc := 20) dX6_digit_20 rfl rfl (Nat.zero_le _) (Nat.zero_le _) (⟨rfl, rfl, _, rfl⟩)
  · have h_3f := c_3
    refine sx_bipush (pc := 6) (v := 48) dX6_digit_6 (by decide) ?_
    refine sx_iload_n (pc := 8) dX6_digit_8 rfl rfl ?_
    refine sx_iadd (pc := 9) dX6_digit_9 ?_
    refine sx_goto (pc := 10) (tgt := 20) dX6_digit_10 (by decide) ?_
    exact sx_iret (pc := 20) dX6_digit_20 rfl rfl (Nat.zero_le _) (Nat.zero_le _) (⟨rfl, rfl, _, rfl⟩)
set_option maxHeartbeats 1000000 in
set_option maxRecDepth 20000 in
theorem c_thrown (X : xD) (Ex : State → Prop) (hE : xEs X false shA.length Ex) (μ : xM)  : Ct X Ex false yX6_thrown kX6_thrown (rmN 0) [.ref (X.2 + 95)] shA μ (fun r sh' μ' => shA = sh' ∧ μ = μ' ∧ r = some (.int (μ 95 0))) := by
  refine Ct.of (L0 := [some (.ref (X.2 + 95))]) (by decide) rfl (fun h => by cases h) (by simp [Value.category]) (Nat.le_of_ble_eq_true rfl) rfl (fun l => ?_)
  refine sx_aload_n (pc := 0) dX6_thrown_0 rfl rfl ?_
  refine sx_geti (pc := 1) (ci := 6) (j := 0) dX6_thrown_1 rfl s_Mo rfl (by decide) lf_X6_72 ?_
  exact sx_iret (pc := 4) dX6_thrown_4 rfl rfl (Nat.zero_le _) (Nat.zero_le _) (⟨rfl, rfl, rfl⟩)
set_option maxHeartbeats 1000000 in
set_option maxRecDepth 20000 in
theorem c_kindM1 (X : xD) (Ex : State → Prop) (fr : Bool) (sh : List xS) (μ : xM)  : Ct X Ex fr yX6_isKind kX6_isKind (rmN 0) [.int (-1)] sh μ (fun r sh' μ' => sh = sh' ∧ μ = μ' ∧ r = some (.int 0)) := by
  refine Ct.of (L0 := [some (.int (-1))]) (by decide) rfl (fun h => by cases h) (by simp [Value.category]) (Nat.le_of_ble_eq_true rfl) rfl (fun l => ?_)
  refine sx_iload_n (pc := 0) dX6_isKind_0 rfl rfl ?_
  refine sx_bipush (pc := 1) (v := 83) dX6_isKind_1 (by decide) ?_
  refine sx_icmp_eq (pc := 3) (tgt := 54) dX6_isKind_3 (by decide) (fun c_3 => absurd c_3 (by decide)) (fun c_3 => ?_)
  refine sx_iload_n (pc := 6) dX6_isKind_6 rfl rfl ?_
  refine sx_bipush (pc := 7) (v := 67) dX6_isKind_7 (by decide) ?_
  refine sx_icmp_eq (pc := 9) (tgt := 54) dX6_isKind_9 (by decide) (fun c_9 => absurd c_9 (by decide)) (fun c_9 => ?_)
  refine sx_iload_n (pc := 12) dX6_isKind_12 rfl rfl ?_
  refine sx_bipush (pc := 13) (v := 66) dX6_isKind_13 (by decide) ?_
  refine sx_icmp_eq (pc := 15) (tgt := 54) dX6_isKind_15 (by decide) (fun c_15 => absurd c_15 (by decide)) (fun c_15 => ?_)
  refine sx_iload_n (pc := 18) dX6_isKind_18 rfl rfl ?_
  refine sx_bipush (pc := 19) (v := 80) dX6_isKind_19 (by decide) ?_
  refine sx_icmp_eq (pc := 21) (tgt := 54) dX6_isKind_21 (by decide) (fun c_21 => absurd c_21 (by decide)) (fun c_21 => ?_)
  refine sx_iload_n (pc := 24) dX6_isKind_24 rfl rfl ?_
  refine sx_bipush (pc := 25) (v := 73) dX6_isKind_25 (by decide) ?_
  refine sx_icmp_eq (pc := 27) (tgt := 54) dX6_isKind_27 (by decide) (fun c_27 => absurd c_27 (by decide)) (fun c_27 => ?_)
  refine sx_iload_n (pc := 30) dX6_isKind_30 rfl rfl ?_
  refine sx_bipush (pc := 31) (v := 70) dX6_isKind_31 (by decide) ?_
  refine sx_icmp_eq (pc := 33) (tgt := 54) dX6_isKind_33 (by decide) (fun c_33 => absurd c_33 (by decide)) (fun c_33 => ?_)
  refine sx_iload_n (pc := 36) dX6_isKind_36 rfl rfl ?_
  refine sx_bipush (pc := 37) (v := 72) dX6_isKind_37 (by decide) ?_
  refine sx_icmp_eq (pc := 39) (tgt := 54) dX6_isKind_39 (by decide) (fun c_39 => absurd c_39 (by decide)) (fun c_39 => ?_)
  refine sx_iload_n (pc := 42) dX6_isKind_42 rfl rfl ?_
  refine sx_bipush (pc := 43) (v := 82) dX6_isKind_43 (by decide) ?_
  refine sx_icmp_eq (pc := 45) (tgt := 54) dX6_isKind_45 (by decide) (fun c_45 => absurd c_45 (by decide)) (fun c_45 => ?_)
  refine sx_iload_n (pc := 48) dX6_isKind_48 rfl rfl ?_
  refine sx_bipush (pc := 49) (v := 81) dX6_isKind_49 (by decide) ?_
  refine sx_icmp_ne (pc := 51) (tgt := 58) dX6_isKind_51 (by decide) (fun c_51 => ?_) (fun c_51 => absurd c_51 (by decide))
  refine sx_iconst (pc := 58) (v := 0) dX6_isKind_58 (by decide) ?_
  exact sx_iret (pc := 59) dX6_isKind_59 rfl rfl (Nat.zero_le _) (Nat.zero_le _) (⟨rfl, rfl, rfl⟩)
set_option maxHeartbeats 1000000 in
set_option maxRecDepth 20000 in
theorem c_look0 (X : xD) (Ex : State → Prop) (hE : xEs X false shA.length Ex) (μ : xM) (dev : Int32) (hb : 0 ≤ dev ∧ dev < 6) (h0 : μ 96 dev.toNatClampNeg ≤ μ 95 23) : Ct X Ex false yX6_look kX6_look (rmN 0) [.ref (X.2 + 95), .int dev] shA μ (fun r sh' μ' => shA = sh' ∧ μ = μ' ∧ r = some (.int (-1))) := by
  refine Ct.of (L0 := [some (.ref (X.2 + 95)), some (.int dev)]) (by decide) rfl (fun h => by cases h) (by simp [Value.category]) (Nat.le_of_ble_eq_true rfl) rfl (fun l => ?_)
  refine sx_aload_n (pc := 0) dX6_look_0 rfl rfl ?_
  refine sx_geti (pc := 1) (ci := 6) (j := 23) dX6_look_1 rfl s_Mo rfl (by decide) lf_X6_80 ?_
  refine sx_aload_n (pc := 4) dX6_look_4 rfl rfl ?_
  refine sx_getr (pc := 5) (ci := 6) (j := 1) (r := 96) dX6_look_5 rfl s_Mo rfl (by decide) lf_X6_7 ?_
  refine sx_iload_n (pc := 8) dX6_look_8 rfl rfl ?_
  refine sx_iald (pc := 9) dX6_look_9 s_M1 (by decide) rfl (vp_in_lt hb.1 hb.2 (by decide)) ?_
  refine sx_icmp_ge (pc := 10) (tgt := 34) dX6_look_10 (by decide) (fun c_10 => ?_) (fun c_10 => absurd h0 c_10)
  refine sx_iconst (pc := 34) (v := (-1)) dX6_look_34 (by decide) ?_
  exact sx_iret (pc := 35) dX6_look_35 rfl rfl (Nat.zero_le _) (Nat.zero_le _) (⟨rfl, rfl, rfl⟩)
set_option maxHeartbeats 1000000 in
set_option maxRecDepth 20000 in
theorem c_reads0 (X : xD) (Ex : State → Prop) (hE : xEs X false shA.length Ex) (μ : xM) (dev : Int32) (hb : 0 ≤ dev ∧ dev < 6) (h0 : μ 96 dev.toNatClampNeg = 0) : Ct X Ex false yX6_reads kX6_reads (rmN 1) [.ref (X.2 + 95), .int dev] shA μ (fun r sh' μ' => shA = sh' ∧ r = some (.int 0) ∧ ∀ a, a ≠ 95 → μ' a = μ a) := by
  refine Ct.of (L0 := [some (.ref (X.2 + 95)), some (.int dev), none, none, none]) (by decide) rfl (fun h => by cases h) (by simp [Value.category]) (Nat.le_of_ble_eq_true rfl) rfl (fun l => ?_)
  refine sx_aload_n (pc := 0) dX6_reads_0 rfl rfl ?_
  refine sx_iconst (pc := 1) (v := 0) dX6_reads_1 (by decide) ?_
  refine sx_puti (pc := 2) (ci := 6) (j := 23) (ty := .int) dX6_reads_2 rfl s_Mo rfl (by decide) lf_X6_80 rfl (by decide +kernel) rfl rfl (fun μ1 hμ1 => ?_)
  refine sx_aload_n (pc := 5) dX6_reads_5 rfl rfl ?_
  refine sx_aload_n (pc := 6) dX6_reads_6 rfl rfl ?_
  refine sx_iload_n (pc := 7) dX6_reads_7 rfl rfl ?_
  refine sx_callV (pc := 8) (As := [.int dev]) dX6_reads_8 (c_look0 X Ex hE μ1 _ hb (by subst hμ1; simp [xup_at, h0])) mX6_look lm_X6_83 rfl s_Mo rfl ⟨Nat.le_of_ble_eq_true rfl, Nat.le_of_ble_eq_true rfl⟩ ⟨Nat.le_of_ble_eq_true rfl, Nat.le_of_ble_eq_true rfl⟩ (Nat.le_of_ble_eq_true rfl) hE (fun r_8 sh1 μ2 h_8 => ?_)
  obtain ⟨rfl, rfl, rfl⟩ := h_8
  refine sx_puti (pc := 11) (ci := 6) (j := 24) (ty := .int) dX6_reads_11 rfl s_Mo rfl (by decide) lf_X6_87 rfl (by decide +kernel) rfl rfl (fun μ3 hμ3 => ?_)
  refine sx_aload_n (pc := 14) dX6_reads_14 rfl rfl ?_
  refine sx_geti (pc := 15) (ci := 6) (j := 24) dX6_reads_15 rfl s_Mo rfl (by decide) lf_X6_87 ?_
  rw [show μ3 95 24 = (-1) by subst hμ3; simp [xup_at]]
  refine sx_callS (pc := 18) (As := [.int (-1)]) dX6_reads_18 (c_kindM1 X Ex false shA μ3) mX6_isKind lm_X6_90 rfl ⟨Nat.le_of_ble_eq_true rfl, Nat.le_of_ble_eq_true rfl⟩ ⟨Nat.le_of_ble_eq_true rfl, Nat.le_of_ble_eq_true rfl⟩ (Nat.le_of_ble_eq_true rfl) hE (fun r_18 sh1 μ4 h_18 => ?_)
  obtain ⟨rfl, rfl, rfl⟩ := h_18
  refine sx_if_ne (pc := 21) (tgt := 26) dX6_reads_21 (by decide) (fun c_21 => absurd c_21 (by decide)) (fun c_21 => ?_)
  refine sx_iconst (pc := 24) (v := 0) dX6_reads_24 (by decide) ?_
  exact sx_iret (pc := 25) dX6_reads_25 rfl rfl (Nat.zero_le _) (Nat.zero_le _) (⟨rfl, rfl, fun a ha => by subst hμ3; subst hμ1; funext b; simp [xup_at, ha]⟩)
set_option maxHeartbeats 1000000 in
set_option maxRecDepth 20000 in
theorem c_put (X : xD) (Ex : State → Prop) (hE : xEs X false shA.length Ex) (μ : xM) (dev : Int32) (hb : 0 ≤ dev ∧ dev < 6) (ch : Int32) (t : Nat) (ht : t < 30) (h0 : μ 102 dev.toNatClampNeg = nI t) : Ct X Ex false yX6_put kX6_put (rmN 0) [.ref (X.2 + 95), .int dev, .int ch] shA μ (fun r sh' μ' => shA = sh' ∧ r = none ∧ μ' 102 dev.toNatClampNeg = nI (t + 1)) := by
  refine Ct.of (L0 := [some (.ref (X.2 + 95)), some (.int dev), some (.int ch)]) (by decide) rfl (fun h => by cases h) (by simp [Value.category]) (Nat.le_of_ble_eq_true rfl) rfl (fun l => ?_)
  refine sx_aload_n (pc := 0) dX6_put_0 rfl rfl ?_
  refine sx_getr (pc := 1) (ci := 6) (j := 8) (r := 103) dX6_put_1 rfl s_Mo rfl (by decide) lf_X6_33 ?_
  refine sx_bipush (pc := 4) (v := 30) dX6_put_4 (by decide) ?_
  refine sx_iload_n (pc := 6) dX6_put_6 rfl rfl ?_
  refine sx_imul (pc := 7) dX6_put_7 ?_
  refine sx_aload_n (pc := 8) dX6_put_8 rfl rfl ?_
  refine sx_getr (pc := 9) (ci := 6) (j := 7) (r := 102) dX6_put_9 rfl s_Mo rfl (by decide) lf_X6_30 ?_
  refine sx_iload_n (pc := 12) dX6_put_12 rfl rfl ?_
  refine sx_iald (pc := 13) dX6_put_13 s_M7 (by decide) rfl (vp_in_lt hb.1 hb.2 (by decide)) ?_
  refine sx_iadd (pc := 14) dX6_put_14 ?_
  refine sx_iload_n (pc := 15) dX6_put_15 rfl rfl ?_
  refine sx_i2b (pc := 16) dX6_put_16 rfl ?_
  refine sx_bast (pc := 17) rfl dX6_put_17 s_M8 (by decide) rfl (by rw [h0]; exact ix_mul hb 30 t 180 (fun k hk => by omega) (by decide) (by decide)) (fun μ1 hμ1 => ?_)
  refine sx_aload_n (pc := 18) dX6_put_18 rfl rfl ?_
  refine sx_getr (pc := 19) (ci := 6) (j := 7) (r := 102) dX6_put_19 rfl s_Mo rfl (by decide) lf_X6_30 ?_
  refine sx_iload_n (pc := 22) dX6_put_22 rfl rfl ?_
  refine sx_dup2 (pc := 23) dX6_put_23 rfl rfl ?_
  refine sx_iald (pc := 24) dX6_put_24 s_M7 (by decide) rfl (vp_in_lt hb.1 hb.2 (by decide)) ?_
  refine sx_iconst (pc := 25) (v := 1) dX6_put_25 (by decide) ?_
  refine sx_iadd (pc := 26) dX6_put_26 ?_
  refine sx_iast (pc := 27) dX6_put_27 s_M7 (by decide) rfl (vp_in_lt hb.1 hb.2 (by decide)) (fun μ2 hμ2 => ?_)
  exact sx_vret (pc := 28) dX6_put_28 rfl (Nat.zero_le _) (Nat.zero_le _) (⟨rfl, rfl, by subst hμ2; subst hμ1; simp [xup_at, h0, nI_1]⟩)
set_option maxHeartbeats 1000000 in
set_option maxRecDepth 20000 in
theorem l_close {X : xD} {Ex : State → Prop} {l : Launch} {Z : List Frame → Array Value → State → State → Prop} {n0 : Nat} {μ : xM} {dev : Int32} (hb : 0 ≤ dev ∧ dev < 6) {t : Nat} (ht : t < 30) (h0 : μ 102 dev.toNatClampNeg = nI t)
    (hZ : ∀ (v i : Int32), sx l (rmN 1) X Ex false kX6_close n0 Z 38 [some (.ref (X.2 + 95)), some (.int dev), some (.int v), some (.int i)] [] shA μ 0 0) :
    ∀ (m j : Nat) (v : Int32), t - j ≤ m → j ≤ t → sx l (rmN 1) X Ex false kX6_close n0 Z 4 [some (.ref (X.2 + 95)), some (.int dev), some (.int v), some (.int (nI j))] [] shA μ 0 0 := by
  intro m
  induction m with
  | zero =>
    intro j v hm hj
    have hjn : j = t := by omega
    subst hjn
    refine sx_iload_n (pc := 4) dX6_close_4 rfl rfl ?_
    refine sx_aload_n (pc := 5) dX6_close_5 rfl rfl ?_
    refine sx_getr (pc := 6) (ci := 6) (j := 7) (r := 102) dX6_close_6 rfl s_Mo rfl (by decide) lf_X6_30 ?_
    refine sx_iload_n (pc := 9) dX6_close_9 rfl rfl ?_
    refine sx_iald (pc := 10) dX6_close_10 s_M7 (by decide) rfl (vp_in_lt hb.1 hb.2 (by decide)) ?_
    refine sx_icmp_ge (pc := 11) (tgt := 38) dX6_close_11 (by decide) (fun c_11 => ?_) (fun c_11 => absurd (by rw [h0]; exact nI_le (Nat.le_refl _) (by omega)) c_11)
    exact hZ _ _
  | succ m ih =>
    intro j v hm hj
    refine sx_iload_n (pc := 4) dX6_close_4 rfl rfl ?_
    refine sx_aload_n (pc := 5) dX6_close_5 rfl rfl ?_
    refine sx_getr (pc := 6) (ci := 6) (j := 7) (r := 102) dX6_close_6 rfl s_Mo rfl (by decide) lf_X6_30 ?_
    refine sx_iload_n (pc := 9) dX6_close_9 rfl rfl ?_
    refine sx_iald (pc := 10) dX6_close_10 s_M7 (by decide) rfl (vp_in_lt hb.1 hb.2 (by decide)) ?_
    refine sx_icmp_ge (pc := 11) (tgt := 38) dX6_close_11 (by decide) (fun c_11 => ?_) (fun c_11 => ?_)
    · have h_11t := c_11
      exact hZ _ _
    · have h_11f := c_11
      have hlt : j < t := Nat.lt_of_not_le fun z => h_11f (by rw [h0]; exact nI_le z (by omega))
      refine sx_iload_n (pc := 14) dX6_close_14 rfl rfl ?_
      refine sx_aload_n (pc := 15) dX6_close_15 rfl rfl ?_
      refine sx_getr (pc := 16) (ci := 6) (j := 8) (r := 103) dX6_close_16 rfl s_Mo rfl (by decide) lf_X6_33 ?_
      refine sx_bipush (pc := 19) (v := 30) dX6_close_19 (by decide) ?_
      refine sx_iload_n (pc := 21) dX6_close_21 rfl rfl ?_
      refine sx_imul (pc := 22) dX6_close_22 ?_
      refine sx_iload_n (pc := 23) dX6_close_23 rfl rfl ?_
      refine sx_iadd (pc := 24) dX6_close_24 ?_
      refine sx_bald (pc := 25) dX6_close_25 s_M8 (by decide) rfl (ix_mul hb 30 j 180 (fun k hk => by omega) (by decide) (by decide)) ?_
      refine sx_sipush (pc := 26) (v := 255) dX6_close_26 (by decide) ?_
      refine sx_iand (pc := 29) dX6_close_29 ?_
      refine sx_iadd (pc := 30) dX6_close_30 ?_
      refine sx_istore_n (pc := 31) (L' := [some (.ref (X.2 + 95)), some (.int dev), some (.int (v + ((μ 103 ((30 * dev) + (nI j)).toNatClampNeg) &&& 255))), some (.int (nI j))]) dX6_close_31 rfl (by decide) rfl ?_
      refine sx_iinc (pc := 32) (v := nI (j + 1)) (L' := [some (.ref (X.2 + 95)), some (.int dev), some (.int (v + ((μ 103 ((30 * dev) + (nI j)).toNatClampNeg) &&& 255))), some (.int (nI (j + 1)))]) dX6_close_32 rfl (nI_1 j) (by decide) rfl ?_
      refine sx_goto (pc := 35) (tgt := 4) dX6_close_35 (by decide) ?_
      exact ih (j + 1) _ (by omega) (by omega)
set_option maxHeartbeats 1000000 in
set_option maxRecDepth 20000 in
theorem c_close (X : xD) (Ex : State → Prop) (hE : xEs X false shA.length Ex) (μ : xM) (dev : Int32) (hb : 0 ≤ dev ∧ dev < 6) (t : Nat) (ht : t < 26) (h0 : μ 102 dev.toNatClampNeg = nI t) : Ct X Ex false yX6_close kX6_close (rmN 1) [.ref (X.2 + 95), .int dev] shA μ (fun r sh' μ' => shA = sh' ∧ r = none) := by
  refine Ct.of (L0 := [some (.ref (X.2 + 95)), some (.int dev), none, none]) (by decide) rfl (fun h => by cases h) (by simp [Value.category]) (Nat.le_of_ble_eq_true rfl) rfl (fun l => ?_)
  refine sx_iconst (pc := 0) (v := 0) dX6_close_0 (by decide) ?_
  refine sx_istore_n (pc := 1) (L' := [some (.ref (X.2 + 95)), some (.int dev), some (.int 0), none]) dX6_close_1 rfl (by decide) rfl ?_
  refine sx_iconst (pc := 2) (v := 0) dX6_close_2 (by decide) ?_
  refine sx_istore_n (pc := 3) (L' := [some (.ref (X.2 + 95)), some (.int dev), some (.int 0), some (.int 0)]) dX6_close_3 rfl (by decide) rfl ?_
  refine l_close hb (by omega) h0 (fun v i => ?_) t 0 0 (by omega) (Nat.zero_le _)
  refine sx_aload_n (pc := 38) dX6_close_38 rfl rfl ?_
  refine sx_iload_n (pc := 39) dX6_close_39 rfl rfl ?_
  refine sx_bipush (pc := 40) (v := 90) dX6_close_40 (by decide) ?_
  refine sx_callV (pc := 42) (As := [.int dev, .int 90]) dX6_close_42 (c_put X Ex hE μ _ hb _ (t) (by omega) h0) mX6_put lm_X6_119 rfl s_Mo rfl ⟨Nat.le_of_ble_eq_true rfl, Nat.le_of_ble_eq_true rfl⟩ ⟨Nat.le_of_ble_eq_true rfl, Nat.le_of_ble_eq_true rfl⟩ (Nat.le_of_ble_eq_true rfl) hE (fun r_42 sh1 μ1 h_42 => ?_)
  obtain ⟨rfl, rfl, q_42⟩ := h_42
  refine sx_aload_n (pc := 45) dX6_close_45 rfl rfl ?_
  refine sx_iload_n (pc := 46) dX6_close_46 rfl rfl ?_
  refine sx_iload_n (pc := 47) dX6_close_47 rfl rfl ?_
  refine sx_sipush (pc := 48) (v := 256) dX6_close_48 (by decide) ?_
  refine sx_irem (pc := 51) dX6_close_51 (by decide) ?_
  refine sx_bipush (pc := 52) (v := 16) dX6_close_52 (by decide) ?_
  refine sx_idiv (pc := 54) dX6_close_54 (by decide) ?_
  refine sx_callS (pc := 55) (As := [.int ((v - v / 256 * 256) / 16)]) dX6_close_55 (c_digit X Ex false shA μ1 _) mX6_digit lm_X6_123 rfl ⟨Nat.le_of_ble_eq_true rfl, Nat.le_of_ble_eq_true rfl⟩ ⟨Nat.le_of_ble_eq_true rfl, Nat.le_of_ble_eq_true rfl⟩ (Nat.le_of_ble_eq_true rfl) hE (fun r_55 sh1 μ2 h_55 => ?_)
  obtain ⟨rfl, rfl, x_55, rfl⟩ := h_55
  refine sx_callV (pc := 58) (As := [.int dev, .int x_55]) dX6_close_58 (c_put X Ex hE μ1 _ hb _ (t + 1) (by omega) q_42) mX6_put lm_X6_119 rfl s_Mo rfl ⟨Nat.le_of_ble_eq_true rfl, Nat.le_of_ble_eq_true rfl⟩ ⟨Nat.le_of_ble_eq_true rfl, Nat.le_of_ble_eq_true rfl⟩ (Nat.le_of_ble_eq_true rfl) hE (fun r_58 sh1 μ3 h_58 => ?_)
  obtain ⟨rfl, rfl, q_58⟩ := h_58
  refine sx_aload_n (pc := 61) dX6_close_61 rfl rfl ?_
  refine sx_iload_n (pc := 62) dX6_close_62 rfl rfl ?_
  refine sx_iload_n (pc := 63) dX6_close_63 rfl rfl ?_
  refine sx_bipush (pc := 64) (v := 16) dX6_close_64 (by decide) ?_
  refine sx_irem (pc := 66) dX6_close_66 (by decide) ?_
  refine sx_callS (pc := 67) (As := [.int (v - v / 16 * 16)]) dX6_close_67 (c_digit X Ex false shA μ3 _) mX6_digit lm_X6_123 rfl ⟨Nat.le_of_ble_eq_true rfl, Nat.le_of_ble_eq_true rfl⟩ ⟨Nat.le_of_ble_eq_true rfl, Nat.le_of_ble_eq_true rfl⟩ (Nat.le_of_ble_eq_true rfl) hE (fun r_67 sh1 μ4 h_67 => ?_)
  obtain ⟨rfl, rfl, x_67, rfl⟩ := h_67
  refine sx_callV (pc := 70) (As := [.int dev, .int x_67]) dX6_close_70 (c_put X Ex hE μ3 _ hb _ (t + 1 + 1) (by omega) q_58) mX6_put lm_X6_119 rfl s_Mo rfl ⟨Nat.le_of_ble_eq_true rfl, Nat.le_of_ble_eq_true rfl⟩ ⟨Nat.le_of_ble_eq_true rfl, Nat.le_of_ble_eq_true rfl⟩ (Nat.le_of_ble_eq_true rfl) hE (fun r_70 sh1 μ5 h_70 => ?_)
  obtain ⟨rfl, rfl, q_70⟩ := h_70
  refine sx_aload_n (pc := 73) dX6_close_73 rfl rfl ?_
  refine sx_iload_n (pc := 74) dX6_close_74 rfl rfl ?_
  refine sx_bipush (pc := 75) (v := 13) dX6_close_75 (by decide) ?_
  refine sx_callV (pc := 77) (As := [.int dev, .int 13]) dX6_close_77 (c_put X Ex hE μ5 _ hb _ (t + 1 + 1 + 1) (by omega) q_70) mX6_put lm_X6_119 rfl s_Mo rfl ⟨Nat.le_of_ble_eq_true rfl, Nat.le_of_ble_eq_true rfl⟩ ⟨Nat.le_of_ble_eq_true rfl, Nat.le_of_ble_eq_true rfl⟩ (Nat.le_of_ble_eq_true rfl) hE (fun r_77 sh1 μ6 h_77 => ?_)
  obtain ⟨rfl, rfl, q_77⟩ := h_77
  exact sx_vret (pc := 80) dX6_close_80 rfl (Nat.zero_le _) (Nat.zero_le _) (⟨rfl, rfl⟩)
set_option maxHeartbeats 1000000 in
set_option maxRecDepth 20000 in
theorem c_answers0 (X : xD) (Ex : State → Prop) (hE : xEs X false shA.length Ex) (μ : xM) (dev : Int32) (hb : 0 ≤ dev ∧ dev < 6) (h0 : μ 96 dev.toNatClampNeg = 0) : Ct X Ex false yX6_answers kX6_answers (rmN 2) [.ref (X.2 + 95), .int dev] shA μ (fun r sh' μ' => shA = sh' ∧ r = none) := by
  refine Ct.of (L0 := [some (.ref (X.2 + 95)), some (.int dev), none, none, none]) (by decide) rfl (fun h => by cases h) (by simp [Value.category]) (Nat.le_of_ble_eq_true rfl) rfl (fun l => ?_)
  refine sx_aload_n (pc := 0) dX6_answers_0 rfl rfl ?_
  refine sx_getr (pc := 1) (ci := 6) (j := 7) (r := 102) dX6_answers_1 rfl s_Mo rfl (by decide) lf_X6_30 ?_
  refine sx_iload_n (pc := 4) dX6_answers_4 rfl rfl ?_
  refine sx_iconst (pc := 5) (v := 0) dX6_answers_5 (by decide) ?_
  refine sx_iast (pc := 6) dX6_answers_6 s_M7 (by decide) rfl (vp_in_lt hb.1 hb.2 (by decide)) (fun μ1 hμ1 => ?_)
  refine sx_aload_n (pc := 7) dX6_answers_7 rfl rfl ?_
  refine sx_iload_n (pc := 8) dX6_answers_8 rfl rfl ?_
  refine sx_callV (pc := 9) (As := [.int dev]) dX6_answers_9 (c_reads0 X Ex hE μ1 _ hb (by subst hμ1; simp [xup_at, h0])) mX6_reads lm_X6_131 rfl s_Mo rfl ⟨Nat.le_of_ble_eq_true rfl, Nat.le_of_ble_eq_true rfl⟩ ⟨Nat.le_of_ble_eq_true rfl, Nat.le_of_ble_eq_true rfl⟩ (Nat.le_of_ble_eq_true rfl) hE (fun r_9 sh1 μ2 h_9 => ?_)
  obtain ⟨rfl, rfl, q_9⟩ := h_9
  refine sx_if_ne (pc := 12) (tgt := 38) dX6_answers_12 (by decide) (fun c_12 => absurd c_12 (by decide)) (fun c_12 => ?_)
  refine sx_aload_n (pc := 15) dX6_answers_15 rfl rfl ?_
  refine sx_getr (pc := 16) (ci := 6) (j := 6) (r := 101) dX6_answers_16 rfl s_Mo rfl (by decide) lf_X6_27 ?_
  refine sx_iload_n (pc := 19) dX6_answers_19 rfl rfl ?_
  refine sx_dup2 (pc := 20) dX6_answers_20 rfl rfl ?_
  refine sx_iald (pc := 21) dX6_answers_21 s_M6 (by decide) rfl (vp_in_lt hb.1 hb.2 (by decide)) ?_
  refine sx_iconst (pc := 22) (v := 1) dX6_answers_22 (by decide) ?_
  refine sx_iadd (pc := 23) dX6_answers_23 ?_
  refine sx_iast (pc := 24) dX6_answers_24 s_M6 (by decide) rfl (vp_in_lt hb.1 hb.2 (by decide)) (fun μ3 hμ3 => ?_)
  refine sx_aload_n (pc := 25) dX6_answers_25 rfl rfl ?_
  refine sx_iload_n (pc := 26) dX6_answers_26 rfl rfl ?_
  refine sx_bipush (pc := 27) (v := 78) dX6_answers_27 (by decide) ?_
  refine sx_callV (pc := 29) (As := [.int dev, .int 78]) dX6_answers_29 (c_put X Ex hE μ3 _ hb _ (0) (by omega) (by subst hμ3; simp [xup_at]; rw [q_9 102 (by decide)]; subst hμ1; simp [xup_at, nI_0])) mX6_put lm_X6_119 rfl s_Mo rfl ⟨Nat.le_of_ble_eq_true rfl, Nat.le_of_ble_eq_true rfl⟩ ⟨Nat.le_of_ble_eq_true rfl, Nat.le_of_ble_eq_true rfl⟩ (Nat.le_of_ble_eq_true rfl) hE (fun r_29 sh1 μ4 h_29 => ?_)
  obtain ⟨rfl, rfl, q_29⟩ := h_29
  refine sx_aload_n (pc := 32) dX6_answers_32 rfl rfl ?_
  refine sx_iload_n (pc := 33) dX6_answers_33 rfl rfl ?_
  refine sx_callV (pc := 34) (As := [.int dev]) dX6_answers_34 (c_close X Ex hE μ4 _ hb 1 (by omega) q_29) mX6_close lm_X6_126 rfl s_Mo rfl ⟨Nat.le_of_ble_eq_true rfl, Nat.le_of_ble_eq_true rfl⟩ ⟨Nat.le_of_ble_eq_true rfl, Nat.le_of_ble_eq_true rfl⟩ (Nat.le_of_ble_eq_true rfl) hE (fun r_34 sh1 μ5 h_34 => ?_)
  obtain ⟨rfl, rfl⟩ := h_34
  exact sx_vret (pc := 37) dX6_answers_37 rfl (Nat.zero_le _) (Nat.zero_le _) (⟨rfl, rfl⟩)
set_option maxHeartbeats 1000000 in
set_option maxRecDepth 20000 in
theorem q_octet (X : xD) (Ex : State → Prop) (hE : xEs X false shA.length Ex) (μ : xM) (dev b : Int32) (hM : FM μ) : Ct X Ex false yX6_octet kX6_octet (rmN 3) [.ref (X.2 + 95), .int dev, .int b] shA μ (fun r sh' μ' => shA = sh' ∧ r = some (.int (R_octet dev b))) := by
  refine Ct.of (L0 := [some (.ref (X.2 + 95)), some (.int dev), some (.int b)]) (by decide) rfl (fun h => by cases h) (by simp [Value.category]) (Nat.le_of_ble_eq_true rfl) rfl (fun l => ?_)
  refine sx_aload_n (pc := 0) dX6_octet_0 rfl rfl ?_
  refine sx_iconst (pc := 1) (v := 0) dX6_octet_1 (by decide) ?_
  refine sx_puti (pc := 2) (ci := 6) (j := 0) (ty := .int) dX6_octet_2 rfl s_Mo rfl (by decide) lf_X6_72 rfl (by decide +kernel) rfl rfl (fun μ1 hμ1 => ?_)
  refine sx_iload_n (pc := 5) dX6_octet_5 rfl rfl ?_
  refine sx_callS (pc := 6) (As := [.int dev]) dX6_octet_6 (c_isDevice X Ex hE μ1 _) mX6_isDevice lm_X6_171 rfl ⟨Nat.le_of_ble_eq_true rfl, Nat.le_of_ble_eq_true rfl⟩ ⟨Nat.le_of_ble_eq_true rfl, Nat.le_of_ble_eq_true rfl⟩ (Nat.le_of_ble_eq_true rfl) hE (fun r_6 sh1 μ2 h_6 => ?_)
  obtain ⟨rfl, rfl, x_6, rfl, hx_6⟩ := h_6
  refine sx_if_ne (pc := 9) (tgt := 14) dX6_octet_9 (by decide) (fun c_9 => ?_) (fun c_9 => ?_)
  · have h_9t := c_9
    have hb := isB_t hx_6 h_9t
    have hd := clamp_lt (n := 6) hb.1 hb.2 (by decide)
    have hf := hM.1 _ hd
    refine sx_aload_n (pc := 14) dX6_octet_14 rfl rfl ?_
    refine sx_getr (pc := 15) (ci := 6) (j := 3) (r := 98) dX6_octet_15 rfl s_Mo rfl (by decide) lf_X6_17 ?_
    refine sx_iload_n (pc := 18) dX6_octet_18 rfl rfl ?_
    refine sx_zald (pc := 19) dX6_octet_19 s_M3 (by decide) rfl (vp_in_lt hb.1 hb.2 (by decide)) ?_
    refine sx_if_eq (pc := 20) (tgt := 26) dX6_octet_20 (by decide) (fun c_20 => ?_) (fun c_20 => absurd (by subst hμ1; simp [xup_at, hf.2.1]) c_20)
    refine sx_iload_n (pc := 26) dX6_octet_26 rfl rfl ?_
    refine sx_sipush (pc := 27) (v := 255) dX6_octet_27 (by decide) ?_
    refine sx_iand (pc := 30) dX6_octet_30 ?_
    refine sx_bipush (pc := 31) (v := 13) dX6_octet_31 (by decide) ?_
    refine sx_icmp_ne (pc := 33) (tgt := 50) dX6_octet_33 (by decide) (fun c_33 => ?_) (fun c_33 => ?_)
    · have h_33t := c_33
      refine sx_aload_n (pc := 50) dX6_octet_50 rfl rfl ?_
      refine sx_getr (pc := 51) (ci := 6) (j := 1) (r := 96) dX6_octet_51 rfl s_Mo rfl (by decide) lf_X6_7 ?_
      refine sx_iload_n (pc := 54) dX6_octet_54 rfl rfl ?_
      refine sx_iald (pc := 55) dX6_octet_55 s_M1 (by decide) rfl (vp_in_lt hb.1 hb.2 (by decide)) ?_
      refine sx_bipush (pc := 56) (v := 60) dX6_octet_56 (by decide) ?_
      refine sx_icmp_ne (pc := 58) (tgt := 71) dX6_octet_58 (by decide) (fun c_58 => ?_) (fun c_58 => absurd c_58 (by rw [show μ1 96 dev.toNatClampNeg = 0 by subst hμ1; simp [xup_at, hf.1]]; decide))
      refine sx_aload_n (pc := 71) dX6_octet_71 rfl rfl ?_
      refine sx_getr (pc := 72) (ci := 6) (j := 2) (r := 97) dX6_octet_72 rfl s_Mo rfl (by decide) lf_X6_13 ?_
      refine sx_bipush (pc := 75) (v := 60) dX6_octet_75 (by decide) ?_
      refine sx_iload_n (pc := 77) dX6_octet_77 rfl rfl ?_
      refine sx_imul (pc := 78) dX6_octet_78 ?_
      refine sx_aload_n (pc := 79) dX6_octet_79 rfl rfl ?_
      refine sx_getr (pc := 80) (ci := 6) (j := 1) (r := 96) dX6_octet_80 rfl s_Mo rfl (by decide) lf_X6_7 ?_
      refine sx_iload_n (pc := 83) dX6_octet_83 rfl rfl ?_
      refine sx_iald (pc := 84) dX6_octet_84 s_M1 (by decide) rfl (vp_in_lt hb.1 hb.2 (by decide)) ?_
      refine sx_iadd (pc := 85) dX6_octet_85 ?_
      refine sx_iload_n (pc := 86) dX6_octet_86 rfl rfl ?_
      refine sx_i2b (pc := 87) dX6_octet_87 rfl ?_
      refine sx_bast (pc := 88) rfl dX6_octet_88 s_M2 (by decide) rfl (by rw [show μ1 96 dev.toNatClampNeg = nI 0 by subst hμ1; simp [xup_at, hf.1, nI_0]]; exact ix_mul hb 60 0 360 (fun k hk => by omega) (by decide) (by decide)) (fun μ3 hμ3 => ?_)
      refine sx_aload_n (pc := 89) dX6_octet_89 rfl rfl ?_
      refine sx_getr (pc := 90) (ci := 6) (j := 1) (r := 96) dX6_octet_90 rfl s_Mo rfl (by decide) lf_X6_7 ?_
      refine sx_iload_n (pc := 93) dX6_octet_93 rfl rfl ?_
      refine sx_dup2 (pc := 94) dX6_octet_94 rfl rfl ?_
      refine sx_iald (pc := 95) dX6_octet_95 s_M1 (by decide) rfl (vp_in_lt hb.1 hb.2 (by decide)) ?_
      refine sx_iconst (pc := 96) (v := 1) dX6_octet_96 (by decide) ?_
      refine sx_iadd (pc := 97) dX6_octet_97 ?_
      refine sx_iast (pc := 98) dX6_octet_98 s_M1 (by decide) rfl (vp_in_lt hb.1 hb.2 (by decide)) (fun μ4 hμ4 => ?_)
      refine sx_aload_n (pc := 99) dX6_octet_99 rfl rfl ?_
      refine sx_getr (pc := 100) (ci := 6) (j := 1) (r := 96) dX6_octet_100 rfl s_Mo rfl (by decide) lf_X6_7 ?_
      refine sx_iload_n (pc := 103) dX6_octet_103 rfl rfl ?_
      refine sx_iald (pc := 104) dX6_octet_104 s_M1 (by decide) rfl (vp_in_lt hb.1 hb.2 (by decide)) ?_
      exact sx_iret (pc := 105) dX6_octet_105 rfl rfl (Nat.zero_le _) (Nat.zero_le _) (⟨rfl, by rw [R_octet, if_pos hb, if_neg h_33t]; subst hμ4; subst hμ3; subst hμ1; simp [xup_at, hf.1]⟩)
    · have h_33f := c_33
      refine sx_aload_n (pc := 36) dX6_octet_36 rfl rfl ?_
      refine sx_iload_n (pc := 37) dX6_octet_37 rfl rfl ?_
      refine sx_callV (pc := 38) (As := [.int dev]) dX6_octet_38 (c_answers0 X Ex hE μ1 _ hb (by subst hμ1; simp [xup_at, hf.1])) mX6_answers lm_X6_174 rfl s_Mo rfl ⟨Nat.le_of_ble_eq_true rfl, Nat.le_of_ble_eq_true rfl⟩ ⟨Nat.le_of_ble_eq_true rfl, Nat.le_of_ble_eq_true rfl⟩ (Nat.le_of_ble_eq_true rfl) hE (fun r_38 sh1 μ5 h_38 => ?_)
      obtain ⟨rfl, rfl⟩ := h_38
      refine sx_aload_n (pc := 41) dX6_octet_41 rfl rfl ?_
      refine sx_getr (pc := 42) (ci := 6) (j := 1) (r := 96) dX6_octet_42 rfl s_Mo rfl (by decide) lf_X6_7 ?_
      refine sx_iload_n (pc := 45) dX6_octet_45 rfl rfl ?_
      refine sx_iconst (pc := 46) (v := 0) dX6_octet_46 (by decide) ?_
      refine sx_iast (pc := 47) dX6_octet_47 s_M1 (by decide) rfl (vp_in_lt hb.1 hb.2 (by decide)) (fun μ6 hμ6 => ?_)
      refine sx_iconst (pc := 48) (v := 0) dX6_octet_48 (by decide) ?_
      exact sx_iret (pc := 49) dX6_octet_49 rfl rfl (Nat.zero_le _) (Nat.zero_le _) (⟨rfl, by rw [R_octet, if_pos hb, if_pos h_33f]⟩)
  · have h_9f := c_9
    refine sx_iconst (pc := 12) (v := (-1)) dX6_octet_12 (by decide) ?_
    exact sx_iret (pc := 13) dX6_octet_13 rfl rfl (Nat.zero_le _) (Nat.zero_le _) (⟨rfl, by rw [R_octet, if_neg (isB_f hx_6 h_9f)]⟩)
set_option maxHeartbeats 1000000 in
set_option maxRecDepth 20000 in
theorem q_reset (X : xD) (Ex : State → Prop) (hE : xEs X false shA.length Ex) (μ : xM) (dev : Int32) (hM : FM μ) : Ct X Ex false yX6_reset kX6_reset (rmN 2) [.ref (X.2 + 95), .int dev] shA μ (fun r sh' μ' => shA = sh' ∧ r = some (.int (R_reset dev))) := by
  refine Ct.of (L0 := [some (.ref (X.2 + 95)), some (.int dev), none]) (by decide) rfl (fun h => by cases h) (by simp [Value.category]) (Nat.le_of_ble_eq_true rfl) rfl (fun l => ?_)
  refine sx_aload_n (pc := 0) dX6_reset_0 rfl rfl ?_
  refine sx_iconst (pc := 1) (v := 0) dX6_reset_1 (by decide) ?_
  refine sx_puti (pc := 2) (ci := 6) (j := 0) (ty := .int) dX6_reset_2 rfl s_Mo rfl (by decide) lf_X6_72 rfl (by decide +kernel) rfl rfl (fun μ1 hμ1 => ?_)
  refine sx_iload_n (pc := 5) dX6_reset_5 rfl rfl ?_
  refine sx_callS (pc := 6) (As := [.int dev]) dX6_reset_6 (c_isDevice X Ex hE μ1 _) mX6_isDevice lm_X6_171 rfl ⟨Nat.le_of_ble_eq_true rfl, Nat.le_of_ble_eq_true rfl⟩ ⟨Nat.le_of_ble_eq_true rfl, Nat.le_of_ble_eq_true rfl⟩ (Nat.le_of_ble_eq_true rfl) hE (fun r_6 sh1 μ2 h_6 => ?_)
  obtain ⟨rfl, rfl, x_6, rfl, hx_6⟩ := h_6
  refine sx_if_ne (pc := 9) (tgt := 14) dX6_reset_9 (by decide) (fun c_9 => ?_) (fun c_9 => ?_)
  · have h_9t := c_9
    have hb := isB_t hx_6 h_9t
    have hd := clamp_lt (n := 6) hb.1 hb.2 (by decide)
    have hf := hM.1 _ hd
    refine sx_aload_n (pc := 14) dX6_reset_14 rfl rfl ?_
    refine sx_getr (pc := 15) (ci := 6) (j := 1) (r := 96) dX6_reset_15 rfl s_Mo rfl (by decide) lf_X6_7 ?_
    refine sx_iload_n (pc := 18) dX6_reset_18 rfl rfl ?_
    refine sx_iald (pc := 19) dX6_reset_19 s_M1 (by decide) rfl (vp_in_lt hb.1 hb.2 (by decide)) ?_
    refine sx_istore_n (pc := 20) (L' := [some (.ref (X.2 + 95)), some (.int dev), some (.int (μ1 96 dev.toNatClampNeg))]) dX6_reset_20 rfl (by decide) rfl ?_
    refine sx_aload_n (pc := 21) dX6_reset_21 rfl rfl ?_
    refine sx_getr (pc := 22) (ci := 6) (j := 1) (r := 96) dX6_reset_22 rfl s_Mo rfl (by decide) lf_X6_7 ?_
    refine sx_iload_n (pc := 25) dX6_reset_25 rfl rfl ?_
    refine sx_iconst (pc := 26) (v := 0) dX6_reset_26 (by decide) ?_
    refine sx_iast (pc := 27) dX6_reset_27 s_M1 (by decide) rfl (vp_in_lt hb.1 hb.2 (by decide)) (fun μ3 hμ3 => ?_)
    refine sx_aload_n (pc := 28) dX6_reset_28 rfl rfl ?_
    refine sx_getr (pc := 29) (ci := 6) (j := 3) (r := 98) dX6_reset_29 rfl s_Mo rfl (by decide) lf_X6_17 ?_
    refine sx_iload_n (pc := 32) dX6_reset_32 rfl rfl ?_
    refine sx_iconst (pc := 33) (v := 0) dX6_reset_33 (by decide) ?_
    refine sx_zast (pc := 34) rfl dX6_reset_34 s_M3 (by decide) rfl (vp_in_lt hb.1 hb.2 (by decide)) (fun μ4 hμ4 => ?_)
    refine sx_aload_n (pc := 35) dX6_reset_35 rfl rfl ?_
    refine sx_getr (pc := 36) (ci := 6) (j := 4) (r := 99) dX6_reset_36 rfl s_Mo rfl (by decide) lf_X6_21 ?_
    refine sx_iload_n (pc := 39) dX6_reset_39 rfl rfl ?_
    refine sx_iconst (pc := 40) (v := 0) dX6_reset_40 (by decide) ?_
    refine sx_zast (pc := 41) rfl dX6_reset_41 s_M4 (by decide) rfl (vp_in_lt hb.1 hb.2 (by decide)) (fun μ5 hμ5 => ?_)
    refine sx_aload_n (pc := 42) dX6_reset_42 rfl rfl ?_
    refine sx_getr (pc := 43) (ci := 6) (j := 5) (r := 100) dX6_reset_43 rfl s_Mo rfl (by decide) lf_X6_24 ?_
    refine sx_iload_n (pc := 46) dX6_reset_46 rfl rfl ?_
    refine sx_iconst (pc := 47) (v := (-1)) dX6_reset_47 (by decide) ?_
    refine sx_iast (pc := 48) dX6_reset_48 s_M5 (by decide) rfl (vp_in_lt hb.1 hb.2 (by decide)) (fun μ6 hμ6 => ?_)
    refine sx_aload_n (pc := 49) dX6_reset_49 rfl rfl ?_
    refine sx_getr (pc := 50) (ci := 6) (j := 7) (r := 102) dX6_reset_50 rfl s_Mo rfl (by decide) lf_X6_30 ?_
    refine sx_iload_n (pc := 53) dX6_reset_53 rfl rfl ?_
    refine sx_iconst (pc := 54) (v := 0) dX6_reset_54 (by decide) ?_
    refine sx_iast (pc := 55) dX6_reset_55 s_M7 (by decide) rfl (vp_in_lt hb.1 hb.2 (by decide)) (fun μ7 hμ7 => ?_)
    refine sx_aload_n (pc := 56) dX6_reset_56 rfl rfl ?_
    refine sx_getr (pc := 57) (ci := 6) (j := 9) (r := 104) dX6_reset_57 rfl s_Mo rfl (by decide) lf_X6_36 ?_
    refine sx_iload_n (pc := 60) dX6_reset_60 rfl rfl ?_
    refine sx_iconst (pc := 61) (v := 0) dX6_reset_61 (by decide) ?_
    refine sx_iast (pc := 62) dX6_reset_62 s_M9 (by decide) rfl (vp_in_lt hb.1 hb.2 (by decide)) (fun μ8 hμ8 => ?_)
    refine sx_aload_n (pc := 63) dX6_reset_63 rfl rfl ?_
    refine sx_getr (pc := 64) (ci := 6) (j := 6) (r := 101) dX6_reset_64 rfl s_Mo rfl (by decide) lf_X6_27 ?_
    refine sx_iload_n (pc := 67) dX6_reset_67 rfl rfl ?_
    refine sx_iconst (pc := 68) (v := 0) dX6_reset_68 (by decide) ?_
    refine sx_iast (pc := 69) dX6_reset_69 s_M6 (by decide) rfl (vp_in_lt hb.1 hb.2 (by decide)) (fun μ9 hμ9 => ?_)
    refine sx_iload_n (pc := 70) dX6_reset_70 rfl rfl ?_
    exact sx_iret (pc := 71) dX6_reset_71 rfl rfl (Nat.zero_le _) (Nat.zero_le _) (⟨rfl, by rw [R_reset, if_pos hb]; subst hμ1; simp [xup_at, hf.1]⟩)
  · have h_9f := c_9
    refine sx_iconst (pc := 12) (v := (-1)) dX6_reset_12 (by decide) ?_
    exact sx_iret (pc := 13) dX6_reset_13 rfl rfl (Nat.zero_le _) (Nat.zero_le _) (⟨rfl, by rw [R_reset, if_neg (isB_f hx_6 h_9f)]⟩)
set_option maxHeartbeats 1000000 in
set_option maxRecDepth 20000 in
theorem q_join (X : xD) (Ex : State → Prop) (hE : xEs X false shA.length Ex) (μ : xM) (dev : Int32) (hM : FM μ) : Ct X Ex false yX6_join kX6_join (rmN 2) [.ref (X.2 + 95), .int dev] shA μ (fun r sh' μ' => shA = sh' ∧ r = some (.int (R_reset dev))) := by
  refine Ct.of (L0 := [some (.ref (X.2 + 95)), some (.int dev), none, none, none]) (by decide) rfl (fun h => by cases h) (by simp [Value.category]) (Nat.le_of_ble_eq_true rfl) rfl (fun l => ?_)
  refine sx_aload_n (pc := 0) dX6_join_0 rfl rfl ?_
  refine sx_iconst (pc := 1) (v := 0) dX6_join_1 (by decide) ?_
  refine sx_puti (pc := 2) (ci := 6) (j := 0) (ty := .int) dX6_join_2 rfl s_Mo rfl (by decide) lf_X6_72 rfl (by decide +kernel) rfl rfl (fun μ1 hμ1 => ?_)
  refine sx_iload_n (pc := 5) dX6_join_5 rfl rfl ?_
  refine sx_callS (pc := 6) (As := [.int dev]) dX6_join_6 (c_isDevice X Ex hE μ1 _) mX6_isDevice lm_X6_171 rfl ⟨Nat.le_of_ble_eq_true rfl, Nat.le_of_ble_eq_true rfl⟩ ⟨Nat.le_of_ble_eq_true rfl, Nat.le_of_ble_eq_true rfl⟩ (Nat.le_of_ble_eq_true rfl) hE (fun r_6 sh1 μ2 h_6 => ?_)
  obtain ⟨rfl, rfl, x_6, rfl, hx_6⟩ := h_6
  refine sx_if_ne (pc := 9) (tgt := 14) dX6_join_9 (by decide) (fun c_9 => ?_) (fun c_9 => ?_)
  · have h_9t := c_9
    have hb := isB_t hx_6 h_9t
    have hd := clamp_lt (n := 6) hb.1 hb.2 (by decide)
    have hf := hM.1 _ hd
    refine sx_iconst (pc := 14) (v := 0) dX6_join_14 (by decide) ?_
    refine sx_istore_n (pc := 15) (L' := [some (.ref (X.2 + 95)), some (.int dev), some (.int 0), none, none]) dX6_join_15 rfl (by decide) rfl ?_
    refine sx_bipush (pc := 16) (v := 20) dX6_join_16 (by decide) ?_
    refine sx_iload_n (pc := 18) dX6_join_18 rfl rfl ?_
    refine sx_imul (pc := 19) dX6_join_19 ?_
    refine sx_istore_n (pc := 20) (L' := [some (.ref (X.2 + 95)), some (.int dev), some (.int 0), some (.int (20 * dev)), none]) dX6_join_20 rfl (by decide) rfl ?_
    refine sx_iload_n (pc := 21) dX6_join_21 rfl rfl ?_
    refine sx_bipush (pc := 22) (v := 20) dX6_join_22 (by decide) ?_
    refine sx_iload_n (pc := 24) dX6_join_24 rfl rfl ?_
    refine sx_imul (pc := 25) dX6_join_25 ?_
    refine sx_aload_n (pc := 26) dX6_join_26 rfl rfl ?_
    refine sx_getr (pc := 27) (ci := 6) (j := 11) (r := 106) dX6_join_27 rfl s_Mo rfl (by decide) lf_X6_42 ?_
    refine sx_iload_n (pc := 30) dX6_join_30 rfl rfl ?_
    refine sx_iald (pc := 31) dX6_join_31 s_M11 (by decide) rfl (vp_in_lt hb.1 hb.2 (by decide)) ?_
    refine sx_iadd (pc := 32) dX6_join_32 ?_
    refine sx_icmp_ge (pc := 33) (tgt := 108) dX6_join_33 (by decide) (fun c_33 => ?_) (fun c_33 => absurd (by rw [show μ1 106 dev.toNatClampNeg = 0 by subst hμ1; simp [xup_at, hf.2.2.2.2.2.2]]; simp) c_33)
    refine sx_aload_n (pc := 108) dX6_join_108 rfl rfl ?_
    refine sx_getr (pc := 109) (ci := 6) (j := 11) (r := 106) dX6_join_109 rfl s_Mo rfl (by decide) lf_X6_42 ?_
    refine sx_iload_n (pc := 112) dX6_join_112 rfl rfl ?_
    refine sx_iconst (pc := 113) (v := 0) dX6_join_113 (by decide) ?_
    refine sx_iast (pc := 114) dX6_join_114 s_M11 (by decide) rfl (vp_in_lt hb.1 hb.2 (by decide)) (fun μ3 hμ3 => ?_)
    refine sx_iload_n (pc := 115) dX6_join_115 rfl rfl ?_
    exact sx_iret (pc := 116) dX6_join_116 rfl rfl (Nat.zero_le _) (Nat.zero_le _) (⟨rfl, by rw [R_reset, if_pos hb]⟩)
  · have h_9f := c_9
    refine sx_iconst (pc := 12) (v := (-1)) dX6_join_12 (by decide) ?_
    exact sx_iret (pc := 13) dX6_join_13 rfl rfl (Nat.zero_le _) (Nat.zero_le _) (⟨rfl, by rw [R_reset, if_neg (isB_f hx_6 h_9f)]⟩)
set_option maxHeartbeats 1000000 in
set_option maxRecDepth 20000 in
theorem q_owes (X : xD) (Ex : State → Prop) (hE : xEs X false shA.length Ex) (μ : xM) (dev c : Int32) (hM : FM μ) : Ct X Ex false yX6_owes kX6_owes (rmN 1) [.ref (X.2 + 95), .int dev, .int c] shA μ (fun r sh' μ' => shA = sh' ∧ r = some (.int (R_owes dev c))) := by
  refine Ct.of (L0 := [some (.ref (X.2 + 95)), some (.int dev), some (.int c), none]) (by decide) rfl (fun h => by cases h) (by simp [Value.category]) (Nat.le_of_ble_eq_true rfl) rfl (fun l => ?_)
  refine sx_aload_n (pc := 0) dX6_owes_0 rfl rfl ?_
  refine sx_iconst (pc := 1) (v := 0) dX6_owes_1 (by decide) ?_
  refine sx_puti (pc := 2) (ci := 6) (j := 0) (ty := .int) dX6_owes_2 rfl s_Mo rfl (by decide) lf_X6_72 rfl (by decide +kernel) rfl rfl (fun μ1 hμ1 => ?_)
  refine sx_iload_n (pc := 5) dX6_owes_5 rfl rfl ?_
  refine sx_iconst (pc := 6) (v := 0) dX6_owes_6 (by decide) ?_
  refine sx_bipush (pc := 7) (v := 29) dX6_owes_7 (by decide) ?_
  refine sx_callS (pc := 9) (As := [.int dev, .int 0, .int 29]) dX6_owes_9 (c_in X Ex false shA μ1 _ 0 29) mX6_in lm_X6_76 rfl ⟨Nat.le_of_ble_eq_true rfl, Nat.le_of_ble_eq_true rfl⟩ ⟨Nat.le_of_ble_eq_true rfl, Nat.le_of_ble_eq_true rfl⟩ (Nat.le_of_ble_eq_true rfl) hE (fun r_9 sh1 μ2 h_9 => ?_)
  obtain ⟨rfl, rfl, x_9, rfl, zx_9⟩ := h_9
  have hx_9 := inB 29 (by decide) zx_9
  refine sx_if_eq (pc := 12) (tgt := 25) dX6_owes_12 (by decide) (fun c_12 => ?_) (fun c_12 => ?_)
  · have h_12t := c_12
    refine sx_iconst (pc := 25) (v := (-1)) dX6_owes_25 (by decide) ?_
    exact sx_iret (pc := 26) dX6_owes_26 rfl rfl (Nat.zero_le _) (Nat.zero_le _) (⟨rfl, by rw [R_owes, if_neg]; rintro ⟨q1, q2⟩; first | exact isB_f hx_9 h_12t q1 | exact dq_f hx_19 h_22f q2⟩)
  · have h_12f := c_12
    have hb := isB_t hx_9 h_12f
    refine sx_iload_n (pc := 15) dX6_owes_15 rfl rfl ?_
    refine sx_iconst (pc := 16) (v := 0) dX6_owes_16 (by decide) ?_
    refine sx_ldc (pc := 17) dX6_owes_17 ld_X6_176 ?_
    refine sx_callS (pc := 19) (As := [.int c, .int 0, .int 100000]) dX6_owes_19 (c_in X Ex false shA μ1 _ 0 100000) mX6_in lm_X6_76 rfl ⟨Nat.le_of_ble_eq_true rfl, Nat.le_of_ble_eq_true rfl⟩ ⟨Nat.le_of_ble_eq_true rfl, Nat.le_of_ble_eq_true rfl⟩ (Nat.le_of_ble_eq_true rfl) hE (fun r_19 sh1 μ3 h_19 => ?_)
    obtain ⟨rfl, rfl, x_19, rfl, hx_19⟩ := h_19
    refine sx_if_ne (pc := 22) (tgt := 27) dX6_owes_22 (by decide) (fun c_22 => ?_) (fun c_22 => ?_)
    · have h_22t := c_22
      refine sx_aload_n (pc := 27) dX6_owes_27 rfl rfl ?_
      refine sx_getr (pc := 28) (ci := 6) (j := 15) (r := 110) dX6_owes_28 rfl s_Mo rfl (by decide) lf_X6_54 ?_
      refine sx_iload_n (pc := 31) dX6_owes_31 rfl rfl ?_
      refine sx_iald (pc := 32) dX6_owes_32 s_M15 (by decide) rfl (vp_in_lt (n := 30) hb.1 hb.2 (by decide)) ?_
      refine sx_istore_n (pc := 33) (L' := [some (.ref (X.2 + 95)), some (.int dev), some (.int c), some (.int (μ1 110 dev.toNatClampNeg))]) dX6_owes_33 rfl (by decide) rfl ?_
      refine sx_aload_n (pc := 34) dX6_owes_34 rfl rfl ?_
      refine sx_getr (pc := 35) (ci := 6) (j := 15) (r := 110) dX6_owes_35 rfl s_Mo rfl (by decide) lf_X6_54 ?_
      refine sx_iload_n (pc := 38) dX6_owes_38 rfl rfl ?_
      refine sx_iload_n (pc := 39) dX6_owes_39 rfl rfl ?_
      refine sx_iast (pc := 40) dX6_owes_40 s_M15 (by decide) rfl (vp_in_lt (n := 30) hb.1 hb.2 (by decide)) (fun μ4 hμ4 => ?_)
      refine sx_iload_n (pc := 41) dX6_owes_41 rfl rfl ?_
      exact sx_iret (pc := 42) dX6_owes_42 rfl rfl (Nat.zero_le _) (Nat.zero_le _) (⟨rfl, by rw [R_owes, if_pos ⟨hb, dq_t hx_19 h_22t⟩]; subst hμ1; simp [xup_at, hM.2.1]⟩)
    · have h_22f := c_22
      refine sx_iconst (pc := 25) (v := (-1)) dX6_owes_25 (by decide) ?_
      exact sx_iret (pc := 26) dX6_owes_26 rfl rfl (Nat.zero_le _) (Nat.zero_le _) (⟨rfl, by rw [R_owes, if_neg]; rintro ⟨q1, q2⟩; first | exact isB_f hx_9 h_12t q1 | exact dq_f hx_19 h_22f q2⟩)
set_option maxHeartbeats 1000000 in
set_option maxRecDepth 20000 in
theorem q_acts (X : xD) (Ex : State → Prop) (hE : xEs X false shA.length Ex) (μ : xM) (hM : FM μ) : Ct X Ex false yX6_acts kX6_acts (rmN 0) [.ref (X.2 + 95)] shA μ (fun r sh' μ' => shA = sh' ∧ r = some (.int (0))) := by
  refine Ct.of (L0 := [some (.ref (X.2 + 95))]) (by decide) rfl (fun h => by cases h) (by simp [Value.category]) (Nat.le_of_ble_eq_true rfl) rfl (fun l => ?_)
  refine sx_aload_n (pc := 0) dX6_acts_0 rfl rfl ?_
  refine sx_iconst (pc := 1) (v := 0) dX6_acts_1 (by decide) ?_
  refine sx_puti (pc := 2) (ci := 6) (j := 0) (ty := .int) dX6_acts_2 rfl s_Mo rfl (by decide) lf_X6_72 rfl (by decide +kernel) rfl rfl (fun μ1 hμ1 => ?_)
  refine sx_aload_n (pc := 5) dX6_acts_5 rfl rfl ?_
  refine sx_geti (pc := 6) (ci := 6) (j := 20) dX6_acts_6 rfl s_Mo rfl (by decide) lf_X6_152 ?_
  exact sx_iret (pc := 9) dX6_acts_9 rfl rfl (Nat.zero_le _) (Nat.zero_le _) (⟨rfl, by subst hμ1; simp [xup_at, hM.2.2.2.1]⟩)
set_option maxHeartbeats 1000000 in
set_option maxRecDepth 20000 in
theorem q_act (X : xD) (Ex : State → Prop) (hE : xEs X false shA.length Ex) (μ : xM) (i w : Int32) (hM : FM μ) : Ct X Ex false yX6_act kX6_act (rmN 1) [.ref (X.2 + 95), .int i, .int w] shA μ (fun r sh' μ' => shA = sh' ∧ r = some (.int (-1))) := by
  refine Ct.of (L0 := [some (.ref (X.2 + 95)), some (.int i), some (.int w)]) (by decide) rfl (fun h => by cases h) (by simp [Value.category]) (Nat.le_of_ble_eq_true rfl) rfl (fun l => ?_)
  refine sx_aload_n (pc := 0) dX6_act_0 rfl rfl ?_
  refine sx_iconst (pc := 1) (v := 0) dX6_act_1 (by decide) ?_
  refine sx_puti (pc := 2) (ci := 6) (j := 0) (ty := .int) dX6_act_2 rfl s_Mo rfl (by decide) lf_X6_72 rfl (by decide +kernel) rfl rfl (fun μ1 hμ1 => ?_)
  refine sx_iload_n (pc := 5) dX6_act_5 rfl rfl ?_
  refine sx_iconst (pc := 6) (v := 0) dX6_act_6 (by decide) ?_
  refine sx_aload_n (pc := 7) dX6_act_7 rfl rfl ?_
  refine sx_geti (pc := 8) (ci := 6) (j := 20) dX6_act_8 rfl s_Mo rfl (by decide) lf_X6_152 ?_
  refine sx_iconst (pc := 11) (v := 1) dX6_act_11 (by decide) ?_
  refine sx_isub (pc := 12) dX6_act_12 ?_
  refine sx_callS (pc := 13) (As := [.int i, .int 0, .int ((μ1 95 20) - 1)]) dX6_act_13 (c_in X Ex false shA μ1 _ 0 _) mX6_in lm_X6_76 rfl ⟨Nat.le_of_ble_eq_true rfl, Nat.le_of_ble_eq_true rfl⟩ ⟨Nat.le_of_ble_eq_true rfl, Nat.le_of_ble_eq_true rfl⟩ (Nat.le_of_ble_eq_true rfl) hE (fun r_13 sh1 μ2 h_13 => ?_)
  obtain ⟨rfl, rfl, x_13, rfl, hx_13⟩ := h_13
  refine sx_if_eq (pc := 16) (tgt := 48) dX6_act_16 (by decide) (fun c_16 => ?_) (fun c_16 => ?_)
  · have h_16t := c_16
    refine sx_iconst (pc := 48) (v := (-1)) dX6_act_48 (by decide) ?_
    exact sx_iret (pc := 49) dX6_act_49 rfl rfl (Nat.zero_le _) (Nat.zero_le _) (⟨rfl, rfl⟩)
  · have h_16f := c_16
    have z := dq_t hx_13 h_16f; rw [show μ1 95 20 = 0 by subst hμ1; simp [xup_at, hM.2.2.2.1]] at z; exact absurd (Int32.le_trans z.1 z.2) (by decide)
theorem sum_mod (c : Int32) : (c &&& 255) - (c &&& 255) / 256 * 256 = c &&& 255 := by
  obtain ⟨j, hj, e⟩ := pk_andE c (m := 255) 8 (by decide)
  rw [e, show (256 : Int32) = nI 256 from rfl, pk_rem (by omega) (by omega) (by omega), Nat.mod_eq_of_lt hj]
set_option maxHeartbeats 1000000 in
set_option maxRecDepth 20000 in
theorem q_sum (X : xD) (Ex : State → Prop) (hE : xEs X false shA.length Ex) (μ : xM) (c : Int32) (hM : FM μ) : Ct X Ex false yX6_sum kX6_sum (rmN 0) [.ref (X.2 + 95), .int c] shA μ (fun r sh' μ' => shA = sh' ∧ r = some (.int (R_sum c))) := by
  refine Ct.of (L0 := [some (.ref (X.2 + 95)), some (.int c), none]) (by decide) rfl (fun h => by cases h) (by simp [Value.category]) (Nat.le_of_ble_eq_true rfl) rfl (fun l => ?_)
  refine sx_aload_n (pc := 0) dX6_sum_0 rfl rfl ?_
  refine sx_iconst (pc := 1) (v := 0) dX6_sum_1 (by decide) ?_
  refine sx_puti (pc := 2) (ci := 6) (j := 0) (ty := .int) dX6_sum_2 rfl s_Mo rfl (by decide) lf_X6_72 rfl (by decide +kernel) rfl rfl (fun μ1 hμ1 => ?_)
  refine sx_iload_n (pc := 5) dX6_sum_5 rfl rfl ?_
  refine sx_if_ge (pc := 6) (tgt := 21) dX6_sum_6 (by decide) (fun c_6 => ?_) (fun c_6 => ?_)
  · have h_6t := c_6
    refine sx_aload_n (pc := 21) dX6_sum_21 rfl rfl ?_
    refine sx_aload_n (pc := 22) dX6_sum_22 rfl rfl ?_
    refine sx_geti (pc := 23) (ci := 6) (j := 22) dX6_sum_23 rfl s_Mo rfl (by decide) lf_X6_177 ?_
    refine sx_iload_n (pc := 26) dX6_sum_26 rfl rfl ?_
    refine sx_sipush (pc := 27) (v := 255) dX6_sum_27 (by decide) ?_
    refine sx_iand (pc := 30) dX6_sum_30 ?_
    refine sx_iadd (pc := 31) dX6_sum_31 ?_
    refine sx_sipush (pc := 32) (v := 256) dX6_sum_32 (by decide) ?_
    refine sx_irem (pc := 35) dX6_sum_35 (by decide) ?_
    refine sx_puti (pc := 36) (ci := 6) (j := 22) (ty := .int) dX6_sum_36 rfl s_Mo rfl (by decide) lf_X6_177 rfl (by decide +kernel) rfl rfl (fun μ2 hμ2 => ?_)
    refine sx_aload_n (pc := 39) dX6_sum_39 rfl rfl ?_
    refine sx_geti (pc := 40) (ci := 6) (j := 22) dX6_sum_40 rfl s_Mo rfl (by decide) lf_X6_177 ?_
    exact sx_iret (pc := 43) dX6_sum_43 rfl rfl (Nat.zero_le _) (Nat.zero_le _) (⟨rfl, by rw [R_sum, if_neg (Int32.not_lt.mpr h_6t)]; subst hμ2; subst hμ1; simp [xup_at, hM.2.2.2.2]; exact sum_mod c⟩)
  · have h_6f := c_6
    refine sx_aload_n (pc := 9) dX6_sum_9 rfl rfl ?_
    refine sx_geti (pc := 10) (ci := 6) (j := 22) dX6_sum_10 rfl s_Mo rfl (by decide) lf_X6_177 ?_
    refine sx_istore_n (pc := 13) (L' := [some (.ref (X.2 + 95)), some (.int c), some (.int (μ1 95 22))]) dX6_sum_13 rfl (by decide) rfl ?_
    refine sx_aload_n (pc := 14) dX6_sum_14 rfl rfl ?_
    refine sx_iconst (pc := 15) (v := 0) dX6_sum_15 (by decide) ?_
    refine sx_puti (pc := 16) (ci := 6) (j := 22) (ty := .int) dX6_sum_16 rfl s_Mo rfl (by decide) lf_X6_177 rfl (by decide +kernel) rfl rfl (fun μ3 hμ3 => ?_)
    refine sx_iload_n (pc := 19) dX6_sum_19 rfl rfl ?_
    exact sx_iret (pc := 20) dX6_sum_20 rfl rfl (Nat.zero_le _) (Nat.zero_le _) (⟨rfl, by rw [R_sum, if_pos (Int32.not_le.mp h_6f)]; subst hμ1; simp [xup_at, hM.2.2.2.2]⟩)
set_option maxHeartbeats 1000000 in
set_option maxRecDepth 20000 in
theorem q_waits (X : xD) (Ex : State → Prop) (hE : xEs X false shA.length Ex) (μ : xM) (dev i : Int32) (hM : FM μ) : Ct X Ex false yX6_waits kX6_waits (rmN 1) [.ref (X.2 + 95), .int dev, .int i] shA μ (fun r sh' μ' => shA = sh' ∧ r = some (.int (-1))) := by
  refine Ct.of (L0 := [some (.ref (X.2 + 95)), some (.int dev), some (.int i)]) (by decide) rfl (fun h => by cases h) (by simp [Value.category]) (Nat.le_of_ble_eq_true rfl) rfl (fun l => ?_)
  refine sx_aload_n (pc := 0) dX6_waits_0 rfl rfl ?_
  refine sx_iconst (pc := 1) (v := 0) dX6_waits_1 (by decide) ?_
  refine sx_puti (pc := 2) (ci := 6) (j := 0) (ty := .int) dX6_waits_2 rfl s_Mo rfl (by decide) lf_X6_72 rfl (by decide +kernel) rfl rfl (fun μ1 hμ1 => ?_)
  refine sx_iload_n (pc := 5) dX6_waits_5 rfl rfl ?_
  refine sx_iconst (pc := 6) (v := 0) dX6_waits_6 (by decide) ?_
  refine sx_bipush (pc := 7) (v := 29) dX6_waits_7 (by decide) ?_
  refine sx_callS (pc := 9) (As := [.int dev, .int 0, .int 29]) dX6_waits_9 (c_in X Ex false shA μ1 _ 0 29) mX6_in lm_X6_76 rfl ⟨Nat.le_of_ble_eq_true rfl, Nat.le_of_ble_eq_true rfl⟩ ⟨Nat.le_of_ble_eq_true rfl, Nat.le_of_ble_eq_true rfl⟩ (Nat.le_of_ble_eq_true rfl) hE (fun r_9 sh1 μ2 h_9 => ?_)
  obtain ⟨rfl, rfl, x_9, rfl, zx_9⟩ := h_9
  have hx_9 := inB 29 (by decide) zx_9
  refine sx_if_eq (pc := 12) (tgt := 45) dX6_waits_12 (by decide) (fun c_12 => ?_) (fun c_12 => ?_)
  · have h_12t := c_12
    refine sx_iconst (pc := 45) (v := (-1)) dX6_waits_45 (by decide) ?_
    exact sx_iret (pc := 46) dX6_waits_46 rfl rfl (Nat.zero_le _) (Nat.zero_le _) (⟨rfl, rfl⟩)
  · have h_12f := c_12
    have hb := isB_t hx_9 h_12f
    refine sx_iload_n (pc := 15) dX6_waits_15 rfl rfl ?_
    refine sx_iconst (pc := 16) (v := 0) dX6_waits_16 (by decide) ?_
    refine sx_aload_n (pc := 17) dX6_waits_17 rfl rfl ?_
    refine sx_getr (pc := 18) (ci := 6) (j := 18) (r := 113) dX6_waits_18 rfl s_Mo rfl (by decide) lf_X6_63 ?_
    refine sx_iload_n (pc := 21) dX6_waits_21 rfl rfl ?_
    refine sx_iald (pc := 22) dX6_waits_22 s_M18 (by decide) rfl (vp_in_lt (n := 30) hb.1 hb.2 (by decide)) ?_
    refine sx_iconst (pc := 23) (v := 1) dX6_waits_23 (by decide) ?_
    refine sx_isub (pc := 24) dX6_waits_24 ?_
    refine sx_callS (pc := 25) (As := [.int i, .int 0, .int ((μ1 113 dev.toNatClampNeg) - 1)]) dX6_waits_25 (c_in X Ex false shA μ1 _ 0 _) mX6_in lm_X6_76 rfl ⟨Nat.le_of_ble_eq_true rfl, Nat.le_of_ble_eq_true rfl⟩ ⟨Nat.le_of_ble_eq_true rfl, Nat.le_of_ble_eq_true rfl⟩ (Nat.le_of_ble_eq_true rfl) hE (fun r_25 sh1 μ3 h_25 => ?_)
    obtain ⟨rfl, rfl, x_25, rfl, hx_25⟩ := h_25
    refine sx_if_eq (pc := 28) (tgt := 45) dX6_waits_28 (by decide) (fun c_28 => ?_) (fun c_28 => ?_)
    · have h_28t := c_28
      refine sx_iconst (pc := 45) (v := (-1)) dX6_waits_45 (by decide) ?_
      exact sx_iret (pc := 46) dX6_waits_46 rfl rfl (Nat.zero_le _) (Nat.zero_le _) (⟨rfl, rfl⟩)
    · have h_28f := c_28
      have z := dq_t hx_25 h_28f; rw [show μ1 113 dev.toNatClampNeg = 0 by subst hμ1; simp [xup_at, hM.2.2.1]] at z; exact absurd (Int32.le_trans z.1 z.2) (by decide)
set_option maxHeartbeats 1000000 in
set_option maxRecDepth 20000 in
theorem q_state (X : xD) (Ex : State → Prop) (hE : xEs X false shA.length Ex) (μ : xM) (dev w : Int32) (hM : FM μ) : Ct X Ex false yX6_state kX6_state (rmN 2) [.ref (X.2 + 95), .int dev, .int w] shA μ (fun r sh' μ' => shA = sh' ∧ r = some (.int (R_state dev w))) := by
  refine Ct.of (L0 := [some (.ref (X.2 + 95)), some (.int dev), some (.int w)]) (by decide) rfl (fun h => by cases h) (by simp [Value.category]) (Nat.le_of_ble_eq_true rfl) rfl (fun l => ?_)
  refine sx_aload_n (pc := 0) dX6_state_0 rfl rfl ?_
  refine sx_iconst (pc := 1) (v := 0) dX6_state_1 (by decide) ?_
  refine sx_puti (pc := 2) (ci := 6) (j := 0) (ty := .int) dX6_state_2 rfl s_Mo rfl (by decide) lf_X6_72 rfl (by decide +kernel) rfl rfl (fun μ1 hμ1 => ?_)
  refine sx_iload_n (pc := 5) dX6_state_5 rfl rfl ?_
  refine sx_callS (pc := 6) (As := [.int dev]) dX6_state_6 (c_isDevice X Ex hE μ1 _) mX6_isDevice lm_X6_171 rfl ⟨Nat.le_of_ble_eq_true rfl, Nat.le_of_ble_eq_true rfl⟩ ⟨Nat.le_of_ble_eq_true rfl, Nat.le_of_ble_eq_true rfl⟩ (Nat.le_of_ble_eq_true rfl) hE (fun r_6 sh1 μ2 h_6 => ?_)
  obtain ⟨rfl, rfl, x_6, rfl, hx_6⟩ := h_6
  refine sx_if_ne (pc := 9) (tgt := 14) dX6_state_9 (by decide) (fun c_9 => ?_) (fun c_9 => ?_)
  · have h_9t := c_9
    have hb := isB_t hx_6 h_9t
    have hd := clamp_lt (n := 6) hb.1 hb.2 (by decide)
    have hf := hM.1 _ hd
    refine sx_iload_n (pc := 14) dX6_state_14 rfl rfl ?_
    rcases sw5 w with rfl | rfl | rfl | rfl | rfl | w_15
    · refine sx_tableIn (pc := 15) (off := 33) (tgt := 48) dX6_state_15 (by decide) (by decide) (by decide) (by decide) ?_
      refine sx_aload_n (pc := 48) dX6_state_48 rfl rfl ?_
      refine sx_getr (pc := 49) (ci := 6) (j := 5) (r := 100) dX6_state_49 rfl s_Mo rfl (by decide) lf_X6_24 ?_
      refine sx_iload_n (pc := 52) dX6_state_52 rfl rfl ?_
      refine sx_iald (pc := 53) dX6_state_53 s_M5 (by decide) rfl (vp_in_lt hb.1 hb.2 (by decide)) ?_
      exact sx_iret (pc := 54) dX6_state_54 rfl rfl (Nat.zero_le _) (Nat.zero_le _) (⟨rfl, by rw [R_state, if_pos hb]; subst hμ1; simp [xup_at, hf.2.2.2.1]⟩)
    · refine sx_tableIn (pc := 15) (off := 40) (tgt := 55) dX6_state_15 (by decide) (by decide) (by decide) (by decide) ?_
      refine sx_aload_n (pc := 55) dX6_state_55 rfl rfl ?_
      refine sx_getr (pc := 56) (ci := 6) (j := 4) (r := 99) dX6_state_56 rfl s_Mo rfl (by decide) lf_X6_21 ?_
      refine sx_iload_n (pc := 59) dX6_state_59 rfl rfl ?_
      refine sx_zald (pc := 60) dX6_state_60 s_M4 (by decide) rfl (vp_in_lt hb.1 hb.2 (by decide)) ?_
      refine sx_if_eq (pc := 61) (tgt := 68) dX6_state_61 (by decide) (fun c_61 => ?_) (fun c_61 => absurd (by subst hμ1; simp [xup_at, hf.2.2.1]) c_61)
      refine sx_iconst (pc := 68) (v := 0) dX6_state_68 (by decide) ?_
      exact sx_iret (pc := 69) dX6_state_69 rfl rfl (Nat.zero_le _) (Nat.zero_le _) (⟨rfl, by rw [R_state, if_pos hb]; rfl⟩)
    · refine sx_tableIn (pc := 15) (off := 55) (tgt := 70) dX6_state_15 (by decide) (by decide) (by decide) (by decide) ?_
      refine sx_aload_n (pc := 70) dX6_state_70 rfl rfl ?_
      refine sx_getr (pc := 71) (ci := 6) (j := 3) (r := 98) dX6_state_71 rfl s_Mo rfl (by decide) lf_X6_17 ?_
      refine sx_iload_n (pc := 74) dX6_state_74 rfl rfl ?_
      refine sx_zald (pc := 75) dX6_state_75 s_M3 (by decide) rfl (vp_in_lt hb.1 hb.2 (by decide)) ?_
      refine sx_if_eq (pc := 76) (tgt := 83) dX6_state_76 (by decide) (fun c_76 => ?_) (fun c_76 => absurd (by subst hμ1; simp [xup_at, hf.2.1]) c_76)
      refine sx_iconst (pc := 83) (v := 0) dX6_state_83 (by decide) ?_
      exact sx_iret (pc := 84) dX6_state_84 rfl rfl (Nat.zero_le _) (Nat.zero_le _) (⟨rfl, by rw [R_state, if_pos hb]; rfl⟩)
    · refine sx_tableIn (pc := 15) (off := 70) (tgt := 85) dX6_state_15 (by decide) (by decide) (by decide) (by decide) ?_
      refine sx_aload_n (pc := 85) dX6_state_85 rfl rfl ?_
      refine sx_getr (pc := 86) (ci := 6) (j := 11) (r := 106) dX6_state_86 rfl s_Mo rfl (by decide) lf_X6_42 ?_
      refine sx_iload_n (pc := 89) dX6_state_89 rfl rfl ?_
      refine sx_iald (pc := 90) dX6_state_90 s_M11 (by decide) rfl (vp_in_lt hb.1 hb.2 (by decide)) ?_
      exact sx_iret (pc := 91) dX6_state_91 rfl rfl (Nat.zero_le _) (Nat.zero_le _) (⟨rfl, by rw [R_state, if_pos hb]; subst hμ1; simp [xup_at, hf.2.2.2.2.2.2]⟩)
    · refine sx_tableIn (pc := 15) (off := 77) (tgt := 92) dX6_state_15 (by decide) (by decide) (by decide) (by decide) ?_
      refine sx_aload_n (pc := 92) dX6_state_92 rfl rfl ?_
      refine sx_getr (pc := 93) (ci := 6) (j := 6) (r := 101) dX6_state_93 rfl s_Mo rfl (by decide) lf_X6_27 ?_
      refine sx_iload_n (pc := 96) dX6_state_96 rfl rfl ?_
      refine sx_iald (pc := 97) dX6_state_97 s_M6 (by decide) rfl (vp_in_lt hb.1 hb.2 (by decide)) ?_
      exact sx_iret (pc := 98) dX6_state_98 rfl rfl (Nat.zero_le _) (Nat.zero_le _) (⟨rfl, by rw [R_state, if_pos hb]; subst hμ1; simp [xup_at, hf.2.2.2.2.1]⟩)
    · refine sx_tableOut (pc := 15) (tgt := 99) dX6_state_15 w_15 (by decide) ?_
      refine sx_iconst (pc := 99) (v := (-1)) dX6_state_99 (by decide) ?_
      exact sx_iret (pc := 100) dX6_state_100 rfl rfl (Nat.zero_le _) (Nat.zero_le _) (⟨rfl, by rw [R_st_out hb w_15]⟩)
  · have h_9f := c_9
    refine sx_iconst (pc := 12) (v := (-1)) dX6_state_12 (by decide) ?_
    exact sx_iret (pc := 13) dX6_state_13 rfl rfl (Nat.zero_le _) (Nat.zero_le _) (⟨rfl, by rw [R_state, if_neg (isB_f hx_6 h_9f)]⟩)
set_option maxHeartbeats 1000000 in
set_option maxRecDepth 20000 in
theorem q_offline (X : xD) (Ex : State → Prop) (hE : xEs X false shA.length Ex) (μ : xM) (dev kd it ps : Int32) (hM : FM μ) : Ct X Ex false yX6_offline kX6_offline (rmN 2) [.ref (X.2 + 95), .int dev, .int kd, .int it, .int ps] shA μ (fun r sh' μ' => shA = sh' ∧ r = some (.int (R_off dev kd it ps))) := by
  refine Ct.of (L0 := [some (.ref (X.2 + 95)), some (.int dev), some (.int kd), some (.int it), some (.int ps), none]) (by decide) rfl (fun h => by cases h) (by simp [Value.category]) (Nat.le_of_ble_eq_true rfl) rfl (fun l => ?_)
  refine sx_aload_n (pc := 0) dX6_offline_0 rfl rfl ?_
  refine sx_iconst (pc := 1) (v := 0) dX6_offline_1 (by decide) ?_
  refine sx_puti (pc := 2) (ci := 6) (j := 0) (ty := .int) dX6_offline_2 rfl s_Mo rfl (by decide) lf_X6_72 rfl (by decide +kernel) rfl rfl (fun μ1 hμ1 => ?_)
  refine sx_iload_n (pc := 5) dX6_offline_5 rfl rfl ?_
  refine sx_callS (pc := 6) (As := [.int dev]) dX6_offline_6 (c_isDevice X Ex hE μ1 _) mX6_isDevice lm_X6_171 rfl ⟨Nat.le_of_ble_eq_true rfl, Nat.le_of_ble_eq_true rfl⟩ ⟨Nat.le_of_ble_eq_true rfl, Nat.le_of_ble_eq_true rfl⟩ (Nat.le_of_ble_eq_true rfl) hE (fun r_6 sh1 μ2 h_6 => ?_)
  obtain ⟨rfl, rfl, x_6, rfl, hx_6⟩ := h_6
  refine sx_if_eq (pc := 9) (tgt := 42) dX6_offline_9 (by decide) (fun c_9 => ?_) (fun c_9 => ?_)
  · have h_9t := c_9
    refine sx_iconst (pc := 42) (v := (-1)) dX6_offline_42 (by decide) ?_
    exact sx_iret (pc := 43) dX6_offline_43 rfl rfl (Nat.zero_le _) (Nat.zero_le _) (⟨rfl, by rw [R_off, if_neg]; rintro ⟨q1, q2, q3, q4⟩; first | exact isB_f hx_6 h_9t q1 | exact isB_f hx_15 h_18t q2 | exact isB_f hx_25 h_28t q3 | exact isB_f hx_36 h_39f q4⟩)
  · have h_9f := c_9
    refine sx_iload_n (pc := 12) dX6_offline_12 rfl rfl ?_
    refine sx_iconst (pc := 13) (v := 0) dX6_offline_13 (by decide) ?_
    refine sx_iconst (pc := 14) (v := 1) dX6_offline_14 (by decide) ?_
    refine sx_callS (pc := 15) (As := [.int kd, .int 0, .int 1]) dX6_offline_15 (c_in X Ex false shA μ1 _ 0 1) mX6_in lm_X6_76 rfl ⟨Nat.le_of_ble_eq_true rfl, Nat.le_of_ble_eq_true rfl⟩ ⟨Nat.le_of_ble_eq_true rfl, Nat.le_of_ble_eq_true rfl⟩ (Nat.le_of_ble_eq_true rfl) hE (fun r_15 sh1 μ3 h_15 => ?_)
    obtain ⟨rfl, rfl, x_15, rfl, zx_15⟩ := h_15
    have hx_15 := inB 1 (by decide) zx_15
    refine sx_if_eq (pc := 18) (tgt := 42) dX6_offline_18 (by decide) (fun c_18 => ?_) (fun c_18 => ?_)
    · have h_18t := c_18
      refine sx_iconst (pc := 42) (v := (-1)) dX6_offline_42 (by decide) ?_
      exact sx_iret (pc := 43) dX6_offline_43 rfl rfl (Nat.zero_le _) (Nat.zero_le _) (⟨rfl, by rw [R_off, if_neg]; rintro ⟨q1, q2, q3, q4⟩; first | exact isB_f hx_6 h_9t q1 | exact isB_f hx_15 h_18t q2 | exact isB_f hx_25 h_28t q3 | exact isB_f hx_36 h_39f q4⟩)
    · have h_18f := c_18
      refine sx_iload_n (pc := 21) dX6_offline_21 rfl rfl ?_
      refine sx_iconst (pc := 22) (v := 0) dX6_offline_22 (by decide) ?_
      refine sx_bipush (pc := 23) (v := 29) dX6_offline_23 (by decide) ?_
      refine sx_callS (pc := 25) (As := [.int it, .int 0, .int 29]) dX6_offline_25 (c_in X Ex false shA μ1 _ 0 29) mX6_in lm_X6_76 rfl ⟨Nat.le_of_ble_eq_true rfl, Nat.le_of_ble_eq_true rfl⟩ ⟨Nat.le_of_ble_eq_true rfl, Nat.le_of_ble_eq_true rfl⟩ (Nat.le_of_ble_eq_true rfl) hE (fun r_25 sh1 μ4 h_25 => ?_)
      obtain ⟨rfl, rfl, x_25, rfl, zx_25⟩ := h_25
      have hx_25 := inB 29 (by decide) zx_25
      refine sx_if_eq (pc := 28) (tgt := 42) dX6_offline_28 (by decide) (fun c_28 => ?_) (fun c_28 => ?_)
      · have h_28t := c_28
        refine sx_iconst (pc := 42) (v := (-1)) dX6_offline_42 (by decide) ?_
        exact sx_iret (pc := 43) dX6_offline_43 rfl rfl (Nat.zero_le _) (Nat.zero_le _) (⟨rfl, by rw [R_off, if_neg]; rintro ⟨q1, q2, q3, q4⟩; first | exact isB_f hx_6 h_9t q1 | exact isB_f hx_15 h_18t q2 | exact isB_f hx_25 h_28t q3 | exact isB_f hx_36 h_39f q4⟩)
      · have h_28f := c_28
        refine sx_iload (pc := 31) dX6_offline_31 rfl ?_
        refine sx_iconst (pc := 33) (v := 0) dX6_offline_33 (by decide) ?_
        refine sx_bipush (pc := 34) (v := 29) dX6_offline_34 (by decide) ?_
        refine sx_callS (pc := 36) (As := [.int ps, .int 0, .int 29]) dX6_offline_36 (c_in X Ex false shA μ1 _ 0 29) mX6_in lm_X6_76 rfl ⟨Nat.le_of_ble_eq_true rfl, Nat.le_of_ble_eq_true rfl⟩ ⟨Nat.le_of_ble_eq_true rfl, Nat.le_of_ble_eq_true rfl⟩ (Nat.le_of_ble_eq_true rfl) hE (fun r_36 sh1 μ5 h_36 => ?_)
        obtain ⟨rfl, rfl, x_36, rfl, zx_36⟩ := h_36
        have hx_36 := inB 29 (by decide) zx_36
        refine sx_if_ne (pc := 39) (tgt := 44) dX6_offline_39 (by decide) (fun c_39 => ?_) (fun c_39 => ?_)
        · have h_39t := c_39
          have hb := isB_t hx_6 h_9f
          have hd := clamp_lt (n := 6) hb.1 hb.2 (by decide)
          have hf := hM.1 _ hd
          refine sx_aload_n (pc := 44) dX6_offline_44 rfl rfl ?_
          refine sx_getr (pc := 45) (ci := 6) (j := 11) (r := 106) dX6_offline_45 rfl s_Mo rfl (by decide) lf_X6_42 ?_
          refine sx_iload_n (pc := 48) dX6_offline_48 rfl rfl ?_
          refine sx_iald (pc := 49) dX6_offline_49 s_M11 (by decide) rfl (vp_in_lt hb.1 hb.2 (by decide)) ?_
          refine sx_bipush (pc := 50) (v := 20) dX6_offline_50 (by decide) ?_
          refine sx_icmp_ne (pc := 52) (tgt := 58) dX6_offline_52 (by decide) (fun c_52 => ?_) (fun c_52 => absurd c_52 (by rw [show μ1 106 dev.toNatClampNeg = 0 by subst hμ1; simp [xup_at, hf.2.2.2.2.2.2]]; decide))
          refine sx_bipush (pc := 58) (v := 20) dX6_offline_58 (by decide) ?_
          refine sx_iload_n (pc := 60) dX6_offline_60 rfl rfl ?_
          refine sx_imul (pc := 61) dX6_offline_61 ?_
          refine sx_aload_n (pc := 62) dX6_offline_62 rfl rfl ?_
          refine sx_getr (pc := 63) (ci := 6) (j := 11) (r := 106) dX6_offline_63 rfl s_Mo rfl (by decide) lf_X6_42 ?_
          refine sx_iload_n (pc := 66) dX6_offline_66 rfl rfl ?_
          refine sx_iald (pc := 67) dX6_offline_67 s_M11 (by decide) rfl (vp_in_lt hb.1 hb.2 (by decide)) ?_
          refine sx_iadd (pc := 68) dX6_offline_68 ?_
          refine sx_istore (pc := 69) (L' := [some (.ref (X.2 + 95)), some (.int dev), some (.int kd), some (.int it), some (.int ps), some (.int ((20 * dev) + (μ1 106 dev.toNatClampNeg)))]) dX6_offline_69 (by decide) rfl ?_
          refine sx_aload_n (pc := 71) dX6_offline_71 rfl rfl ?_
          refine sx_getr (pc := 72) (ci := 6) (j := 12) (r := 107) dX6_offline_72 rfl s_Mo rfl (by decide) lf_X6_45 ?_
          refine sx_iload (pc := 75) dX6_offline_75 rfl ?_
          refine sx_iload_n (pc := 77) dX6_offline_77 rfl rfl ?_
          refine sx_iast (pc := 78) dX6_offline_78 s_M12 (by decide) rfl (by rw [show μ1 106 dev.toNatClampNeg = nI 0 by subst hμ1; simp [xup_at, hf.2.2.2.2.2.2, nI_0]]; exact ix_mul hb 20 0 120 (fun k hk => by omega) (by decide) (by decide)) (fun μ6 hμ6 => ?_)
          refine sx_aload_n (pc := 79) dX6_offline_79 rfl rfl ?_
          refine sx_getr (pc := 80) (ci := 6) (j := 13) (r := 108) dX6_offline_80 rfl s_Mo rfl (by decide) lf_X6_48 ?_
          refine sx_iload (pc := 83) dX6_offline_83 rfl ?_
          refine sx_iload_n (pc := 85) dX6_offline_85 rfl rfl ?_
          refine sx_iast (pc := 86) dX6_offline_86 s_M13 (by decide) rfl (by rw [show μ1 106 dev.toNatClampNeg = nI 0 by subst hμ1; simp [xup_at, hf.2.2.2.2.2.2, nI_0]]; exact ix_mul hb 20 0 120 (fun k hk => by omega) (by decide) (by decide)) (fun μ7 hμ7 => ?_)
          refine sx_aload_n (pc := 87) dX6_offline_87 rfl rfl ?_
          refine sx_getr (pc := 88) (ci := 6) (j := 14) (r := 109) dX6_offline_88 rfl s_Mo rfl (by decide) lf_X6_51 ?_
          refine sx_iload (pc := 91) dX6_offline_91 rfl ?_
          refine sx_iload (pc := 93) dX6_offline_93 rfl ?_
          refine sx_iast (pc := 95) dX6_offline_95 s_M14 (by decide) rfl (by rw [show μ1 106 dev.toNatClampNeg = nI 0 by subst hμ1; simp [xup_at, hf.2.2.2.2.2.2, nI_0]]; exact ix_mul hb 20 0 120 (fun k hk => by omega) (by decide) (by decide)) (fun μ8 hμ8 => ?_)
          refine sx_aload_n (pc := 96) dX6_offline_96 rfl rfl ?_
          refine sx_getr (pc := 97) (ci := 6) (j := 11) (r := 106) dX6_offline_97 rfl s_Mo rfl (by decide) lf_X6_42 ?_
          refine sx_iload_n (pc := 100) dX6_offline_100 rfl rfl ?_
          refine sx_dup2 (pc := 101) dX6_offline_101 rfl rfl ?_
          refine sx_iald (pc := 102) dX6_offline_102 s_M11 (by decide) rfl (vp_in_lt hb.1 hb.2 (by decide)) ?_
          refine sx_iconst (pc := 103) (v := 1) dX6_offline_103 (by decide) ?_
          refine sx_iadd (pc := 104) dX6_offline_104 ?_
          refine sx_iast (pc := 105) dX6_offline_105 s_M11 (by decide) rfl (vp_in_lt hb.1 hb.2 (by decide)) (fun μ9 hμ9 => ?_)
          refine sx_aload_n (pc := 106) dX6_offline_106 rfl rfl ?_
          refine sx_getr (pc := 107) (ci := 6) (j := 11) (r := 106) dX6_offline_107 rfl s_Mo rfl (by decide) lf_X6_42 ?_
          refine sx_iload_n (pc := 110) dX6_offline_110 rfl rfl ?_
          refine sx_iald (pc := 111) dX6_offline_111 s_M11 (by decide) rfl (vp_in_lt hb.1 hb.2 (by decide)) ?_
          exact sx_iret (pc := 112) dX6_offline_112 rfl rfl (Nat.zero_le _) (Nat.zero_le _) (⟨rfl, by rw [R_off, if_pos ⟨hb, isB_t hx_15 h_18f, isB_t hx_25 h_28f, isB_t hx_36 h_39t⟩]; subst hμ9; subst hμ8; subst hμ7; subst hμ6; subst hμ1; simp [xup_at, hf.2.2.2.2.2.2]⟩)
        · have h_39f := c_39
          refine sx_iconst (pc := 42) (v := (-1)) dX6_offline_42 (by decide) ?_
          exact sx_iret (pc := 43) dX6_offline_43 rfl rfl (Nat.zero_le _) (Nat.zero_le _) (⟨rfl, by rw [R_off, if_neg]; rintro ⟨q1, q2, q3, q4⟩; first | exact isB_f hx_6 h_9t q1 | exact isB_f hx_15 h_18t q2 | exact isB_f hx_25 h_28t q3 | exact isB_f hx_36 h_39f q4⟩)
set_option maxHeartbeats 1000000 in
set_option maxRecDepth 20000 in
theorem q_answer (X : xD) (Ex : State → Prop) (hE : xEs X false shA.length Ex) (μ : xM) (dev i : Int32) (hM : FM μ) : Ct X Ex false yX6_answer kX6_answer (rmN 2) [.ref (X.2 + 95), .int dev, .int i] shA μ (fun r sh' μ' => shA = sh' ∧ μ' 95 0 = 1 ∧ r = some (.int 0)) := by
  refine Ct.of (L0 := [some (.ref (X.2 + 95)), some (.int dev), some (.int i)]) (by decide) rfl (fun h => by cases h) (by simp [Value.category]) (Nat.le_of_ble_eq_true rfl) rfl (fun l => ?_)
  refine sx_aload_n (pc := 0) dX6_answer_0 rfl rfl ?_
  refine sx_iload_n (pc := 1) dX6_answer_1 rfl rfl ?_
  refine sx_callS (pc := 2) (As := [.int dev]) dX6_answer_2 (c_isDevice X Ex hE μ _) mX6_isDevice lm_X6_171 rfl ⟨Nat.le_of_ble_eq_true rfl, Nat.le_of_ble_eq_true rfl⟩ ⟨Nat.le_of_ble_eq_true rfl, Nat.le_of_ble_eq_true rfl⟩ (Nat.le_of_ble_eq_true rfl) hE (fun r_2 sh1 μ1 h_2 => ?_)
  obtain ⟨rfl, rfl, x_2, rfl, hx_2⟩ := h_2
  refine sx_if_eq (pc := 5) (tgt := 28) dX6_answer_5 (by decide) (fun c_5 => ?_) (fun c_5 => ?_)
  · have h_5t := c_5
    refine sx_iconst (pc := 28) (v := 1) dX6_answer_28 (by decide) ?_
    refine sx_puti (pc := 29) (ci := 6) (j := 0) (ty := .int) dX6_answer_29 rfl s_Mo rfl (by decide) lf_X6_72 rfl (by decide +kernel) rfl rfl (fun μ2 hμ2 => ?_)
    refine sx_aload_n (pc := 32) dX6_answer_32 rfl rfl ?_
    refine sx_geti (pc := 33) (ci := 6) (j := 0) dX6_answer_33 rfl s_Mo rfl (by decide) lf_X6_72 ?_
    refine sx_if_le (pc := 36) (tgt := 43) dX6_answer_36 (by decide) (fun c_36 => absurd c_36 (by subst hμ2; simp [xup_at])) (fun c_36 => ?_)
    refine sx_iconst (pc := 39) (v := 0) dX6_answer_39 (by decide) ?_
    refine sx_goto (pc := 40) (tgt := 54) dX6_answer_40 (by decide) ?_
    exact sx_iret (pc := 54) dX6_answer_54 rfl rfl (Nat.zero_le _) (Nat.zero_le _) (⟨rfl, by subst hμ2; simp [xup_at], rfl⟩)
  · have h_5f := c_5
    have hb := isB_t hx_2 h_5f
    have hd := clamp_lt (n := 6) hb.1 hb.2 (by decide)
    have hf := hM.1 _ hd
    refine sx_iload_n (pc := 8) dX6_answer_8 rfl rfl ?_
    refine sx_iconst (pc := 9) (v := 0) dX6_answer_9 (by decide) ?_
    refine sx_aload_n (pc := 10) dX6_answer_10 rfl rfl ?_
    refine sx_getr (pc := 11) (ci := 6) (j := 7) (r := 102) dX6_answer_11 rfl s_Mo rfl (by decide) lf_X6_30 ?_
    refine sx_iload_n (pc := 14) dX6_answer_14 rfl rfl ?_
    refine sx_iald (pc := 15) dX6_answer_15 s_M7 (by decide) rfl (vp_in_lt hb.1 hb.2 (by decide)) ?_
    refine sx_iconst (pc := 16) (v := 1) dX6_answer_16 (by decide) ?_
    refine sx_isub (pc := 17) dX6_answer_17 ?_
    refine sx_callS (pc := 18) (As := [.int i, .int 0, .int ((μ 102 dev.toNatClampNeg) - 1)]) dX6_answer_18 (c_in X Ex false shA μ _ 0 _) mX6_in lm_X6_76 rfl ⟨Nat.le_of_ble_eq_true rfl, Nat.le_of_ble_eq_true rfl⟩ ⟨Nat.le_of_ble_eq_true rfl, Nat.le_of_ble_eq_true rfl⟩ (Nat.le_of_ble_eq_true rfl) hE (fun r_18 sh1 μ3 h_18 => ?_)
    obtain ⟨rfl, rfl, x_18, rfl, hx_18⟩ := h_18
    refine sx_if_eq (pc := 21) (tgt := 28) dX6_answer_21 (by decide) (fun c_21 => ?_) (fun c_21 => ?_)
    · have h_21t := c_21
      refine sx_iconst (pc := 28) (v := 1) dX6_answer_28 (by decide) ?_
      refine sx_puti (pc := 29) (ci := 6) (j := 0) (ty := .int) dX6_answer_29 rfl s_Mo rfl (by decide) lf_X6_72 rfl (by decide +kernel) rfl rfl (fun μ4 hμ4 => ?_)
      refine sx_aload_n (pc := 32) dX6_answer_32 rfl rfl ?_
      refine sx_geti (pc := 33) (ci := 6) (j := 0) dX6_answer_33 rfl s_Mo rfl (by decide) lf_X6_72 ?_
      refine sx_if_le (pc := 36) (tgt := 43) dX6_answer_36 (by decide) (fun c_36 => absurd c_36 (by subst hμ4; simp [xup_at])) (fun c_36 => ?_)
      refine sx_iconst (pc := 39) (v := 0) dX6_answer_39 (by decide) ?_
      refine sx_goto (pc := 40) (tgt := 54) dX6_answer_40 (by decide) ?_
      exact sx_iret (pc := 54) dX6_answer_54 rfl rfl (Nat.zero_le _) (Nat.zero_le _) (⟨rfl, by subst hμ4; simp [xup_at], rfl⟩)
    · have h_21f := c_21
      have z := dq_t hx_18 h_21f; rw [hf.2.2.2.2.2.1] at z; exact absurd (Int32.le_trans z.1 z.2) (by decide)
