/-! the reference: what stays -/
def MS (S : Nat → Prop) (μ μ' : xM) : Prop := (∀ a, ¬ S a → μ' a = μ a) ∧ μ' 95 22 = μ 95 22
theorem MS.rf {S : Nat → Prop} {μ : xM} : MS S μ μ := ⟨fun _ _ => rfl, rfl⟩
theorem MS.trans {S S' : Nat → Prop} {μ μ1 μ2 : xM} (h : MS S μ μ1) (h' : MS S' μ1 μ2) (hs : ∀ a, S' a → S a) : MS S μ μ2 := ⟨fun a ha => (h'.1 a (fun z => ha (hs a z))).trans (h.1 a ha), h'.2.trans h.2⟩
theorem MS.put {S : Nat → Prop} {μ μ1 μ2 : xM} {k j : Nat} {v : Int32} (h : MS S μ μ1) (e : μ2 = xup μ1 k j v) (hs : S k) (hj : k ≠ 95 ∨ j ≠ 22) : MS S μ μ2 := by
  refine ⟨fun a ha => ?_, ?_⟩
  · rw [← h.1 a ha, e]
    funext b
    have hn : ¬ (a = k ∧ b = j) := fun q => ha (by rw [q.1]; exact hs)
    rw [xup_at, if_neg hn]
  · rw [e, xup_at, if_neg (by omega)]
    exact h.2
theorem lt_of_le (x : Int32) (n : Nat) (hn : n + 1 < 2 ^ 31) : x ≤ nI n ↔ x < nI (n + 1) := by
  rw [Int32.le_iff_toInt_le, Int32.lt_iff_toInt_lt, nI_toInt (by omega), nI_toInt hn]
  omega
theorem dev_k {dev : Int32} (hb : 0 ≤ dev ∧ dev < 6) : ∃ k : Nat, k < 6 ∧ dev = nI k := vp_in_of (vp_in_lt (n := 6) hb.1 hb.2 (by decide)) (by decide)
theorem ix_mul {dev : Int32} (hb : 0 ≤ dev ∧ dev < 6) (c t n : Nat) (h : ∀ k, k < 6 → c * k + t < n) (hc : c < 2 ^ 20) (hn : n < 2 ^ 31) : vp_in (nI c * dev + nI t) n := by
  obtain ⟨k, hk, rfl⟩ := dev_k hb
  rw [pk_mul, nI_add]
  exact vp_in_nI (h k hk) hn
theorem inB {x v : Int32} (n : Nat) (hn : n + 1 < 2 ^ 31) (h : (x = 1 ∧ 0 ≤ v ∧ v ≤ nI n) ∨ (x = 0 ∧ ¬ (0 ≤ v ∧ v ≤ nI n))) : (x = 1 ∧ 0 ≤ v ∧ v < nI (n + 1)) ∨ (x = 0 ∧ ¬ (0 ≤ v ∧ v < nI (n + 1))) := by
  rw [← lt_of_le v n hn]; exact h
abbrev S95 : Nat → Prop := fun a => a = 95
set_option maxHeartbeats 1000000 in
set_option maxRecDepth 20000 in
theorem c_in (X : xD) (Ex : State → Prop) (fr : Bool) (sh : List xS) (μ : xM) (v lo hi : Int32) : Ct X Ex fr yX6_in kX6_in (rmN 0) [.int v, .int lo, .int hi] sh μ (fun r sh' μ' => sh = sh' ∧ μ = μ' ∧ ∃ x : Int32, r = some (.int x) ∧ ((x = 1 ∧ lo ≤ v ∧ v ≤ hi) ∨ (x = 0 ∧ ¬ (lo ≤ v ∧ v ≤ hi)))) := by
  refine Ct.of (L0 := [some (.int v), some (.int lo), some (.int hi)]) (by decide) rfl (fun h => by cases h) (by simp [Value.category]) (Nat.le_of_ble_eq_true rfl) rfl (fun l => ?_)
  refine sx_iload_n (pc := 0) dX6_in_0 rfl rfl ?_
  refine sx_iload_n (pc := 1) dX6_in_1 rfl rfl ?_
  refine sx_icmp_lt (pc := 2) (tgt := 14) dX6_in_2 (by decide) (fun c_2 => ?_) (fun c_2 => ?_)
  · have h_2t := c_2
    refine sx_iconst (pc := 14) (v := 0) dX6_in_14 (by decide) ?_
    exact sx_iret (pc := 15) dX6_in_15 rfl rfl (Nat.zero_le _) (Nat.zero_le _) (by refine ⟨rfl, rfl, _, rfl, ?_⟩; first | (left; exact ⟨rfl, Int32.not_lt.mp h_2f, Int32.not_lt.mp h_7f⟩) | (right; refine ⟨rfl, fun q => ?_⟩; first | exact absurd h_2t (Int32.not_lt.mpr q.1) | exact absurd h_7t (Int32.not_lt.mpr q.2)))
  · have h_2f := c_2
    refine sx_iload_n (pc := 5) dX6_in_5 rfl rfl ?_
    refine sx_iload_n (pc := 6) dX6_in_6 rfl rfl ?_
    refine sx_icmp_gt (pc := 7) (tgt := 14) dX6_in_7 (by decide) (fun c_7 => ?_) (fun c_7 => ?_)
    · have h_7t := c_7
      refine sx_iconst (pc := 14) (v := 0) dX6_in_14 (by decide) ?_
      exact sx_iret (pc := 15) dX6_in_15 rfl rfl (Nat.zero_le _) (Nat.zero_le _) (by refine ⟨rfl, rfl, _, rfl, ?_⟩; first | (left; exact ⟨rfl, Int32.not_lt.mp h_2f, Int32.not_lt.mp h_7f⟩) | (right; refine ⟨rfl, fun q => ?_⟩; first | exact absurd h_2t (Int32.not_lt.mpr q.1) | exact absurd h_7t (Int32.not_lt.mpr q.2)))
    · have h_7f := c_7
      refine sx_iconst (pc := 10) (v := 1) dX6_in_10 (by decide) ?_
      refine sx_goto (pc := 11) (tgt := 15) dX6_in_11 (by decide) ?_
      exact sx_iret (pc := 15) dX6_in_15 rfl rfl (Nat.zero_le _) (Nat.zero_le _) (by refine ⟨rfl, rfl, _, rfl, ?_⟩; first | (left; exact ⟨rfl, Int32.not_lt.mp h_2f, Int32.not_lt.mp h_7f⟩) | (right; refine ⟨rfl, fun q => ?_⟩; first | exact absurd h_2t (Int32.not_lt.mpr q.1) | exact absurd h_7t (Int32.not_lt.mpr q.2)))
set_option maxHeartbeats 1000000 in
set_option maxRecDepth 20000 in
theorem c_isDevice (X : xD) (Ex : State → Prop) (hE : xEs X false shA.length Ex) (μ : xM) (v : Int32) : Ct X Ex false yX6_isDevice kX6_isDevice (rmN 1) [.int v] shA μ (fun r sh' μ' => shA = sh' ∧ μ = μ' ∧ ∃ x : Int32, r = some (.int x) ∧ ((x = 1 ∧ 0 ≤ v ∧ v < 6) ∨ (x = 0 ∧ ¬ (0 ≤ v ∧ v < 6)))) := by
  refine Ct.of (L0 := [some (.int v)]) (by decide) rfl (fun h => by cases h) (by simp [Value.category]) (Nat.le_of_ble_eq_true rfl) rfl (fun l => ?_)
  refine sx_iload_n (pc := 0) dX6_isDevice_0 rfl rfl ?_
  refine sx_iconst (pc := 1) (v := 0) dX6_isDevice_1 (by decide) ?_
  refine sx_iconst (pc := 2) (v := 5) dX6_isDevice_2 (by decide) ?_
  refine sx_callS (pc := 3) (As := [.int v, .int 0, .int 5]) dX6_isDevice_3 (c_in X Ex false shA μ _ 0 5) mX6_in lm_X6_76 rfl ⟨Nat.le_of_ble_eq_true rfl, Nat.le_of_ble_eq_true rfl⟩ ⟨Nat.le_of_ble_eq_true rfl, Nat.le_of_ble_eq_true rfl⟩ (Nat.le_of_ble_eq_true rfl) hE (fun r_3 sh1 μ1 h_3 => ?_)
  obtain ⟨rfl, rfl, x_3, rfl, zx_3⟩ := h_3
  have hx_3 := inB 5 (by decide) zx_3
  exact sx_iret (pc := 6) dX6_isDevice_6 rfl (bool_n (dq_b hx_3)) (Nat.zero_le _) (Nat.zero_le _) (⟨rfl, rfl, _, rfl, hx_3⟩)
set_option maxHeartbeats 1000000 in
set_option maxRecDepth 20000 in
theorem c_digit (X : xD) (Ex : State → Prop) (fr : Bool) (sh : List xS) (μ : xM) (v : Int32) : Ct X Ex fr yX6_digit kX6_digit (rmN 0) [.int v] sh μ (fun r sh' μ' => sh = sh' ∧ μ = μ' ∧ ∃ x : Int32, r = some (.int x)) := by
  refine Ct.of (L0 := [some (.int v)]) (by decide) rfl (fun h => by cases h) (by simp [Value.category]) (Nat.le_of_ble_eq_true rfl) rfl (fun l => ?_)
  refine sx_iload_n (pc := 0) dX6_digit_0 rfl rfl ?_
  refine sx_bipush (pc := 1) (v := 10) dX6_digit_1 (by decide) ?_
  refine sx_icmp_ge (pc := 3) (tgt := 13) dX6_digit_3 (by decide) (fun c_3 => ?_) (fun c_3 => ?_)
  · have h_3t := c_3
    refine sx_bipush (pc := 13) (v := 65) dX6_digit_13 (by decide) ?_
    refine sx_iload_n (pc := 15) dX6_digit_15 rfl rfl ?_
    refine sx_iadd (pc := 16) dX6_digit_16 ?_
    refine sx_bipush (pc := 17) (v := 10) dX6_digit_17 (by decide) ?_
    refine sx_isub (pc := 19) dX6_digit_19 ?_
    exact sx_iret (pc := 20) dX6_digit_20 rfl rfl (Nat.zero_le _) (Nat.zero_le _) (⟨rfl, rfl, _, rfl⟩)
  · have h_3f := c_3
    refine sx_bipush (pc := 6) (v := 48) dX6_digit_6 (by decide) ?_
    refine sx_iload_n (pc := 8) dX6_digit_8 rfl rfl ?_
    refine sx_iadd (pc := 9) dX6_digit_9 ?_
    refine sx_goto (pc := 10) (tgt := 20) dX6_digit_10 (by decide) ?_
    exact sx_iret (pc := 20) dX6_digit_20 rfl rfl (Nat.zero_le _) (Nat.zero_le _) (⟨rfl, rfl, _, rfl⟩)
set_option maxHeartbeats 1000000 in
set_option maxRecDepth 20000 in
theorem c_hex (X : xD) (Ex : State → Prop) (hE : xEs X false shA.length Ex) (μ : xM) (v : Int32) : Ct X Ex false yX6_hex kX6_hex (rmN 1) [.int v] shA μ (fun r sh' μ' => shA = sh' ∧ μ = μ' ∧ r = some (.int (hv v))) := by
  refine Ct.of (L0 := [some (.int v)]) (by decide) rfl (fun h => by cases h) (by simp [Value.category]) (Nat.le_of_ble_eq_true rfl) rfl (fun l => ?_)
  refine sx_iload_n (pc := 0) dX6_hex_0 rfl rfl ?_
  refine sx_bipush (pc := 1) (v := 48) dX6_hex_1 (by decide) ?_
  refine sx_bipush (pc := 3) (v := 57) dX6_hex_3 (by decide) ?_
  refine sx_callS (pc := 5) (As := [.int v, .int 48, .int 57]) dX6_hex_5 (c_in X Ex false shA μ _ _ _) mX6_in lm_X6_76 rfl ⟨Nat.le_of_ble_eq_true rfl, Nat.le_of_ble_eq_true rfl⟩ ⟨Nat.le_of_ble_eq_true rfl, Nat.le_of_ble_eq_true rfl⟩ (Nat.le_of_ble_eq_true rfl) hE (fun r_5 sh1 μ1 h_5 => ?_)
  obtain ⟨rfl, rfl, x_5, rfl, hx_5⟩ := h_5
  refine sx_if_eq (pc := 8) (tgt := 18) dX6_hex_8 (by decide) (fun c_8 => ?_) (fun c_8 => ?_)
  · have h_8t := c_8
    refine sx_iload_n (pc := 18) dX6_hex_18 rfl rfl ?_
    refine sx_bipush (pc := 19) (v := 65) dX6_hex_19 (by decide) ?_
    refine sx_bipush (pc := 21) (v := 70) dX6_hex_21 (by decide) ?_
    refine sx_callS (pc := 23) (As := [.int v, .int 65, .int 70]) dX6_hex_23 (c_in X Ex false shA μ _ _ _) mX6_in lm_X6_76 rfl ⟨Nat.le_of_ble_eq_true rfl, Nat.le_of_ble_eq_true rfl⟩ ⟨Nat.le_of_ble_eq_true rfl, Nat.le_of_ble_eq_true rfl⟩ (Nat.le_of_ble_eq_true rfl) hE (fun r_23 sh1 μ2 h_23 => ?_)
    obtain ⟨rfl, rfl, x_23, rfl, hx_23⟩ := h_23
    refine sx_if_eq (pc := 26) (tgt := 39) dX6_hex_26 (by decide) (fun c_26 => ?_) (fun c_26 => ?_)
    · have h_26t := c_26
      refine sx_sipush (pc := 39) (v := (-1000)) dX6_hex_39 (by decide) ?_
      exact sx_iret (pc := 42) dX6_hex_42 rfl rfl (Nat.zero_le _) (Nat.zero_le _) (⟨rfl, rfl, by first | rw [hv, if_pos (dq_t hx_5 h_8f)] | rw [hv, if_neg (dq_f hx_5 h_8t), if_pos (dq_t hx_23 h_26f)] | rw [hv, if_neg (dq_f hx_5 h_8t), if_neg (dq_f hx_23 h_26t)]⟩)
    · have h_26f := c_26
      refine sx_iload_n (pc := 29) dX6_hex_29 rfl rfl ?_
      refine sx_bipush (pc := 30) (v := 65) dX6_hex_30 (by decide) ?_
      refine sx_isub (pc := 32) dX6_hex_32 ?_
      refine sx_bipush (pc := 33) (v := 10) dX6_hex_33 (by decide) ?_
      refine sx_iadd (pc := 35) dX6_hex_35 ?_
      refine sx_goto (pc := 36) (tgt := 42) dX6_hex_36 (by decide) ?_
      exact sx_iret (pc := 42) dX6_hex_42 rfl rfl (Nat.zero_le _) (Nat.zero_le _) (⟨rfl, rfl, by first | rw [hv, if_pos (dq_t hx_5 h_8f)] | rw [hv, if_neg (dq_f hx_5 h_8t), if_pos (dq_t hx_23 h_26f)] | rw [hv, if_neg (dq_f hx_5 h_8t), if_neg (dq_f hx_23 h_26t)]⟩)
  · have h_8f := c_8
    refine sx_iload_n (pc := 11) dX6_hex_11 rfl rfl ?_
    refine sx_bipush (pc := 12) (v := 48) dX6_hex_12 (by decide) ?_
    refine sx_isub (pc := 14) dX6_hex_14 ?_
    refine sx_goto (pc := 15) (tgt := 42) dX6_hex_15 (by decide) ?_
    exact sx_iret (pc := 42) dX6_hex_42 rfl rfl (Nat.zero_le _) (Nat.zero_le _) (⟨rfl, rfl, by first | rw [hv, if_pos (dq_t hx_5 h_8f)] | rw [hv, if_neg (dq_f hx_5 h_8t), if_pos (dq_t hx_23 h_26f)] | rw [hv, if_neg (dq_f hx_5 h_8t), if_neg (dq_f hx_23 h_26t)]⟩)
set_option maxHeartbeats 1000000 in
set_option maxRecDepth 20000 in
theorem c_hasPerson (X : xD) (Ex : State → Prop) (fr : Bool) (sh : List xS) (μ : xM) (v : Int32) : Ct X Ex fr yX6_hasPerson kX6_hasPerson (rmN 0) [.int v] sh μ (fun r sh' μ' => sh = sh' ∧ μ = μ' ∧ ∃ x : Int32, r = some (.int x) ∧ ((x = 1 ∧ (v = 67 ∨ v = 80 ∨ v = 70 ∨ v = 72 ∨ v = 82)) ∨ (x = 0 ∧ ¬ (v = 67 ∨ v = 80 ∨ v = 70 ∨ v = 72 ∨ v = 82)))) := by
  refine Ct.of (L0 := [some (.int v)]) (by decide) rfl (fun h => by cases h) (by simp [Value.category]) (Nat.le_of_ble_eq_true rfl) rfl (fun l => ?_)
  refine sx_iload_n (pc := 0) dX6_hasPerson_0 rfl rfl ?_
  refine sx_bipush (pc := 1) (v := 67) dX6_hasPerson_1 (by decide) ?_
  refine sx_icmp_eq (pc := 3) (tgt := 30) dX6_hasPerson_3 (by decide) (fun c_3 => ?_) (fun c_3 => ?_)
  · have h_3t := c_3
    refine sx_iconst (pc := 30) (v := 1) dX6_hasPerson_30 (by decide) ?_
    refine sx_goto (pc := 31) (tgt := 35) dX6_hasPerson_31 (by decide) ?_
    exact sx_iret (pc := 35) dX6_hasPerson_35 rfl rfl (Nat.zero_le _) (Nat.zero_le _) (⟨rfl, rfl, _, rfl, by first | (left; exact ⟨rfl, by simp_all⟩) | (right; exact ⟨rfl, by simp_all⟩)⟩)
  · have h_3f := c_3
    refine sx_iload_n (pc := 6) dX6_hasPerson_6 rfl rfl ?_
    refine sx_bipush (pc := 7) (v := 80) dX6_hasPerson_7 (by decide) ?_
    refine sx_icmp_eq (pc := 9) (tgt := 30) dX6_hasPerson_9 (by decide) (fun c_9 => ?_) (fun c_9 => ?_)
    · have h_9t := c_9
      refine sx_iconst (pc := 30) (v := 1) dX6_hasPerson_30 (by decide) ?_
      refine sx_goto (pc := 31) (tgt := 35) dX6_hasPerson_31 (by decide) ?_
      exact sx_iret (pc := 35) dX6_hasPerson_35 rfl rfl (Nat.zero_le _) (Nat.zero_le _) (⟨rfl, rfl, _, rfl, by first | (left; exact ⟨rfl, by simp_all⟩) | (right; exact ⟨rfl, by simp_all⟩)⟩)
    · have h_9f := c_9
      refine sx_iload_n (pc := 12) dX6_hasPerson_12 rfl rfl ?_
      refine sx_bipush (pc := 13) (v := 70) dX6_hasPerson_13 (by decide) ?_
      refine sx_icmp_eq (pc := 15) (tgt := 30) dX6_hasPerson_15 (by decide) (fun c_15 => ?_) (fun c_15 => ?_)
      · have h_15t := c_15
        refine sx_iconst (pc := 30) (v := 1) dX6_hasPerson_30 (by decide) ?_
        refine sx_goto (pc := 31) (tgt := 35) dX6_hasPerson_31 (by decide) ?_
        exact sx_iret (pc := 35) dX6_hasPerson_35 rfl rfl (Nat.zero_le _) (Nat.zero_le _) (⟨rfl, rfl, _, rfl, by first | (left; exact ⟨rfl, by simp_all⟩) | (right; exact ⟨rfl, by simp_all⟩)⟩)
      · have h_15f := c_15
        refine sx_iload_n (pc := 18) dX6_hasPerson_18 rfl rfl ?_
        refine sx_bipush (pc := 19) (v := 72) dX6_hasPerson_19 (by decide) ?_
        refine sx_icmp_eq (pc := 21) (tgt := 30) dX6_hasPerson_21 (by decide) (fun c_21 => ?_) (fun c_21 => ?_)
        · have h_21t := c_21
          refine sx_iconst (pc := 30) (v := 1) dX6_hasPerson_30 (by decide) ?_
          refine sx_goto (pc := 31) (tgt := 35) dX6_hasPerson_31 (by decide) ?_
          exact sx_iret (pc := 35) dX6_hasPerson_35 rfl rfl (Nat.zero_le _) (Nat.zero_le _) (⟨rfl, rfl, _, rfl, by first | (left; exact ⟨rfl, by simp_all⟩) | (right; exact ⟨rfl, by simp_all⟩)⟩)
        · have h_21f := c_21
          refine sx_iload_n (pc := 24) dX6_hasPerson_24 rfl rfl ?_
          refine sx_bipush (pc := 25) (v := 82) dX6_hasPerson_25 (by decide) ?_
          refine sx_icmp_ne (pc := 27) (tgt := 34) dX6_hasPerson_27 (by decide) (fun c_27 => ?_) (fun c_27 => ?_)
          · have h_27t := c_27
            refine sx_iconst (pc := 34) (v := 0) dX6_hasPerson_34 (by decide) ?_
            exact sx_iret (pc := 35) dX6_hasPerson_35 rfl rfl (Nat.zero_le _) (Nat.zero_le _) (⟨rfl, rfl, _, rfl, by first | (left; exact ⟨rfl, by simp_all⟩) | (right; exact ⟨rfl, by simp_all⟩)⟩)
          · have h_27f := c_27
            refine sx_iconst (pc := 30) (v := 1) dX6_hasPerson_30 (by decide) ?_
            refine sx_goto (pc := 31) (tgt := 35) dX6_hasPerson_31 (by decide) ?_
            exact sx_iret (pc := 35) dX6_hasPerson_35 rfl rfl (Nat.zero_le _) (Nat.zero_le _) (⟨rfl, rfl, _, rfl, by first | (left; exact ⟨rfl, by simp_all⟩) | (right; exact ⟨rfl, by simp_all⟩)⟩)
set_option maxHeartbeats 1000000 in
set_option maxRecDepth 20000 in
theorem c_hasItem (X : xD) (Ex : State → Prop) (fr : Bool) (sh : List xS) (μ : xM) (v : Int32) : Ct X Ex fr yX6_hasItem kX6_hasItem (rmN 0) [.int v] sh μ (fun r sh' μ' => sh = sh' ∧ μ = μ' ∧ ∃ x : Int32, r = some (.int x) ∧ ((x = 1 ∧ (v = 67 ∨ v = 66 ∨ v = 73 ∨ v = 72 ∨ v = 82)) ∨ (x = 0 ∧ ¬ (v = 67 ∨ v = 66 ∨ v = 73 ∨ v = 72 ∨ v = 82)))) := by
  refine Ct.of (L0 := [some (.int v)]) (by decide) rfl (fun h => by cases h) (by simp [Value.category]) (Nat.le_of_ble_eq_true rfl) rfl (fun l => ?_)
  refine sx_iload_n (pc := 0) dX6_hasItem_0 rfl rfl ?_
  refine sx_bipush (pc := 1) (v := 67) dX6_hasItem_1 (by decide) ?_
  refine sx_icmp_eq (pc := 3) (tgt := 30) dX6_hasItem_3 (by decide) (fun c_3 => ?_) (fun c_3 => ?_)
  · have h_3t := c_3
    refine sx_iconst (pc := 30) (v := 1) dX6_hasItem_30 (by decide) ?_
    refine sx_goto (pc := 31) (tgt := 35) dX6_hasItem_31 (by decide) ?_
    exact sx_iret (pc := 35) dX6_hasItem_35 rfl rfl (Nat.zero_le _) (Nat.zero_le _) (⟨rfl, rfl, _, rfl, by first | (left; exact ⟨rfl, by simp_all⟩) | (right; exact ⟨rfl, by simp_all⟩)⟩)
  · have h_3f := c_3
    refine sx_iload_n (pc := 6) dX6_hasItem_6 rfl rfl ?_
    refine sx_bipush (pc := 7) (v := 66) dX6_hasItem_7 (by decide) ?_
    refine sx_icmp_eq (pc := 9) (tgt := 30) dX6_hasItem_9 (by decide) (fun c_9 => ?_) (fun c_9 => ?_)
    · have h_9t := c_9
      refine sx_iconst (pc := 30) (v := 1) dX6_hasItem_30 (by decide) ?_
      refine sx_goto (pc := 31) (tgt := 35) dX6_hasItem_31 (by decide) ?_
      exact sx_iret (pc := 35) dX6_hasItem_35 rfl rfl (Nat.zero_le _) (Nat.zero_le _) (⟨rfl, rfl, _, rfl, by first | (left; exact ⟨rfl, by simp_all⟩) | (right; exact ⟨rfl, by simp_all⟩)⟩)
    · have h_9f := c_9
      refine sx_iload_n (pc := 12) dX6_hasItem_12 rfl rfl ?_
      refine sx_bipush (pc := 13) (v := 73) dX6_hasItem_13 (by decide) ?_
      refine sx_icmp_eq (pc := 15) (tgt := 30) dX6_hasItem_15 (by decide) (fun c_15 => ?_) (fun c_15 => ?_)
      · have h_15t := c_15
        refine sx_iconst (pc := 30) (v := 1) dX6_hasItem_30 (by decide) ?_
        refine sx_goto (pc := 31) (tgt := 35) dX6_hasItem_31 (by decide) ?_
        exact sx_iret (pc := 35) dX6_hasItem_35 rfl rfl (Nat.zero_le _) (Nat.zero_le _) (⟨rfl, rfl, _, rfl, by first | (left; exact ⟨rfl, by simp_all⟩) | (right; exact ⟨rfl, by simp_all⟩)⟩)
      · have h_15f := c_15
        refine sx_iload_n (pc := 18) dX6_hasItem_18 rfl rfl ?_
        refine sx_bipush (pc := 19) (v := 72) dX6_hasItem_19 (by decide) ?_
        refine sx_icmp_eq (pc := 21) (tgt := 30) dX6_hasItem_21 (by decide) (fun c_21 => ?_) (fun c_21 => ?_)
        · have h_21t := c_21
          refine sx_iconst (pc := 30) (v := 1) dX6_hasItem_30 (by decide) ?_
          refine sx_goto (pc := 31) (tgt := 35) dX6_hasItem_31 (by decide) ?_
          exact sx_iret (pc := 35) dX6_hasItem_35 rfl rfl (Nat.zero_le _) (Nat.zero_le _) (⟨rfl, rfl, _, rfl, by first | (left; exact ⟨rfl, by simp_all⟩) | (right; exact ⟨rfl, by simp_all⟩)⟩)
        · have h_21f := c_21
          refine sx_iload_n (pc := 24) dX6_hasItem_24 rfl rfl ?_
          refine sx_bipush (pc := 25) (v := 82) dX6_hasItem_25 (by decide) ?_
          refine sx_icmp_ne (pc := 27) (tgt := 34) dX6_hasItem_27 (by decide) (fun c_27 => ?_) (fun c_27 => ?_)
          · have h_27t := c_27
            refine sx_iconst (pc := 34) (v := 0) dX6_hasItem_34 (by decide) ?_
            exact sx_iret (pc := 35) dX6_hasItem_35 rfl rfl (Nat.zero_le _) (Nat.zero_le _) (⟨rfl, rfl, _, rfl, by first | (left; exact ⟨rfl, by simp_all⟩) | (right; exact ⟨rfl, by simp_all⟩)⟩)
          · have h_27f := c_27
            refine sx_iconst (pc := 30) (v := 1) dX6_hasItem_30 (by decide) ?_
            refine sx_goto (pc := 31) (tgt := 35) dX6_hasItem_31 (by decide) ?_
            exact sx_iret (pc := 35) dX6_hasItem_35 rfl rfl (Nat.zero_le _) (Nat.zero_le _) (⟨rfl, rfl, _, rfl, by first | (left; exact ⟨rfl, by simp_all⟩) | (right; exact ⟨rfl, by simp_all⟩)⟩)
set_option maxHeartbeats 1000000 in
set_option maxRecDepth 20000 in
theorem c_isKind (X : xD) (Ex : State → Prop) (fr : Bool) (sh : List xS) (μ : xM) (v : Int32) : Ct X Ex fr yX6_isKind kX6_isKind (rmN 0) [.int v] sh μ (fun r sh' μ' => sh = sh' ∧ μ = μ' ∧ ∃ x : Int32, r = some (.int x) ∧ ((x = 1 ∧ (v = 83 ∨ v = 67 ∨ v = 66 ∨ v = 80 ∨ v = 73 ∨ v = 70 ∨ v = 72 ∨ v = 82 ∨ v = 81)) ∨ (x = 0 ∧ ¬ (v = 83 ∨ v = 67 ∨ v = 66 ∨ v = 80 ∨ v = 73 ∨ v = 70 ∨ v = 72 ∨ v = 82 ∨ v = 81)))) := by
  refine Ct.of (L0 := [some (.int v)]) (by decide) rfl (fun h => by cases h) (by simp [Value.category]) (Nat.le_of_ble_eq_true rfl) rfl (fun l => ?_)
  refine sx_iload_n (pc := 0) dX6_isKind_0 rfl rfl ?_
  refine sx_bipush (pc := 1) (v := 83) dX6_isKind_1 (by decide) ?_
  refine sx_icmp_eq (pc := 3) (tgt := 54) dX6_isKind_3 (by decide) (fun c_3 => ?_) (fun c_3 => ?_)
  · have h_3t := c_3
    refine sx_iconst (pc := 54) (v := 1) dX6_isKind_54 (by decide) ?_
    refine sx_goto (pc := 55) (tgt := 59) dX6_isKind_55 (by decide) ?_
    exact sx_iret (pc := 59) dX6_isKind_59 rfl rfl (Nat.zero_le _) (Nat.zero_le _) (⟨rfl, rfl, _, rfl, by first | (left; exact ⟨rfl, by simp_all⟩) | (right; exact ⟨rfl, by simp_all⟩)⟩)
  · have h_3f := c_3
    refine sx_iload_n (pc := 6) dX6_isKind_6 rfl rfl ?_
    refine sx_bipush (pc := 7) (v := 67) dX6_isKind_7 (by decide) ?_
    refine sx_icmp_eq (pc := 9) (tgt := 54) dX6_isKind_9 (by decide) (fun c_9 => ?_) (fun c_9 => ?_)
    · have h_9t := c_9
      refine sx_iconst (pc := 54) (v := 1) dX6_isKind_54 (by decide) ?_
      refine sx_goto (pc := 55) (tgt := 59) dX6_isKind_55 (by decide) ?_
      exact sx_iret (pc := 59) dX6_isKind_59 rfl rfl (Nat.zero_le _) (Nat.zero_le _) (⟨rfl, rfl, _, rfl, by first | (left; exact ⟨rfl, by simp_all⟩) | (right; exact ⟨rfl, by simp_all⟩)⟩)
    · have h_9f := c_9
      refine sx_iload_n (pc := 12) dX6_isKind_12 rfl rfl ?_
      refine sx_bipush (pc := 13) (v := 66) dX6_isKind_13 (by decide) ?_
      refine sx_icmp_eq (pc := 15) (tgt := 54) dX6_isKind_15 (by decide) (fun c_15 => ?_) (fun c_15 => ?_)
      · have h_15t := c_15
        refine sx_iconst (pc := 54) (v := 1) dX6_isKind_54 (by decide) ?_
        refine sx_goto (pc := 55) (tgt := 59) dX6_isKind_55 (by decide) ?_
        exact sx_iret (pc := 59) dX6_isKind_59 rfl rfl (Nat.zero_le _) (Nat.zero_le _) (⟨rfl, rfl, _, rfl, by first | (left; exact ⟨rfl, by simp_all⟩) | (right; exact ⟨rfl, by simp_all⟩)⟩)
      · have h_15f := c_15
        refine sx_iload_n (pc := 18) dX6_isKind_18 rfl rfl ?_
        refine sx_bipush (pc := 19) (v := 80) dX6_isKind_19 (by decide) ?_
        refine sx_icmp_eq (pc := 21) (tgt := 54) dX6_isKind_21 (by decide) (fun c_21 => ?_) (fun c_21 => ?_)
        · have h_21t := c_21
          refine sx_iconst (pc := 54) (v := 1) dX6_isKind_54 (by decide) ?_
          refine sx_goto (pc := 55) (tgt := 59) dX6_isKind_55 (by decide) ?_
          exact sx_iret (pc := 59) dX6_isKind_59 rfl rfl (Nat.zero_le _) (Nat.zero_le _) (⟨rfl, rfl, _, rfl, by first | (left; exact ⟨rfl, by simp_all⟩) | (right; exact ⟨rfl, by simp_all⟩)⟩)
        · have h_21f := c_21
          refine sx_iload_n (pc := 24) dX6_isKind_24 rfl rfl ?_
          refine sx_bipush (pc := 25) (v := 73) dX6_isKind_25 (by decide) ?_
          refine sx_icmp_eq (pc := 27) (tgt := 54) dX6_isKind_27 (by decide) (fun c_27 => ?_) (fun c_27 => ?_)
          · have h_27t := c_27
            refine sx_iconst (pc := 54) (v := 1) dX6_isKind_54 (by decide) ?_
            refine sx_goto (pc := 55) (tgt := 59) dX6_isKind_55 (by decide) ?_
            exact sx_iret (pc := 59) dX6_isKind_59 rfl rfl (Nat.zero_le _) (Nat.zero_le _) (⟨rfl, rfl, _, rfl, by first | (left; exact ⟨rfl, by simp_all⟩) | (right; exact ⟨rfl, by simp_all⟩)⟩)
          · have h_27f := c_27
            refine sx_iload_n (pc := 30) dX6_isKind_30 rfl rfl ?_
            refine sx_bipush (pc := 31) (v := 70) dX6_isKind_31 (by decide) ?_
            refine sx_icmp_eq (pc := 33) (tgt := 54) dX6_isKind_33 (by decide) (fun c_33 => ?_) (fun c_33 => ?_)
            · have h_33t := c_33
              refine sx_iconst (pc := 54) (v := 1) dX6_isKind_54 (by decide) ?_
              refine sx_goto (pc := 55) (tgt := 59) dX6_isKind_55 (by decide) ?_
              exact sx_iret (pc := 59) dX6_isKind_59 rfl rfl (Nat.zero_le _) (Nat.zero_le _) (⟨rfl, rfl, _, rfl, by first | (left; exact ⟨rfl, by simp_all⟩) | (right; exact ⟨rfl, by simp_all⟩)⟩)
            · have h_33f := c_33
              refine sx_iload_n (pc := 36) dX6_isKind_36 rfl rfl ?_
              refine sx_bipush (pc := 37) (v := 72) dX6_isKind_37 (by decide) ?_
              refine sx_icmp_eq (pc := 39) (tgt := 54) dX6_isKind_39 (by decide) (fun c_39 => ?_) (fun c_39 => ?_)
              · have h_39t := c_39
                refine sx_iconst (pc := 54) (v := 1) dX6_isKind_54 (by decide) ?_
                refine sx_goto (pc := 55) (tgt := 59) dX6_isKind_55 (by decide) ?_
                exact sx_iret (pc := 59) dX6_isKind_59 rfl rfl (Nat.zero_le _) (Nat.zero_le _) (⟨rfl, rfl, _, rfl, by first | (left; exact ⟨rfl, by simp_all⟩) | (right; exact ⟨rfl, by simp_all⟩)⟩)
              · have h_39f := c_39
                refine sx_iload_n (pc := 42) dX6_isKind_42 rfl rfl ?_
                refine sx_bipush (pc := 43) (v := 82) dX6_isKind_43 (by decide) ?_
                refine sx_icmp_eq (pc := 45) (tgt := 54) dX6_isKind_45 (by decide) (fun c_45 => ?_) (fun c_45 => ?_)
                · have h_45t := c_45
                  refine sx_iconst (pc := 54) (v := 1) dX6_isKind_54 (by decide) ?_
                  refine sx_goto (pc := 55) (tgt := 59) dX6_isKind_55 (by decide) ?_
                  exact sx_iret (pc := 59) dX6_isKind_59 rfl rfl (Nat.zero_le _) (Nat.zero_le _) (⟨rfl, rfl, _, rfl, by first | (left; exact ⟨rfl, by simp_all⟩) | (right; exact ⟨rfl, by simp_all⟩)⟩)
                · have h_45f := c_45
                  refine sx_iload_n (pc := 48) dX6_isKind_48 rfl rfl ?_
                  refine sx_bipush (pc := 49) (v := 81) dX6_isKind_49 (by decide) ?_
                  refine sx_icmp_ne (pc := 51) (tgt := 58) dX6_isKind_51 (by decide) (fun c_51 => ?_) (fun c_51 => ?_)
                  · have h_51t := c_51
                    refine sx_iconst (pc := 58) (v := 0) dX6_isKind_58 (by decide) ?_
                    exact sx_iret (pc := 59) dX6_isKind_59 rfl rfl (Nat.zero_le _) (Nat.zero_le _) (⟨rfl, rfl, _, rfl, by first | (left; exact ⟨rfl, by simp_all⟩) | (right; exact ⟨rfl, by simp_all⟩)⟩)
                  · have h_51f := c_51
                    refine sx_iconst (pc := 54) (v := 1) dX6_isKind_54 (by decide) ?_
                    refine sx_goto (pc := 55) (tgt := 59) dX6_isKind_55 (by decide) ?_
                    exact sx_iret (pc := 59) dX6_isKind_59 rfl rfl (Nat.zero_le _) (Nat.zero_le _) (⟨rfl, rfl, _, rfl, by first | (left; exact ⟨rfl, by simp_all⟩) | (right; exact ⟨rfl, by simp_all⟩)⟩)
def lk (f : Nat → Int32) (z a : Nat) : Int32 := if a < z then f a else (-1)
theorem lk_p {f : Nat → Int32} {z a : Nat} (h : a < z) : lk f z a = f a := if_pos h
theorem lk_e {f : Nat → Int32} {z a : Nat} {c : Int32} (h : lk f z a = c) (hc : c ≠ (-1)) : a < z ∧ f a = c := by
  unfold lk at h
  split at h
  · exact ⟨by assumption, h⟩
  · exact absurd h.symm hc
theorem lk_d {f : Nat → Int32} {z a : Nat} (h : dgt (lk f z a)) : a < z ∧ dgt (f a) := by
  unfold lk at h
  split at h
  · exact ⟨by assumption, h⟩
  · exact absurd h (by decide)
theorem lk_k {f : Nat → Int32} {z a : Nat} (h : KS (lk f z a)) : a < z ∧ KS (f a) := by
  unfold lk at h
  split at h
  · exact ⟨by assumption, h⟩
  · exact absurd h (by decide)
theorem ix_c {dev : Int32} (hb : 0 ≤ dev ∧ dev < 6) (c t : Nat) (hc : c < 2 ^ 20) (ht : t < 2 ^ 20) : (nI c * dev + nI t).toNatClampNeg = c * dev.toNatClampNeg + t := by
  obtain ⟨k, hk, rfl⟩ := dev_k hb
  rw [pk_mul, nI_add, nI_clamp (n := k) (by omega), nI_clamp]
  have : c * k ≤ c * 6 := Nat.mul_le_mul_left _ (by omega)
  omega
set_option maxHeartbeats 1000000 in
set_option maxRecDepth 20000 in
theorem c_look (X : xD) (Ex : State → Prop) (hE : xEs X false shA.length Ex) (μ : xM) (dev : Int32) (hb : 0 ≤ dev ∧ dev < 6) (a z : Nat) (ha : μ 95 23 = nI a) (ha2 : a < 1000) (hz : μ 96 dev.toNatClampNeg = nI z) (hz2 : z ≤ 60) {f : Nat → Int32} (hf : ∀ j, j < 60 → μ 97 (60 * dev.toNatClampNeg + j) &&& 255 = f j) : Ct X Ex false yX6_look kX6_look (rmN 0) [.ref (X.2 + 95), .int dev] shA μ (fun r sh' μ' => shA = sh' ∧ μ = μ' ∧ r = some (.int (lk f z a))) := by
  refine Ct.of (L0 := [some (.ref (X.2 + 95)), some (.int dev)]) (by decide) rfl (fun h => by cases h) (by simp [Value.category]) (Nat.le_of_ble_eq_true rfl) rfl (fun l => ?_)
  refine sx_aload_n (pc := 0) dX6_look_0 rfl rfl ?_
  refine sx_geti (pc := 1) (ci := 6) (j := 23) dX6_look_1 rfl s_Mo rfl (by decide) lf_X6_80 ?_
  rw [ha]
  refine sx_aload_n (pc := 4) dX6_look_4 rfl rfl ?_
  refine sx_getr (pc := 5) (ci := 6) (j := 1) (r := 96) dX6_look_5 rfl s_Mo rfl (by decide) lf_X6_7 ?_
  refine sx_iload_n (pc := 8) dX6_look_8 rfl rfl ?_
  refine sx_iald (pc := 9) dX6_look_9 s_M1 (by decide) rfl (vp_in_lt (n := 6) hb.1 hb.2 (by decide)) ?_
  rw [hz]
  refine sx_icmp_ge (pc := 10) (tgt := 34) dX6_look_10 (by decide) (fun c_10 => ?_) (fun c_10 => ?_)
  · have h_10t := c_10
    have hge : ¬ a < z := fun q => absurd (nI_lt q (by omega)) (Int32.not_lt.mpr h_10t)
    refine sx_iconst (pc := 34) (v := (-1)) dX6_look_34 (by decide) ?_
    exact sx_iret (pc := 35) dX6_look_35 rfl rfl (Nat.zero_le _) (Nat.zero_le _) (⟨rfl, rfl, by first | rw [lk, if_pos hlt] | rw [lk, if_neg hge]⟩)
  · have h_10f := c_10
    have hlt : a < z := Nat.lt_of_not_le fun q => h_10f (nI_le q (by omega))
    refine sx_aload_n (pc := 13) dX6_look_13 rfl rfl ?_
    refine sx_getr (pc := 14) (ci := 6) (j := 2) (r := 97) dX6_look_14 rfl s_Mo rfl (by decide) lf_X6_13 ?_
    refine sx_bipush (pc := 17) (v := 60) dX6_look_17 (by decide) ?_
    refine sx_iload_n (pc := 19) dX6_look_19 rfl rfl ?_
    refine sx_imul (pc := 20) dX6_look_20 ?_
    refine sx_aload_n (pc := 21) dX6_look_21 rfl rfl ?_
    refine sx_geti (pc := 22) (ci := 6) (j := 23) dX6_look_22 rfl s_Mo rfl (by decide) lf_X6_80 ?_
    rw [ha]
    refine sx_iadd (pc := 25) dX6_look_25 ?_
    refine sx_bald (pc := 26) dX6_look_26 s_M2 (by decide) rfl (ix_mul hb 60 a 360 (fun k hk => by omega) (by decide) (by decide)) ?_
    refine sx_sipush (pc := 27) (v := 255) dX6_look_27 (by decide) ?_
    refine sx_iand (pc := 30) dX6_look_30 ?_
    rw [show μ 97 (60 * dev + nI a).toNatClampNeg &&& 255 = f a by rw [show (60 * dev + nI a).toNatClampNeg = 60 * dev.toNatClampNeg + a from ix_c hb 60 a (by decide) (by omega)]; exact hf a (by omega)]
    refine sx_goto (pc := 31) (tgt := 35) dX6_look_31 (by decide) ?_
    exact sx_iret (pc := 35) dX6_look_35 rfl rfl (Nat.zero_le _) (Nat.zero_le _) (⟨rfl, rfl, by first | rw [lk, if_pos hlt] | rw [lk, if_neg hge]⟩)
