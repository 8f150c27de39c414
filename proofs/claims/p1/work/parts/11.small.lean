abbrev Ks (μ μ' : xM) : Prop := ∀ a, 95 ≤ a → μ' a = μ a
theorem Ks.rf {μ : xM} : Ks μ μ := fun _ _ => rfl
theorem Ks.trans {μ μ1 μ2 : xM} (h : Ks μ μ1) (h' : Ks μ1 μ2) : Ks μ μ2 := fun a ha => (h' a ha).trans (h a ha)
theorem Ks.put {μ μ1 μ2 : xM} {k j : Nat} {v : Int32} (h : Ks μ μ1) (h' : μ2 = xup μ1 k j v) (hk : k < 95) : Ks μ μ2 := fun a ha => by
  rw [h', ← h a ha]
  funext b
  rw [xup_at, if_neg (fun q => by omega)]
theorem vp_in_lt {x : Int32} {n : Nat} (h0 : 0 ≤ x) (h : x < nI n) (hn : n < 2 ^ 31) : vp_in x n := by
  rw [vp_in_iff]
  have h1 := Int32.le_iff_toInt_le.mp h0
  have h2 := Int32.lt_iff_toInt_lt.mp h
  rw [nI_toInt hn] at h2
  exact ⟨by simpa using h1, h2⟩
set_option maxHeartbeats 1000000 in
set_option maxRecDepth 20000 in
theorem c_isBelow (X : xD) (Ex : State → Prop) (fr : Bool) (sh : List xS) (μ : xM) (i b : Int32) : Ct X Ex fr yX5_isBelow kX5_isBelow (rmN 0) [.int i, .int b] sh μ (fun r sh' μ' => sh = sh' ∧ μ = μ' ∧ ∃ x : Int32, r = some (.int x) ∧ ((x = 1 ∧ 0 ≤ i ∧ i < b) ∨ (x = 0 ∧ ¬ (0 ≤ i ∧ i < b)))) := by
  refine Ct.of (L0 := [some (.int i), some (.int b)]) (by decide) rfl (fun h => by cases h) (by simp [Value.category]) (Nat.le_of_ble_eq_true rfl) rfl (fun l => ?_)
  refine sx_iload_n (pc := 0) dX5_isBelow_0 rfl rfl ?_
  refine sx_if_lt (pc := 1) (tgt := 13) dX5_isBelow_1 (by decide) (fun c_1 => ?_) (fun c_1 => ?_)
  · have h_1t := c_1
    refine sx_iconst (pc := 13) (v := 0) dX5_isBelow_13 (by decide) ?_
    exact sx_iret (pc := 14) dX5_isBelow_14 rfl rfl (Nat.zero_le _) (Nat.zero_le _) (by refine ⟨rfl, rfl, _, rfl, ?_⟩; first | (left; exact ⟨rfl, Int32.not_lt.mp h_1f, Int32.not_le.mp h_6f⟩) | (right; refine ⟨rfl, fun q => ?_⟩; first | exact absurd h_1t (Int32.not_lt.mpr q.1) | exact absurd q.2 (Int32.not_lt.mpr h_6t)))
  · have h_1f := c_1
    refine sx_iload_n (pc := 4) dX5_isBelow_4 rfl rfl ?_
    refine sx_iload_n (pc := 5) dX5_isBelow_5 rfl rfl ?_
    refine sx_icmp_ge (pc := 6) (tgt := 13) dX5_isBelow_6 (by decide) (fun c_6 => ?_) (fun c_6 => ?_)
    · have h_6t := c_6
      refine sx_iconst (pc := 13) (v := 0) dX5_isBelow_13 (by decide) ?_
      exact sx_iret (pc := 14) dX5_isBelow_14 rfl rfl (Nat.zero_le _) (Nat.zero_le _) (by refine ⟨rfl, rfl, _, rfl, ?_⟩; first | (left; exact ⟨rfl, Int32.not_lt.mp h_1f, Int32.not_le.mp h_6f⟩) | (right; refine ⟨rfl, fun q => ?_⟩; first | exact absurd h_1t (Int32.not_lt.mpr q.1) | exact absurd q.2 (Int32.not_lt.mpr h_6t)))
    · have h_6f := c_6
      refine sx_iconst (pc := 9) (v := 1) dX5_isBelow_9 (by decide) ?_
      refine sx_goto (pc := 10) (tgt := 14) dX5_isBelow_10 (by decide) ?_
      exact sx_iret (pc := 14) dX5_isBelow_14 rfl rfl (Nat.zero_le _) (Nat.zero_le _) (by refine ⟨rfl, rfl, _, rfl, ?_⟩; first | (left; exact ⟨rfl, Int32.not_lt.mp h_1f, Int32.not_le.mp h_6f⟩) | (right; refine ⟨rfl, fun q => ?_⟩; first | exact absurd h_1t (Int32.not_lt.mpr q.1) | exact absurd q.2 (Int32.not_lt.mpr h_6t)))
set_option maxHeartbeats 1000000 in
set_option maxRecDepth 20000 in
theorem c_hexDigit (X : xD) (Ex : State → Prop) (fr : Bool) (sh : List xS) (μ : xM) (v : Int32) : Ct X Ex fr yX5_hexDigit kX5_hexDigit (rmN 0) [.int v] sh μ (fun r sh' μ' => sh = sh' ∧ μ = μ' ∧ ∃ x : Int32, r = some (.int x)) := by
  refine Ct.of (L0 := [some (.int v), none]) (by decide) rfl (fun h => by cases h) (by simp [Value.category]) (Nat.le_of_ble_eq_true rfl) rfl (fun l => ?_)
  refine sx_iload_n (pc := 0) dX5_hexDigit_0 rfl rfl ?_
  refine sx_bipush (pc := 1) (v := 15) dX5_hexDigit_1 (by decide) ?_
  refine sx_iand (pc := 3) dX5_hexDigit_3 ?_
  refine sx_istore_n (pc := 4) (L' := [some (.int v), some (.int (v &&& 15))]) dX5_hexDigit_4 rfl (by decide) rfl ?_
  refine sx_iload_n (pc := 5) dX5_hexDigit_5 rfl rfl ?_
  refine sx_bipush (pc := 6) (v := 10) dX5_hexDigit_6 (by decide) ?_
  refine sx_icmp_ge (pc := 8) (tgt := 18) dX5_hexDigit_8 (by decide) (fun c_8 => ?_) (fun c_8 => ?_)
  · have h_8t := c_8
    refine sx_bipush (pc := 18) (v := 65) dX5_hexDigit_18 (by decide) ?_
    refine sx_iload_n (pc := 20) dX5_hexDigit_20 rfl rfl ?_
    refine sx_iadd (pc := 21) dX5_hexDigit_21 ?_
    refine sx_bipush (pc := 22) (v := 10) dX5_hexDigit_22 (by decide) ?_
    refine sx_isub (pc := 24) dX5_hexDigit_24 ?_
    exact sx_iret (pc := 25) dX5_hexDigit_25 rfl rfl (Nat.zero_le _) (Nat.zero_le _) (⟨rfl, rfl, _, rfl⟩)
  · have h_8f := c_8
    refine sx_bipush (pc := 11) (v := 48) dX5_hexDigit_11 (by decide) ?_
    refine sx_iload_n (pc := 13) dX5_hexDigit_13 rfl rfl ?_
    refine sx_iadd (pc := 14) dX5_hexDigit_14 ?_
    refine sx_goto (pc := 15) (tgt := 25) dX5_hexDigit_15 (by decide) ?_
    exact sx_iret (pc := 25) dX5_hexDigit_25 rfl rfl (Nat.zero_le _) (Nat.zero_le _) (⟨rfl, rfl, _, rfl⟩)
set_option maxHeartbeats 1000000 in
set_option maxRecDepth 20000 in
theorem c_add (X : xD) (Ex : State → Prop) (hE : xEs X false shA.length Ex) (μ : xM) (k : Nat) (hR : shA[k]? = some (shReply k) ∧ shA[k + 1]? = some (shI 13)) (hk : k + 1 < 95) (x : Int32) : Ct X Ex false yX4_add kX4_add (rmN 0) [.ref (X.2 + k), .int x] shA μ (fun r sh' μ' => shA = sh' ∧ r = none ∧ Ks μ μ') := by
  refine Ct.of (L0 := [some (.ref (X.2 + k)), some (.int x)]) (by decide) rfl (fun h => by cases h) (by simp [Value.category]) (Nat.le_of_ble_eq_true rfl) rfl (fun l => ?_)
  refine sx_aload_n (pc := 0) dX4_add_0 rfl rfl ?_
  refine sx_geti (pc := 1) (ci := 4) (j := 1) dX4_add_1 rfl hR.1 rfl (by decide) lf_X4_15 ?_
  refine sx_if_lt (pc := 4) (tgt := 36) dX4_add_4 (by decide) (fun c_4 => ?_) (fun c_4 => ?_)
  · have h_4t := c_4
    exact sx_vret (pc := 36) dX4_add_36 rfl (Nat.zero_le _) (Nat.zero_le _) (⟨rfl, rfl, (Ks.rf)⟩)
  · have h_4f := c_4
    refine sx_aload_n (pc := 7) dX4_add_7 rfl rfl ?_
    refine sx_geti (pc := 8) (ci := 4) (j := 1) dX4_add_8 rfl hR.1 rfl (by decide) lf_X4_15 ?_
    refine sx_bipush (pc := 11) (v := 13) dX4_add_11 (by decide) ?_
    refine sx_icmp_ge (pc := 13) (tgt := 36) dX4_add_13 (by decide) (fun c_13 => ?_) (fun c_13 => ?_)
    · have h_13t := c_13
      exact sx_vret (pc := 36) dX4_add_36 rfl (Nat.zero_le _) (Nat.zero_le _) (⟨rfl, rfl, (Ks.rf)⟩)
    · have h_13f := c_13
      refine sx_aload_n (pc := 16) dX4_add_16 rfl rfl ?_
      refine sx_getr (pc := 17) (ci := 4) (j := 0) (r := k + 1) dX4_add_17 rfl hR.1 rfl (by decide) lf_X4_11 ?_
      refine sx_aload_n (pc := 20) dX4_add_20 rfl rfl ?_
      refine sx_geti (pc := 21) (ci := 4) (j := 1) dX4_add_21 rfl hR.1 rfl (by decide) lf_X4_15 ?_
      refine sx_iload_n (pc := 24) dX4_add_24 rfl rfl ?_
      refine sx_iast (pc := 25) dX4_add_25 hR.2 (by decide) rfl (vp_in_lt (Int32.not_lt.mp h_4f) (Int32.not_le.mp h_13f) (by decide)) (fun μ1 hμ1 => ?_)
      refine sx_aload_n (pc := 26) dX4_add_26 rfl rfl ?_
      refine sx_dup (pc := 27) dX4_add_27 rfl ?_
      refine sx_geti (pc := 28) (ci := 4) (j := 1) dX4_add_28 rfl hR.1 rfl (by decide) lf_X4_15 ?_
      refine sx_iconst (pc := 31) (v := 1) dX4_add_31 (by decide) ?_
      refine sx_iadd (pc := 32) dX4_add_32 ?_
      refine sx_puti (pc := 33) (ci := 4) (j := 1) (ty := .int) dX4_add_33 rfl hR.1 rfl (by decide) lf_X4_15 rfl (by decide +kernel) rfl rfl (fun μ2 hμ2 => ?_)
      exact sx_vret (pc := 36) dX4_add_36 rfl (Nat.zero_le _) (Nat.zero_le _) (⟨rfl, rfl, (Ks.put (Ks.put (Ks.rf) hμ1 (by omega)) hμ2 (by omega))⟩)
set_option maxHeartbeats 1000000 in
set_option maxRecDepth 20000 in
theorem l_sumOf {X : xD} {Ex : State → Prop} {l : Launch} {Z : List Frame → Array Value → State → State → Prop} {n0 : Nat} {μ : xM} {k n : Nat} {cnt : Int32} (hs : shA[k]? = some (shI n)) (hn : n < 2 ^ 31)
    (hZ : ∀ (v i : Int32), sx l (rmN 0) X Ex false kX5_sumOf n0 Z 27 [some (.ref (X.2 + k)), some (.int cnt), some (.int v), some (.int i)] [] shA μ 0 0) :
    ∀ (m j : Nat) (v : Int32), n - j ≤ m → j ≤ n → sx l (rmN 0) X Ex false kX5_sumOf n0 Z 4 [some (.ref (X.2 + k)), some (.int cnt), some (.int v), some (.int (nI j))] [] shA μ 0 0 := by
  intro m
  induction m with
  | zero =>
    intro j v hm hj
    have hjn : j = n := by omega
    subst hjn
    refine sx_iload_n (pc := 4) dX5_sumOf_4 rfl rfl ?_
    refine sx_iload_n (pc := 5) dX5_sumOf_5 rfl rfl ?_
    refine sx_icmp_ge (pc := 6) (tgt := 27) dX5_sumOf_6 (by decide) (fun _ => hZ _ _) (fun _ => ?_)
    refine sx_iload_n (pc := 9) dX5_sumOf_9 rfl rfl ?_
    refine sx_aload_n (pc := 10) dX5_sumOf_10 rfl rfl ?_
    refine sx_alen (pc := 11) dX5_sumOf_11 hs rfl rfl ?_
    refine sx_icmp_ge (pc := 12) (tgt := 27) dX5_sumOf_12 (by decide) (fun _ => hZ _ _) (fun q => absurd (nI_le (Nat.le_refl _) hn) q)
  | succ m ih =>
    intro j v hm hj
    refine sx_iload_n (pc := 4) dX5_sumOf_4 rfl rfl ?_
    refine sx_iload_n (pc := 5) dX5_sumOf_5 rfl rfl ?_
    refine sx_icmp_ge (pc := 6) (tgt := 27) dX5_sumOf_6 (by decide) (fun _ => hZ _ _) (fun _ => ?_)
    refine sx_iload_n (pc := 9) dX5_sumOf_9 rfl rfl ?_
    refine sx_aload_n (pc := 10) dX5_sumOf_10 rfl rfl ?_
    refine sx_alen (pc := 11) dX5_sumOf_11 hs rfl rfl ?_
    refine sx_icmp_ge (pc := 12) (tgt := 27) dX5_sumOf_12 (by decide) (fun _ => hZ _ _) (fun q => ?_)
    have hlt : j < n := Nat.lt_of_not_le fun z => q (nI_le z (by omega))
    refine sx_iload_n (pc := 15) dX5_sumOf_15 rfl rfl ?_
    refine sx_aload_n (pc := 16) dX5_sumOf_16 rfl rfl ?_
    refine sx_iload_n (pc := 17) dX5_sumOf_17 rfl rfl ?_
    refine sx_iald (pc := 18) dX5_sumOf_18 hs (by decide) rfl (vp_in_nI hlt hn) ?_
    refine sx_iadd (pc := 19) dX5_sumOf_19 ?_
    refine sx_istore_n (pc := 20) dX5_sumOf_20 rfl (by decide) rfl ?_
    refine sx_iinc (pc := 21) (v := nI (j + 1)) dX5_sumOf_21 rfl (nI_1 j) (by decide) rfl ?_
    refine sx_goto (pc := 24) (tgt := 4) dX5_sumOf_24 (by decide) ?_
    exact ih (j + 1) _ (by omega) (by omega)
set_option maxHeartbeats 1000000 in
set_option maxRecDepth 20000 in
theorem c_sumOf (X : xD) (Ex : State → Prop) (hE : xEs X false shA.length Ex) (μ : xM) (k n : Nat) (cnt : Int32) (hs : shA[k]? = some (shI n)) (hn : n < 2 ^ 31) : Ct X Ex false yX5_sumOf kX5_sumOf (rmN 0) [.ref (X.2 + k), .int cnt] shA μ (fun r sh' μ' => shA = sh' ∧ μ = μ' ∧ ∃ x : Int32, r = some (.int x)) := by
  refine Ct.of (L0 := [some (.ref (X.2 + k)), some (.int cnt), none, none]) (by decide) rfl (fun h => by cases h) (by simp [Value.category]) (Nat.le_of_ble_eq_true rfl) rfl (fun l => ?_)
  refine sx_iconst (pc := 0) (v := 0) dX5_sumOf_0 (by decide) ?_
  refine sx_istore_n (pc := 1) (L' := [some (.ref (X.2 + k)), some (.int cnt), some (.int 0), none]) dX5_sumOf_1 rfl (by decide) rfl ?_
  refine sx_iconst (pc := 2) (v := 0) dX5_sumOf_2 (by decide) ?_
  refine sx_istore_n (pc := 3) (L' := [some (.ref (X.2 + k)), some (.int cnt), some (.int 0), some (.int 0)]) dX5_sumOf_3 rfl (by decide) rfl ?_
  exact l_sumOf hs hn (fun v i => sx_iload_n (pc := 27) dX5_sumOf_27 rfl rfl (sx_sipush (pc := 28) (v := 255) dX5_sumOf_28 (by decide) (sx_iand (pc := 31) dX5_sumOf_31 (sx_iret (pc := 32) dX5_sumOf_32 rfl rfl (Nat.zero_le _) (Nat.zero_le _) ⟨rfl, rfl, _, rfl⟩)))) n 0 0 (by omega) (Nat.zero_le _)
set_option maxHeartbeats 1000000 in
set_option maxRecDepth 20000 in
theorem c_addSumAndEnd (X : xD) (Ex : State → Prop) (hE : xEs X false shA.length Ex) (μ : xM) (k : Nat) (hR : shA[k]? = some (shReply k) ∧ shA[k + 1]? = some (shI 13)) (hk : k + 1 < 95) : Ct X Ex false yX4_addSumAndEnd kX4_addSumAndEnd (rmN 1) [.ref (X.2 + k)] shA μ (fun r sh' μ' => shA = sh' ∧ r = none ∧ Ks μ μ') := by
  refine Ct.of (L0 := [some (.ref (X.2 + k)), none]) (by decide) rfl (fun h => by cases h) (by simp [Value.category]) (Nat.le_of_ble_eq_true rfl) rfl (fun l => ?_)
  refine sx_aload_n (pc := 0) dX4_addSumAndEnd_0 rfl rfl ?_
  refine sx_getr (pc := 1) (ci := 4) (j := 0) (r := k + 1) dX4_addSumAndEnd_1 rfl hR.1 rfl (by decide) lf_X4_11 ?_
  refine sx_aload_n (pc := 4) dX4_addSumAndEnd_4 rfl rfl ?_
  refine sx_geti (pc := 5) (ci := 4) (j := 1) dX4_addSumAndEnd_5 rfl hR.1 rfl (by decide) lf_X4_15 ?_
  refine sx_callSN (host := "ExchangeWire") (pc := 8) (As := [.ref (X.2 + (k + 1)), .int (μ k 1)]) dX4_addSumAndEnd_8 (c_sumOf X Ex hE μ (k + 1) 13 _ hR.2 (by decide)) mX5_sumOf (by decide +kernel) rfl ⟨Nat.le_of_ble_eq_true rfl, Nat.le_of_ble_eq_true rfl⟩ ⟨Nat.le_of_ble_eq_true rfl, Nat.le_of_ble_eq_true rfl⟩ (Nat.le_of_ble_eq_true rfl) hE (fun r_8 sh1 μ1 h_8 => ?_)
  obtain ⟨rfl, rfl, x_8, rfl⟩ := h_8
  refine sx_istore_n (pc := 11) (L' := [some (.ref (X.2 + k)), some (.int x_8)]) dX4_addSumAndEnd_11 rfl (by decide) rfl ?_
  refine sx_aload_n (pc := 12) dX4_addSumAndEnd_12 rfl rfl ?_
  refine sx_bipush (pc := 13) (v := 90) dX4_addSumAndEnd_13 (by decide) ?_
  refine sx_callV (pc := 15) (As := [.int 90]) dX4_addSumAndEnd_15 (c_add X Ex hE μ k hR hk 90) mX4_add lm_X4_19 rfl hR.1 rfl ⟨Nat.le_of_ble_eq_true rfl, Nat.le_of_ble_eq_true rfl⟩ ⟨Nat.le_of_ble_eq_true rfl, Nat.le_of_ble_eq_true rfl⟩ (Nat.le_of_ble_eq_true rfl) hE (fun r_15 sh1 μ2 h_15 => ?_)
  obtain ⟨rfl, rfl, k_15⟩ := h_15
  refine sx_aload_n (pc := 18) dX4_addSumAndEnd_18 rfl rfl ?_
  refine sx_iload_n (pc := 19) dX4_addSumAndEnd_19 rfl rfl ?_
  refine sx_iconst (pc := 20) (v := 4) dX4_addSumAndEnd_20 (by decide) ?_
  refine sx_ishr (pc := 21) dX4_addSumAndEnd_21 ?_
  refine sx_callSN (host := "ExchangeWire") (pc := 22) (As := [.int (x_8 >>> (4 &&& 31))]) dX4_addSumAndEnd_22 (c_hexDigit X Ex false shA μ2 _) mX5_hexDigit (by decide +kernel) rfl ⟨Nat.le_of_ble_eq_true rfl, Nat.le_of_ble_eq_true rfl⟩ ⟨Nat.le_of_ble_eq_true rfl, Nat.le_of_ble_eq_true rfl⟩ (Nat.le_of_ble_eq_true rfl) hE (fun r_22 sh1 μ3 h_22 => ?_)
  obtain ⟨rfl, rfl, x_22, rfl⟩ := h_22
  refine sx_callV (pc := 25) (As := [.int x_22]) dX4_addSumAndEnd_25 (c_add X Ex hE μ2 k hR hk x_22) mX4_add lm_X4_19 rfl hR.1 rfl ⟨Nat.le_of_ble_eq_true rfl, Nat.le_of_ble_eq_true rfl⟩ ⟨Nat.le_of_ble_eq_true rfl, Nat.le_of_ble_eq_true rfl⟩ (Nat.le_of_ble_eq_true rfl) hE (fun r_25 sh1 μ4 h_25 => ?_)
  obtain ⟨rfl, rfl, k_25⟩ := h_25
  refine sx_aload_n (pc := 28) dX4_addSumAndEnd_28 rfl rfl ?_
  refine sx_iload_n (pc := 29) dX4_addSumAndEnd_29 rfl rfl ?_
  refine sx_callSN (host := "ExchangeWire") (pc := 30) (As := [.int x_8]) dX4_addSumAndEnd_30 (c_hexDigit X Ex false shA μ4 _) mX5_hexDigit (by decide +kernel) rfl ⟨Nat.le_of_ble_eq_true rfl, Nat.le_of_ble_eq_true rfl⟩ ⟨Nat.le_of_ble_eq_true rfl, Nat.le_of_ble_eq_true rfl⟩ (Nat.le_of_ble_eq_true rfl) hE (fun r_30 sh1 μ5 h_30 => ?_)
  obtain ⟨rfl, rfl, x_30, rfl⟩ := h_30
  refine sx_callV (pc := 33) (As := [.int x_30]) dX4_addSumAndEnd_33 (c_add X Ex hE μ4 k hR hk x_30) mX4_add lm_X4_19 rfl hR.1 rfl ⟨Nat.le_of_ble_eq_true rfl, Nat.le_of_ble_eq_true rfl⟩ ⟨Nat.le_of_ble_eq_true rfl, Nat.le_of_ble_eq_true rfl⟩ (Nat.le_of_ble_eq_true rfl) hE (fun r_33 sh1 μ6 h_33 => ?_)
  obtain ⟨rfl, rfl, k_33⟩ := h_33
  refine sx_aload_n (pc := 36) dX4_addSumAndEnd_36 rfl rfl ?_
  refine sx_bipush (pc := 37) (v := 13) dX4_addSumAndEnd_37 (by decide) ?_
  refine sx_callV (pc := 39) (As := [.int 13]) dX4_addSumAndEnd_39 (c_add X Ex hE μ6 k hR hk 13) mX4_add lm_X4_19 rfl hR.1 rfl ⟨Nat.le_of_ble_eq_true rfl, Nat.le_of_ble_eq_true rfl⟩ ⟨Nat.le_of_ble_eq_true rfl, Nat.le_of_ble_eq_true rfl⟩ (Nat.le_of_ble_eq_true rfl) hE (fun r_39 sh1 μ7 h_39 => ?_)
  obtain ⟨rfl, rfl, k_39⟩ := h_39
  exact sx_vret (pc := 42) dX4_addSumAndEnd_42 rfl (Nat.zero_le _) (Nat.zero_le _) (⟨rfl, rfl, (Ks.trans (Ks.trans (Ks.trans (Ks.trans (Ks.rf) k_15) k_25) k_33) k_39)⟩)
set_option maxHeartbeats 1000000 in
set_option maxRecDepth 20000 in
theorem c_writeWrong (X : xD) (Ex : State → Prop) (hE : xEs X false shA.length Ex) (μ : xM) (k : Nat) (hR : shA[k]? = some (shReply k) ∧ shA[k + 1]? = some (shI 13)) (hk : k + 1 < 95) : Ct X Ex false yX4_writeWrong kX4_writeWrong (rmN 2) [.ref (X.2 + k)] shA μ (fun r sh' μ' => shA = sh' ∧ r = none ∧ Ks μ μ') := by
  refine Ct.of (L0 := [some (.ref (X.2 + k))]) (by decide) rfl (fun h => by cases h) (by simp [Value.category]) (Nat.le_of_ble_eq_true rfl) rfl (fun l => ?_)
  refine sx_aload_n (pc := 0) dX4_writeWrong_0 rfl rfl ?_
  refine sx_iconst (pc := 1) (v := 0) dX4_writeWrong_1 (by decide) ?_
  refine sx_puti (pc := 2) (ci := 4) (j := 1) (ty := .int) dX4_writeWrong_2 rfl hR.1 rfl (by decide) lf_X4_15 rfl (by decide +kernel) rfl rfl (fun μ1 hμ1 => ?_)
  refine sx_aload_n (pc := 5) dX4_writeWrong_5 rfl rfl ?_
  refine sx_bipush (pc := 6) (v := 78) dX4_writeWrong_6 (by decide) ?_
  refine sx_callV (pc := 8) (As := [.int 78]) dX4_writeWrong_8 (c_add X Ex hE μ1 k hR hk 78) mX4_add lm_X4_19 rfl hR.1 rfl ⟨Nat.le_of_ble_eq_true rfl, Nat.le_of_ble_eq_true rfl⟩ ⟨Nat.le_of_ble_eq_true rfl, Nat.le_of_ble_eq_true rfl⟩ (Nat.le_of_ble_eq_true rfl) hE (fun r_8 sh1 μ2 h_8 => ?_)
  obtain ⟨rfl, rfl, k_8⟩ := h_8
  refine sx_aload_n (pc := 11) dX4_writeWrong_11 rfl rfl ?_
  refine sx_callV (pc := 12) (As := []) dX4_writeWrong_12 (c_addSumAndEnd X Ex hE μ2 k hR hk) mX4_addSumAndEnd lm_X4_23 rfl hR.1 rfl ⟨Nat.le_of_ble_eq_true rfl, Nat.le_of_ble_eq_true rfl⟩ ⟨Nat.le_of_ble_eq_true rfl, Nat.le_of_ble_eq_true rfl⟩ (Nat.le_of_ble_eq_true rfl) hE (fun r_12 sh1 μ3 h_12 => ?_)
  obtain ⟨rfl, rfl, k_12⟩ := h_12
  exact sx_vret (pc := 15) dX4_writeWrong_15 rfl (Nat.zero_le _) (Nat.zero_le _) (⟨rfl, rfl, (Ks.trans (Ks.trans (Ks.put (Ks.rf) hμ1 (by omega)) k_8) k_12)⟩)
set_option maxHeartbeats 1000000 in
set_option maxRecDepth 20000 in
theorem c_forget (X : xD) (Ex : State → Prop) (hE : xEs X false shA.length Ex) (μ : xM)  : Ct X Ex false yX3_forget kX3_forget (rmN 0) [.ref (X.2 + 94)] shA μ (fun r sh' μ' => shA = sh' ∧ r = none ∧ Ks μ μ') := by
  refine Ct.of (L0 := [some (.ref (X.2 + 94))]) (by decide) rfl (fun h => by cases h) (by simp [Value.category]) (Nat.le_of_ble_eq_true rfl) rfl (fun l => ?_)
  refine sx_aload_n (pc := 0) dX3_forget_0 rfl rfl ?_
  refine sx_iconst (pc := 1) (v := 0) dX3_forget_1 (by decide) ?_
  refine sx_puti (pc := 2) (ci := 3) (j := 0) (ty := .int) dX3_forget_2 rfl s_Me rfl (by decide) lf_X3_9 rfl (by decide +kernel) rfl rfl (fun μ1 hμ1 => ?_)
  refine sx_aload_n (pc := 5) dX3_forget_5 rfl rfl ?_
  refine sx_iconst (pc := 6) (v := (-1)) dX3_forget_6 (by decide) ?_
  refine sx_puti (pc := 7) (ci := 3) (j := 1) (ty := .int) dX3_forget_7 rfl s_Me rfl (by decide) lf_X3_15 rfl (by decide +kernel) rfl rfl (fun μ2 hμ2 => ?_)
  refine sx_aload_n (pc := 10) dX3_forget_10 rfl rfl ?_
  refine sx_iconst (pc := 11) (v := (-1)) dX3_forget_11 (by decide) ?_
  refine sx_puti (pc := 12) (ci := 3) (j := 2) (ty := .int) dX3_forget_12 rfl s_Me rfl (by decide) lf_X3_18 rfl (by decide +kernel) rfl rfl (fun μ3 hμ3 => ?_)
  refine sx_aload_n (pc := 15) dX3_forget_15 rfl rfl ?_
  refine sx_iconst (pc := 16) (v := (-1)) dX3_forget_16 (by decide) ?_
  refine sx_puti (pc := 17) (ci := 3) (j := 3) (ty := .int) dX3_forget_17 rfl s_Me rfl (by decide) lf_X3_21 rfl (by decide +kernel) rfl rfl (fun μ4 hμ4 => ?_)
  refine sx_aload_n (pc := 20) dX3_forget_20 rfl rfl ?_
  refine sx_iconst (pc := 21) (v := (-1)) dX3_forget_21 (by decide) ?_
  refine sx_puti (pc := 22) (ci := 3) (j := 4) (ty := .int) dX3_forget_22 rfl s_Me rfl (by decide) lf_X3_24 rfl (by decide +kernel) rfl rfl (fun μ5 hμ5 => ?_)
  exact sx_vret (pc := 25) dX3_forget_25 rfl (Nat.zero_le _) (Nat.zero_le _) (⟨rfl, rfl, (Ks.put (Ks.put (Ks.put (Ks.put (Ks.put (Ks.rf) hμ1 (by omega)) hμ2 (by omega)) hμ3 (by omega)) hμ4 (by omega)) hμ5 (by omega))⟩)
set_option maxHeartbeats 1000000 in
set_option maxRecDepth 20000 in
theorem c_read0 (X : xD) (Ex : State → Prop) (hE : xEs X false shA.length Ex) (μ : xM) (k n : Nat) (hs : shA[k]? = some (shI n)) (cnt : Int32) (hc : cnt < 2) : Ct X Ex false yX3_read kX3_read (rmN 1) [.ref (X.2 + 94), .ref (X.2 + k), .int cnt] shA μ (fun r sh' μ' => shA = sh' ∧ r = some (.int 0) ∧ Ks μ μ') := by
  refine Ct.of (L0 := [some (.ref (X.2 + 94)), some (.ref (X.2 + k)), some (.int cnt), none, none, none]) (by decide) rfl (fun h => by cases h) (by simp [Value.category]) (Nat.le_of_ble_eq_true rfl) rfl (fun l => ?_)
  refine sx_aload_n (pc := 0) dX3_read_0 rfl rfl ?_
  refine sx_callV (pc := 1) (As := []) dX3_read_1 (c_forget X Ex hE μ) mX3_forget lm_X3_27 rfl s_Me rfl ⟨Nat.le_of_ble_eq_true rfl, Nat.le_of_ble_eq_true rfl⟩ ⟨Nat.le_of_ble_eq_true rfl, Nat.le_of_ble_eq_true rfl⟩ (Nat.le_of_ble_eq_true rfl) hE (fun r_1 sh1 μ1 h_1 => ?_)
  obtain ⟨rfl, rfl, k_1⟩ := h_1
  refine sx_iload_n (pc := 4) dX3_read_4 rfl rfl ?_
  refine sx_iconst (pc := 5) (v := 2) dX3_read_5 (by decide) ?_
  refine sx_icmp_lt (pc := 6) (tgt := 15) dX3_read_6 (by decide) (fun c_6 => ?_) (fun c_6 => absurd hc c_6)
  refine sx_iconst (pc := 15) (v := 0) dX3_read_15 (by decide) ?_
  exact sx_iret (pc := 16) dX3_read_16 rfl rfl (Nat.zero_le _) (Nat.zero_le _) (⟨rfl, rfl, (Ks.trans (Ks.rf) k_1)⟩)
set_option maxHeartbeats 1000000 in
set_option maxRecDepth 20000 in
theorem c_endMessage0 (X : xD) (Ex : State → Prop) (hE : xEs X false shA.length Ex) (μ : xM) (v : Int32) (d : Nat) (hd : d < 6) (hc : μ (2 + 9 * d) 1 < 2) : Ct X Ex false yX5_endMessage kX5_endMessage (rmN 3) [.ref (X.2 + 0), .int v, .ref (X.2 + (2 + 9 * d))] shA μ (fun r sh' μ' => shA = sh' ∧ r = none ∧ Ks μ μ') := by
  refine Ct.of (L0 := [some (.ref (X.2 + 0)), some (.int v), some (.ref (X.2 + (2 + 9 * d))), none]) (by decide) rfl (fun h => by cases h) (by simp [Value.category]) (Nat.le_of_ble_eq_true rfl) rfl (fun l => ?_)
  refine sx_aload_n (pc := 0) dX5_endMessage_0 rfl rfl ?_
  refine sx_getr (pc := 1) (ci := 5) (j := 3) (r := 94) dX5_endMessage_1 rfl s_EW rfl (by decide) lf_X5_33 ?_
  refine sx_aload_n (pc := 4) dX5_endMessage_4 rfl rfl ?_
  refine sx_getr (pc := 5) (ci := 2) (j := 0) (r := 2 + 9 * d + 1) dX5_endMessage_5 rfl (s_Line _ hd) rfl (by decide) lf_X5_132 ?_
  refine sx_aload_n (pc := 8) dX5_endMessage_8 rfl rfl ?_
  refine sx_geti (pc := 9) (ci := 2) (j := 1) dX5_endMessage_9 rfl (s_Line _ hd) rfl (by decide) lf_X5_77 ?_
  refine sx_callV (pc := 12) (As := [.ref (X.2 + (2 + 9 * d + 1)), .int (μ (2 + 9 * d) 1)]) dX5_endMessage_12 (c_read0 X Ex hE μ _ 60 (s_Lsg _ hd) _ hc) mX3_read lm_X5_133 rfl s_Me rfl ⟨Nat.le_of_ble_eq_true rfl, Nat.le_of_ble_eq_true rfl⟩ ⟨Nat.le_of_ble_eq_true rfl, Nat.le_of_ble_eq_true rfl⟩ (Nat.le_of_ble_eq_true rfl) hE (fun r_12 sh1 μ1 h_12 => ?_)
  obtain ⟨rfl, rfl, k_12⟩ := h_12
  refine sx_istore_n (pc := 15) (L' := [some (.ref (X.2 + 0)), some (.int v), some (.ref (X.2 + (2 + 9 * d))), some (.int 0)]) dX5_endMessage_15 rfl (by decide) rfl ?_
  refine sx_aload_n (pc := 16) dX5_endMessage_16 rfl rfl ?_
  refine sx_iconst (pc := 17) (v := 0) dX5_endMessage_17 (by decide) ?_
  refine sx_puti (pc := 18) (ci := 2) (j := 1) (ty := .int) dX5_endMessage_18 rfl (s_Line _ hd) rfl (by decide) lf_X5_77 rfl (by decide +kernel) rfl rfl (fun μ2 hμ2 => ?_)
  refine sx_iload_n (pc := 21) dX5_endMessage_21 rfl rfl ?_
  refine sx_if_ne (pc := 22) (tgt := 45) dX5_endMessage_22 (by decide) (fun c_22 => absurd rfl c_22) (fun c_22 => ?_)
  refine sx_aload_n (pc := 25) dX5_endMessage_25 rfl rfl ?_
  refine sx_dup (pc := 26) dX5_endMessage_26 rfl ?_
  refine sx_geti (pc := 27) (ci := 2) (j := 5) dX5_endMessage_27 rfl (s_Line _ hd) rfl (by decide) lf_X5_122 ?_
  refine sx_iconst (pc := 30) (v := 1) dX5_endMessage_30 (by decide) ?_
  refine sx_iadd (pc := 31) dX5_endMessage_31 ?_
  refine sx_puti (pc := 32) (ci := 2) (j := 5) (ty := .int) dX5_endMessage_32 rfl (s_Line _ hd) rfl (by decide) lf_X5_122 rfl (by decide +kernel) rfl rfl (fun μ3 hμ3 => ?_)
  refine sx_aload_n (pc := 35) dX5_endMessage_35 rfl rfl ?_
  refine sx_getr (pc := 36) (ci := 2) (j := 6) (r := 2 + 9 * d + 2) dX5_endMessage_36 rfl (s_Line _ hd) rfl (by decide) lf_X5_57 ?_
  refine sx_callV (pc := 39) (As := []) dX5_endMessage_39 (c_writeWrong X Ex hE μ3 _ (s_Lsh _ hd) (by omega)) mX4_writeWrong lm_X5_137 rfl (s_Lsh _ hd).1 rfl ⟨Nat.le_of_ble_eq_true rfl, Nat.le_of_ble_eq_true rfl⟩ ⟨Nat.le_of_ble_eq_true rfl, Nat.le_of_ble_eq_true rfl⟩ (Nat.le_of_ble_eq_true rfl) hE (fun r_39 sh1 μ4 h_39 => ?_)
  obtain ⟨rfl, rfl, k_39⟩ := h_39
  refine sx_goto (pc := 42) (tgt := 124) dX5_endMessage_42 (by decide) ?_
  exact sx_vret (pc := 124) dX5_endMessage_124 rfl (Nat.zero_le _) (Nat.zero_le _) (⟨rfl, rfl, (Ks.trans (Ks.put (Ks.put (Ks.trans (Ks.rf) k_12) hμ2 (by omega)) hμ3 (by omega)) k_39)⟩)
