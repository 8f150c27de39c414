/-! the house -/
theorem inc30 {x : Int32} (h : 0 ≤ x ∧ x < 30) : 0 ≤ x + 1 ∧ x + 1 ≤ 30 := by
  obtain ⟨j, hj, rfl⟩ := nI_of (Int32.not_lt.mpr h.1)
  have h1 := h.2
  rw [show (30 : Int32) = nI 30 from rfl, nI_ltI (by omega) (by omega)] at h1
  rw [nI_1, show (30 : Int32) = nI 30 from rfl, nI_leI (by omega) (by omega)]
  exact ⟨nI_pos' (by omega), by omega⟩
theorem qlen_nat {μ : xM} (hL : LB μ) {i : Nat} (hi : i < 30) : ∃ q, q ≤ 30 ∧ μ 91 i = nI q := by
  obtain ⟨j, hj, e⟩ := nI_of2 (x := μ 91 i) (M := 30) (n := 30) rfl (Int32.not_lt.mpr (hL.2 i hi).1) (hL.2 i hi).2
  exact ⟨j, hj, e⟩
theorem lk5 (w : Int32) : w = 66 ∨ w = 67 ∨ w = 70 ∨ w = 72 ∨ w = 82 ∨ (¬ w = 66 ∧ ¬ w = 67 ∧ ¬ w = 70 ∧ ¬ w = 72 ∧ ¬ w = 82) := by
  by_cases h1 : w = 66
  · simp [h1]
  by_cases h2 : w = 67
  · simp [h2]
  by_cases h3 : w = 70
  · simp [h3]
  by_cases h4 : w = 72
  · simp [h4]
  by_cases h5 : w = 82
  · simp [h5]
  simp [h1, h2, h3, h4, h5]
theorem sw17 (w : Int32) : w = 66 ∨ w = 67 ∨ w = 68 ∨ w = 69 ∨ w = 70 ∨ w = 71 ∨ w = 72 ∨ w = 73 ∨ w = 74 ∨ w = 75 ∨ w = 76 ∨ w = 77 ∨ w = 78 ∨ w = 79 ∨ w = 80 ∨ w = 81 ∨ w = 82 ∨ (w.toInt < 66 ∨ 82 < w.toInt) := by
  have h := sw18 w
  rcases h with rfl | rfl | rfl | rfl | rfl | rfl | rfl | rfl | rfl | rfl | rfl | rfl | rfl | rfl | rfl | rfl | rfl | rfl | h
  iterate 17 (first | decide | skip)
  · decide
  · have h2 : w.toInt < 66 ∨ 82 < w.toInt := by omega
    simp [h2]
set_option maxHeartbeats 1000000 in
set_option maxRecDepth 20000 in
theorem l_drop_end {X : xD} {Ex : State → Prop} {l : Launch} {it : Int32} (ht : 0 ≤ it ∧ it < 30) {q : Nat} (hq : q ≤ 30) (hq0 : 0 < q) {μ0 : xM} {μ : xM} (hμq : μ 91 it.toNatClampNeg = nI q) (hC : Ch SH μ0 μ) (j : Int32) : sx l (rmN 0) X Ex false kX0_dropFirst shA.length (xZ X false shA.length (fun r sh' μ' => shA = sh' ∧ r = none ∧ Ch SH μ0 μ') 0 0) 46 [some (.ref (X.2 + 56)), some (.int it), some (.int j)] [] shA μ 0 0 := by
  have hi := clamp_lt (n := 30) ht.1 ht.2 (by decide)
  refine sx_aload_n (pc := 46) dX0_dropFirst_46 rfl rfl ?_
  refine sx_getr (pc := 47) (ci := 0) (j := 4) (r := 91) dX0_dropFirst_47 rfl s_Ho rfl (by decide) lf_X0_26 ?_
  refine sx_iload_n (pc := 50) dX0_dropFirst_50 rfl rfl ?_
  refine sx_dup2 (pc := 51) dX0_dropFirst_51 rfl rfl ?_
  refine sx_iald (pc := 52) dX0_dropFirst_52 s_qlen (by decide) rfl (vp_in_lt (n := 30) ht.1 ht.2 (by decide)) ?_
  refine sx_iconst (pc := 53) (v := 1) dX0_dropFirst_53 (by decide) ?_
  refine sx_isub (pc := 54) dX0_dropFirst_54 ?_
  refine sx_iast (pc := 55) dX0_dropFirst_55 s_qlen (by decide) rfl (vp_in_lt (n := 30) ht.1 ht.2 (by decide)) (fun μ1 hμ1 => ?_)
  exact sx_vret (pc := 56) dX0_dropFirst_56 rfl (Nat.zero_le _) (Nat.zero_le _) (⟨rfl, rfl, (Ch.put hC hμ1 (by omega) (LB.qln hμ1 (fun _ => by rw [hμq, show (1 : Int32) = nI 1 from rfl, pk_sub hq0]; exact ⟨nI_pos' (by omega), nI_le (b := 30) (by omega) (by decide)⟩)))⟩)
set_option maxHeartbeats 1000000 in
set_option maxRecDepth 20000 in
theorem l_drop {X : xD} {Ex : State → Prop} {l : Launch} {it : Int32} (ht : 0 ≤ it ∧ it < 30) {q : Nat} (hq : q ≤ 30) (hq0 : 0 < q) {μ0 : xM} : ∀ (t j : Nat) (μ : xM), q - j ≤ t → 1 ≤ j → j ≤ q → μ 91 it.toNatClampNeg = nI q → Ch SH μ0 μ → sx l (rmN 0) X Ex false kX0_dropFirst shA.length (xZ X false shA.length (fun r sh' μ' => shA = sh' ∧ r = none ∧ Ch SH μ0 μ') 0 0) 12 [some (.ref (X.2 + 56)), some (.int it), some (.int (nI j))] [] shA μ 0 0 := by
  have hi := clamp_lt (n := 30) ht.1 ht.2 (by decide)
  intro t
  induction t with
  | zero =>
    intro j μ htt hj1 hj hμq hC
    refine sx_iload_n (pc := 12) dX0_dropFirst_12 rfl rfl ?_
    refine sx_aload_n (pc := 13) dX0_dropFirst_13 rfl rfl ?_
    refine sx_getr (pc := 14) (ci := 0) (j := 4) (r := 91) dX0_dropFirst_14 rfl s_Ho rfl (by decide) lf_X0_26 ?_
    refine sx_iload_n (pc := 17) dX0_dropFirst_17 rfl rfl ?_
    refine sx_iald (pc := 18) dX0_dropFirst_18 s_qlen (by decide) rfl (vp_in_lt (n := 30) ht.1 ht.2 (by decide)) ?_
    refine sx_icmp_ge (pc := 19) (tgt := 46) dX0_dropFirst_19 (by decide) (fun c_19 => ?_) (fun c_19 => absurd (by rw [hμq]; exact nI_le (by omega) (by omega)) c_19)
    exact l_drop_end ht hq hq0 hμq hC _
  | succ t ih =>
    intro j μ htt hj1 hj hμq hC
    refine sx_iload_n (pc := 12) dX0_dropFirst_12 rfl rfl ?_
    refine sx_aload_n (pc := 13) dX0_dropFirst_13 rfl rfl ?_
    refine sx_getr (pc := 14) (ci := 0) (j := 4) (r := 91) dX0_dropFirst_14 rfl s_Ho rfl (by decide) lf_X0_26 ?_
    refine sx_iload_n (pc := 17) dX0_dropFirst_17 rfl rfl ?_
    refine sx_iald (pc := 18) dX0_dropFirst_18 s_qlen (by decide) rfl (vp_in_lt (n := 30) ht.1 ht.2 (by decide)) ?_
    refine sx_icmp_ge (pc := 19) (tgt := 46) dX0_dropFirst_19 (by decide) (fun c_19 => ?_) (fun c_19 => ?_)
    · have h_19t := c_19
      exact l_drop_end ht hq hq0 hμq hC _
    · have h_19f := c_19
      have hlt : j < q := Nat.lt_of_not_le fun z => h_19f (by rw [hμq]; exact nI_le z (by omega))
      refine sx_aload_n (pc := 22) dX0_dropFirst_22 rfl rfl ?_
      refine sx_getr (pc := 23) (ci := 0) (j := 3) (r := 60) dX0_dropFirst_23 rfl s_Ho rfl (by decide) lf_X0_23 ?_
      refine sx_iload_n (pc := 26) dX0_dropFirst_26 rfl rfl ?_
      refine sx_aald (pc := 27) (r := 61 + it.toNatClampNeg) dX0_dropFirst_27 s_queues rfl rfl (vp_in_lt (n := 30) ht.1 ht.2 (by decide)) (el_queues _ hi) ?_
      refine sx_iload_n (pc := 28) dX0_dropFirst_28 rfl rfl ?_
      refine sx_iconst (pc := 29) (v := 1) dX0_dropFirst_29 (by decide) ?_
      refine sx_isub (pc := 30) dX0_dropFirst_30 ?_
      rw [show (1 : Int32) = nI 1 from rfl, pk_sub hj1]
      refine sx_aload_n (pc := 31) dX0_dropFirst_31 rfl rfl ?_
      refine sx_getr (pc := 32) (ci := 0) (j := 3) (r := 60) dX0_dropFirst_32 rfl s_Ho rfl (by decide) lf_X0_23 ?_
      refine sx_iload_n (pc := 35) dX0_dropFirst_35 rfl rfl ?_
      refine sx_aald (pc := 36) (r := 61 + it.toNatClampNeg) dX0_dropFirst_36 s_queues rfl rfl (vp_in_lt (n := 30) ht.1 ht.2 (by decide)) (el_queues _ hi) ?_
      refine sx_iload_n (pc := 37) dX0_dropFirst_37 rfl rfl ?_
      refine sx_iald (pc := 38) dX0_dropFirst_38 (s_qrow _ hi) (by decide) rfl (vp_in_nI (by omega) (by decide)) ?_
      refine sx_iast (pc := 39) dX0_dropFirst_39 (s_qrow _ hi) (by decide) rfl (vp_in_nI (by omega) (by decide)) (fun μ1 hμ1 => ?_)
      refine sx_iinc (pc := 40) (v := nI (j + 1)) (L' := [some (.ref (X.2 + 56)), some (.int it), some (.int (nI (j + 1)))]) dX0_dropFirst_40 rfl (nI_1 j) (by decide) rfl ?_
      refine sx_goto (pc := 43) (tgt := 12) dX0_dropFirst_43 (by decide) ?_
      exact ih (j + 1) _ (by omega) (by omega) (by omega) (by rw [hμ1, xup_at, if_neg (by omega)]; exact hμq) (Ch.put hC hμ1 (by omega) (LB.off hμ1 ⟨by omega, fun _ _ => by omega⟩))
set_option maxHeartbeats 1000000 in
set_option maxRecDepth 20000 in
theorem c_drop (X : xD) (Ex : State → Prop) (hE : xEs X false shA.length Ex) (μ : xM) (it : Int32) (ht : 0 ≤ it ∧ it < 30) (hL : LB μ) : Ct X Ex false yX0_dropFirst kX0_dropFirst (rmN 0) [.ref (X.2 + 56), .int it] shA μ (fun r sh' μ' => shA = sh' ∧ r = none ∧ Ch SH μ μ') := by
  refine Ct.of (L0 := [some (.ref (X.2 + 56)), some (.int it), none]) (by decide) rfl (fun h => by cases h) (by simp [Value.category]) (Nat.le_of_ble_eq_true rfl) rfl (fun l => ?_)
  have hi := clamp_lt (n := 30) ht.1 ht.2 (by decide)
  obtain ⟨q, hq, hμq⟩ := qlen_nat hL hi
  refine sx_aload_n (pc := 0) dX0_dropFirst_0 rfl rfl ?_
  refine sx_getr (pc := 1) (ci := 0) (j := 4) (r := 91) dX0_dropFirst_1 rfl s_Ho rfl (by decide) lf_X0_26 ?_
  refine sx_iload_n (pc := 4) dX0_dropFirst_4 rfl rfl ?_
  refine sx_iald (pc := 5) dX0_dropFirst_5 s_qlen (by decide) rfl (vp_in_lt (n := 30) ht.1 ht.2 (by decide)) ?_
  refine sx_if_ne (pc := 6) (tgt := 10) dX0_dropFirst_6 (by decide) (fun c_6 => ?_) (fun c_6 => ?_)
  · have h_6t := c_6
    refine sx_iconst (pc := 10) (v := 1) dX0_dropFirst_10 (by decide) ?_
    refine sx_istore_n (pc := 11) (L' := [some (.ref (X.2 + 56)), some (.int it), some (.int 1)]) dX0_dropFirst_11 rfl (by decide) rfl ?_
    exact l_drop ht hq (Nat.pos_of_ne_zero fun z => h_6t (by rw [hμq, z]; rfl)) 30 1 _ (by omega) (Nat.le_refl _) (Nat.pos_of_ne_zero fun z => h_6t (by rw [hμq, z]; rfl)) hμq Ch.rf
  · have h_6f := c_6
    exact sx_vret (pc := 9) dX0_dropFirst_9 rfl (Nat.zero_le _) (Nat.zero_le _) (⟨rfl, rfl, (Ch.rf)⟩)
set_option maxHeartbeats 1000000 in
set_option maxRecDepth 20000 in
theorem c_lend (X : xD) (Ex : State → Prop) (hE : xEs X false shA.length Ex) (μ : xM) (ps : Int32) (hp : 0 ≤ ps ∧ ps < 30) (it : Int32) (ht : 0 ≤ it ∧ it < 30) (hL : LB μ) : Ct X Ex false yX0_lend kX0_lend (rmN 1) [.ref (X.2 + 56), .int ps, .int it] shA μ (fun r sh' μ' => shA = sh' ∧ Ch SH μ μ' ∧ ∃ x : Int32, r = some (.int x) ∧ (x = 0 ∨ x = 1)) := by
  refine Ct.of (L0 := [some (.ref (X.2 + 56)), some (.int ps), some (.int it), none]) (by decide) rfl (fun h => by cases h) (by simp [Value.category]) (Nat.le_of_ble_eq_true rfl) rfl (fun l => ?_)
  have hi := clamp_lt (n := 30) ht.1 ht.2 (by decide)
  refine sx_aload_n (pc := 0) dX0_lend_0 rfl rfl ?_
  refine sx_getr (pc := 1) (ci := 0) (j := 4) (r := 91) dX0_lend_1 rfl s_Ho rfl (by decide) lf_X0_26 ?_
  refine sx_iload_n (pc := 4) dX0_lend_4 rfl rfl ?_
  refine sx_iald (pc := 5) dX0_lend_5 s_qlen (by decide) rfl (vp_in_lt (n := 30) ht.1 ht.2 (by decide)) ?_
  refine sx_if_eq (pc := 6) (tgt := 21) dX0_lend_6 (by decide) (fun c_6 => ?_) (fun c_6 => ?_)
  · have h_6t := c_6
    refine sx_iconst (pc := 21) (v := 1) dX0_lend_21 (by decide) ?_
    refine sx_goto (pc := 22) (tgt := 26) dX0_lend_22 (by decide) ?_
    refine sx_istore_n (pc := 26) (L' := [some (.ref (X.2 + 56)), some (.int ps), some (.int it), some (.int 1)]) dX0_lend_26 rfl (by decide) rfl ?_
    refine sx_aload_n (pc := 27) dX0_lend_27 rfl rfl ?_
    refine sx_getr (pc := 28) (ci := 0) (j := 1) (r := 58) dX0_lend_28 rfl s_Ho rfl (by decide) lf_X0_15 ?_
    refine sx_iload_n (pc := 31) dX0_lend_31 rfl rfl ?_
    refine sx_iald (pc := 32) dX0_lend_32 s_borr (by decide) rfl (vp_in_lt (n := 30) ht.1 ht.2 (by decide)) ?_
    refine sx_iconst (pc := 33) (v := (-1)) dX0_lend_33 (by decide) ?_
    refine sx_icmp_ne (pc := 34) (tgt := 53) dX0_lend_34 (by decide) (fun c_34 => ?_) (fun c_34 => ?_)
    · have h_34t := c_34
      refine sx_iconst (pc := 53) (v := 0) dX0_lend_53 (by decide) ?_
      exact sx_iret (pc := 54) dX0_lend_54 rfl rfl (Nat.zero_le _) (Nat.zero_le _) (⟨rfl, (Ch.rf), _, rfl, by decide⟩)
    · have h_34f := c_34
      refine sx_iload_n (pc := 37) dX0_lend_37 rfl rfl ?_
      refine sx_if_eq (pc := 38) (tgt := 53) dX0_lend_38 (by decide) (fun c_38 => absurd c_38 (by decide)) (fun c_38 => ?_)
      refine sx_aload_n (pc := 41) dX0_lend_41 rfl rfl ?_
      refine sx_getr (pc := 42) (ci := 0) (j := 0) (r := 57) dX0_lend_42 rfl s_Ho rfl (by decide) lf_X0_9 ?_
      refine sx_iload_n (pc := 45) dX0_lend_45 rfl rfl ?_
      refine sx_iald (pc := 46) dX0_lend_46 s_debts (by decide) rfl (vp_in_lt (n := 30) hp.1 hp.2 (by decide)) ?_
      refine sx_sipush (pc := 47) (v := 500) dX0_lend_47 (by decide) ?_
      refine sx_icmp_le (pc := 50) (tgt := 55) dX0_lend_50 (by decide) (fun c_50 => ?_) (fun c_50 => ?_)
      · have h_50t := c_50
        refine sx_aload_n (pc := 55) dX0_lend_55 rfl rfl ?_
        refine sx_iload_n (pc := 56) dX0_lend_56 rfl rfl ?_
        refine sx_callV (pc := 57) (As := [.int it]) dX0_lend_57 (c_drop X Ex hE μ _ ht hL) mX0_dropFirst lm_X0_65 rfl s_Ho rfl ⟨Nat.le_of_ble_eq_true rfl, Nat.le_of_ble_eq_true rfl⟩ ⟨Nat.le_of_ble_eq_true rfl, Nat.le_of_ble_eq_true rfl⟩ (Nat.le_of_ble_eq_true rfl) hE (fun r_57 sh1 μ1 h_57 => ?_)
        obtain ⟨rfl, rfl, k_57⟩ := h_57
        refine sx_aload_n (pc := 60) dX0_lend_60 rfl rfl ?_
        refine sx_getr (pc := 61) (ci := 0) (j := 1) (r := 58) dX0_lend_61 rfl s_Ho rfl (by decide) lf_X0_15 ?_
        refine sx_iload_n (pc := 64) dX0_lend_64 rfl rfl ?_
        refine sx_iload_n (pc := 65) dX0_lend_65 rfl rfl ?_
        refine sx_iast (pc := 66) dX0_lend_66 s_borr (by decide) rfl (vp_in_lt (n := 30) ht.1 ht.2 (by decide)) (fun μ2 hμ2 => ?_)
        refine sx_aload_n (pc := 67) dX0_lend_67 rfl rfl ?_
        refine sx_getr (pc := 68) (ci := 0) (j := 2) (r := 59) dX0_lend_68 rfl s_Ho rfl (by decide) lf_X0_18 ?_
        refine sx_iload_n (pc := 71) dX0_lend_71 rfl rfl ?_
        refine sx_iconst (pc := 72) (v := 0) dX0_lend_72 (by decide) ?_
        refine sx_iast (pc := 73) dX0_lend_73 s_rene (by decide) rfl (vp_in_lt (n := 30) ht.1 ht.2 (by decide)) (fun μ3 hμ3 => ?_)
        refine sx_iconst (pc := 74) (v := 1) dX0_lend_74 (by decide) ?_
        exact sx_iret (pc := 75) dX0_lend_75 rfl rfl (Nat.zero_le _) (Nat.zero_le _) (⟨rfl, (Ch.put (Ch.put (Ch.trans (Ch.rf) k_57) hμ2 (by omega) (LB.off hμ2 ⟨by omega, fun _ _ => by omega⟩)) hμ3 (by omega) (LB.off hμ3 ⟨by omega, fun _ _ => by omega⟩)), _, rfl, by decide⟩)
      · have h_50f := c_50
        refine sx_iconst (pc := 53) (v := 0) dX0_lend_53 (by decide) ?_
        exact sx_iret (pc := 54) dX0_lend_54 rfl rfl (Nat.zero_le _) (Nat.zero_le _) (⟨rfl, (Ch.rf), _, rfl, by decide⟩)
  · have h_6f := c_6
    refine sx_aload_n (pc := 9) dX0_lend_9 rfl rfl ?_
    refine sx_getr (pc := 10) (ci := 0) (j := 3) (r := 60) dX0_lend_10 rfl s_Ho rfl (by decide) lf_X0_23 ?_
    refine sx_iload_n (pc := 13) dX0_lend_13 rfl rfl ?_
    refine sx_aald (pc := 14) (r := 61 + it.toNatClampNeg) dX0_lend_14 s_queues rfl rfl (vp_in_lt (n := 30) ht.1 ht.2 (by decide)) (el_queues _ hi) ?_
    refine sx_iconst (pc := 15) (v := 0) dX0_lend_15 (by decide) ?_
    refine sx_iald (pc := 16) dX0_lend_16 (s_qrow _ hi) (by decide) rfl (by unfold vp_in; decide) ?_
    refine sx_iload_n (pc := 17) dX0_lend_17 rfl rfl ?_
    refine sx_icmp_ne (pc := 18) (tgt := 25) dX0_lend_18 (by decide) (fun c_18 => ?_) (fun c_18 => ?_)
    · have h_18t := c_18
      refine sx_iconst (pc := 25) (v := 0) dX0_lend_25 (by decide) ?_
      refine sx_istore_n (pc := 26) (L' := [some (.ref (X.2 + 56)), some (.int ps), some (.int it), some (.int 0)]) dX0_lend_26 rfl (by decide) rfl ?_
      refine sx_aload_n (pc := 27) dX0_lend_27 rfl rfl ?_
      refine sx_getr (pc := 28) (ci := 0) (j := 1) (r := 58) dX0_lend_28 rfl s_Ho rfl (by decide) lf_X0_15 ?_
      refine sx_iload_n (pc := 31) dX0_lend_31 rfl rfl ?_
      refine sx_iald (pc := 32) dX0_lend_32 s_borr (by decide) rfl (vp_in_lt (n := 30) ht.1 ht.2 (by decide)) ?_
      refine sx_iconst (pc := 33) (v := (-1)) dX0_lend_33 (by decide) ?_
      refine sx_icmp_ne (pc := 34) (tgt := 53) dX0_lend_34 (by decide) (fun c_34 => ?_) (fun c_34 => ?_)
      · have h_34t := c_34
        refine sx_iconst (pc := 53) (v := 0) dX0_lend_53 (by decide) ?_
        exact sx_iret (pc := 54) dX0_lend_54 rfl rfl (Nat.zero_le _) (Nat.zero_le _) (⟨rfl, (Ch.rf), _, rfl, by decide⟩)
      · have h_34f := c_34
        refine sx_iload_n (pc := 37) dX0_lend_37 rfl rfl ?_
        refine sx_if_eq (pc := 38) (tgt := 53) dX0_lend_38 (by decide) (fun c_38 => ?_) (fun c_38 => absurd c_38 (by decide))
        refine sx_iconst (pc := 53) (v := 0) dX0_lend_53 (by decide) ?_
        exact sx_iret (pc := 54) dX0_lend_54 rfl rfl (Nat.zero_le _) (Nat.zero_le _) (⟨rfl, (Ch.rf), _, rfl, by decide⟩)
    · have h_18f := c_18
      refine sx_iconst (pc := 21) (v := 1) dX0_lend_21 (by decide) ?_
      refine sx_goto (pc := 22) (tgt := 26) dX0_lend_22 (by decide) ?_
      refine sx_istore_n (pc := 26) (L' := [some (.ref (X.2 + 56)), some (.int ps), some (.int it), some (.int 1)]) dX0_lend_26 rfl (by decide) rfl ?_
      refine sx_aload_n (pc := 27) dX0_lend_27 rfl rfl ?_
      refine sx_getr (pc := 28) (ci := 0) (j := 1) (r := 58) dX0_lend_28 rfl s_Ho rfl (by decide) lf_X0_15 ?_
      refine sx_iload_n (pc := 31) dX0_lend_31 rfl rfl ?_
      refine sx_iald (pc := 32) dX0_lend_32 s_borr (by decide) rfl (vp_in_lt (n := 30) ht.1 ht.2 (by decide)) ?_
      refine sx_iconst (pc := 33) (v := (-1)) dX0_lend_33 (by decide) ?_
      refine sx_icmp_ne (pc := 34) (tgt := 53) dX0_lend_34 (by decide) (fun c_34 => ?_) (fun c_34 => ?_)
      · have h_34t := c_34
        refine sx_iconst (pc := 53) (v := 0) dX0_lend_53 (by decide) ?_
        exact sx_iret (pc := 54) dX0_lend_54 rfl rfl (Nat.zero_le _) (Nat.zero_le _) (⟨rfl, (Ch.rf), _, rfl, by decide⟩)
      · have h_34f := c_34
        refine sx_iload_n (pc := 37) dX0_lend_37 rfl rfl ?_
        refine sx_if_eq (pc := 38) (tgt := 53) dX0_lend_38 (by decide) (fun c_38 => absurd c_38 (by decide)) (fun c_38 => ?_)
        refine sx_aload_n (pc := 41) dX0_lend_41 rfl rfl ?_
        refine sx_getr (pc := 42) (ci := 0) (j := 0) (r := 57) dX0_lend_42 rfl s_Ho rfl (by decide) lf_X0_9 ?_
        refine sx_iload_n (pc := 45) dX0_lend_45 rfl rfl ?_
        refine sx_iald (pc := 46) dX0_lend_46 s_debts (by decide) rfl (vp_in_lt (n := 30) hp.1 hp.2 (by decide)) ?_
        refine sx_sipush (pc := 47) (v := 500) dX0_lend_47 (by decide) ?_
        refine sx_icmp_le (pc := 50) (tgt := 55) dX0_lend_50 (by decide) (fun c_50 => ?_) (fun c_50 => ?_)
        · have h_50t := c_50
          refine sx_aload_n (pc := 55) dX0_lend_55 rfl rfl ?_
          refine sx_iload_n (pc := 56) dX0_lend_56 rfl rfl ?_
          refine sx_callV (pc := 57) (As := [.int it]) dX0_lend_57 (c_drop X Ex hE μ _ ht hL) mX0_dropFirst lm_X0_65 rfl s_Ho rfl ⟨Nat.le_of_ble_eq_true rfl, Nat.le_of_ble_eq_true rfl⟩ ⟨Nat.le_of_ble_eq_true rfl, Nat.le_of_ble_eq_true rfl⟩ (Nat.le_of_ble_eq_true rfl) hE (fun r_57 sh1 μ4 h_57 => ?_)
          obtain ⟨rfl, rfl, k_57⟩ := h_57
          refine sx_aload_n (pc := 60) dX0_lend_60 rfl rfl ?_
          refine sx_getr (pc := 61) (ci := 0) (j := 1) (r := 58) dX0_lend_61 rfl s_Ho rfl (by decide) lf_X0_15 ?_
          refine sx_iload_n (pc := 64) dX0_lend_64 rfl rfl ?_
          refine sx_iload_n (pc := 65) dX0_lend_65 rfl rfl ?_
          refine sx_iast (pc := 66) dX0_lend_66 s_borr (by decide) rfl (vp_in_lt (n := 30) ht.1 ht.2 (by decide)) (fun μ5 hμ5 => ?_)
          refine sx_aload_n (pc := 67) dX0_lend_67 rfl rfl ?_
          refine sx_getr (pc := 68) (ci := 0) (j := 2) (r := 59) dX0_lend_68 rfl s_Ho rfl (by decide) lf_X0_18 ?_
          refine sx_iload_n (pc := 71) dX0_lend_71 rfl rfl ?_
          refine sx_iconst (pc := 72) (v := 0) dX0_lend_72 (by decide) ?_
          refine sx_iast (pc := 73) dX0_lend_73 s_rene (by decide) rfl (vp_in_lt (n := 30) ht.1 ht.2 (by decide)) (fun μ6 hμ6 => ?_)
          refine sx_iconst (pc := 74) (v := 1) dX0_lend_74 (by decide) ?_
          exact sx_iret (pc := 75) dX0_lend_75 rfl rfl (Nat.zero_le _) (Nat.zero_le _) (⟨rfl, (Ch.put (Ch.put (Ch.trans (Ch.rf) k_57) hμ5 (by omega) (LB.off hμ5 ⟨by omega, fun _ _ => by omega⟩)) hμ6 (by omega) (LB.off hμ6 ⟨by omega, fun _ _ => by omega⟩)), _, rfl, by decide⟩)
        · have h_50f := c_50
          refine sx_iconst (pc := 53) (v := 0) dX0_lend_53 (by decide) ?_
          exact sx_iret (pc := 54) dX0_lend_54 rfl rfl (Nat.zero_le _) (Nat.zero_le _) (⟨rfl, (Ch.rf), _, rfl, by decide⟩)
set_option maxHeartbeats 1000000 in
set_option maxRecDepth 20000 in
theorem c_bring (X : xD) (Ex : State → Prop) (hE : xEs X false shA.length Ex) (μ : xM) (it : Int32) (ht : 0 ≤ it ∧ it < 30) : Ct X Ex false yX0_bringBack kX0_bringBack (rmN 0) [.ref (X.2 + 56), .int it] shA μ (fun r sh' μ' => shA = sh' ∧ Ch SH μ μ' ∧ ∃ x : Int32, r = some (.int x) ∧ (x = 0 ∨ x = 1)) := by
  refine Ct.of (L0 := [some (.ref (X.2 + 56)), some (.int it)]) (by decide) rfl (fun h => by cases h) (by simp [Value.category]) (Nat.le_of_ble_eq_true rfl) rfl (fun l => ?_)
  refine sx_aload_n (pc := 0) dX0_bringBack_0 rfl rfl ?_
  refine sx_getr (pc := 1) (ci := 0) (j := 1) (r := 58) dX0_bringBack_1 rfl s_Ho rfl (by decide) lf_X0_15 ?_
  refine sx_iload_n (pc := 4) dX0_bringBack_4 rfl rfl ?_
  refine sx_iald (pc := 5) dX0_bringBack_5 s_borr (by decide) rfl (vp_in_lt (n := 30) ht.1 ht.2 (by decide)) ?_
  refine sx_iconst (pc := 6) (v := (-1)) dX0_bringBack_6 (by decide) ?_
  refine sx_icmp_ne (pc := 7) (tgt := 12) dX0_bringBack_7 (by decide) (fun c_7 => ?_) (fun c_7 => ?_)
  · have h_7t := c_7
    refine sx_aload_n (pc := 12) dX0_bringBack_12 rfl rfl ?_
    refine sx_getr (pc := 13) (ci := 0) (j := 1) (r := 58) dX0_bringBack_13 rfl s_Ho rfl (by decide) lf_X0_15 ?_
    refine sx_iload_n (pc := 16) dX0_bringBack_16 rfl rfl ?_
    refine sx_iconst (pc := 17) (v := (-1)) dX0_bringBack_17 (by decide) ?_
    refine sx_iast (pc := 18) dX0_bringBack_18 s_borr (by decide) rfl (vp_in_lt (n := 30) ht.1 ht.2 (by decide)) (fun μ1 hμ1 => ?_)
    refine sx_iconst (pc := 19) (v := 1) dX0_bringBack_19 (by decide) ?_
    exact sx_iret (pc := 20) dX0_bringBack_20 rfl rfl (Nat.zero_le _) (Nat.zero_le _) (⟨rfl, (Ch.put (Ch.rf) hμ1 (by omega) (LB.off hμ1 ⟨by omega, fun _ _ => by omega⟩)), _, rfl, by decide⟩)
  · have h_7f := c_7
    refine sx_iconst (pc := 10) (v := 0) dX0_bringBack_10 (by decide) ?_
    exact sx_iret (pc := 11) dX0_bringBack_11 rfl rfl (Nat.zero_le _) (Nat.zero_le _) (⟨rfl, (Ch.rf), _, rfl, by decide⟩)
set_option maxHeartbeats 1000000 in
set_option maxRecDepth 20000 in
theorem c_pay (X : xD) (Ex : State → Prop) (hE : xEs X false shA.length Ex) (μ : xM) (ps : Int32) (hp : 0 ≤ ps ∧ ps < 30) (c : Int32) : Ct X Ex false yX0_pay kX0_pay (rmN 0) [.ref (X.2 + 56), .int ps, .int c] shA μ (fun r sh' μ' => shA = sh' ∧ Ch SH μ μ' ∧ ∃ x : Int32, r = some (.int x) ∧ (x = 0 ∨ x = 1)) := by
  refine Ct.of (L0 := [some (.ref (X.2 + 56)), some (.int ps), some (.int c)]) (by decide) rfl (fun h => by cases h) (by simp [Value.category]) (Nat.le_of_ble_eq_true rfl) rfl (fun l => ?_)
  refine sx_iload_n (pc := 0) dX0_pay_0 rfl rfl ?_
  refine sx_aload_n (pc := 1) dX0_pay_1 rfl rfl ?_
  refine sx_getr (pc := 2) (ci := 0) (j := 0) (r := 57) dX0_pay_2 rfl s_Ho rfl (by decide) lf_X0_9 ?_
  refine sx_iload_n (pc := 5) dX0_pay_5 rfl rfl ?_
  refine sx_iald (pc := 6) dX0_pay_6 s_debts (by decide) rfl (vp_in_lt (n := 30) hp.1 hp.2 (by decide)) ?_
  refine sx_icmp_le (pc := 7) (tgt := 12) dX0_pay_7 (by decide) (fun c_7 => ?_) (fun c_7 => ?_)
  · have h_7t := c_7
    refine sx_aload_n (pc := 12) dX0_pay_12 rfl rfl ?_
    refine sx_getr (pc := 13) (ci := 0) (j := 0) (r := 57) dX0_pay_13 rfl s_Ho rfl (by decide) lf_X0_9 ?_
    refine sx_iload_n (pc := 16) dX0_pay_16 rfl rfl ?_
    refine sx_dup2 (pc := 17) dX0_pay_17 rfl rfl ?_
    refine sx_iald (pc := 18) dX0_pay_18 s_debts (by decide) rfl (vp_in_lt (n := 30) hp.1 hp.2 (by decide)) ?_
    refine sx_iload_n (pc := 19) dX0_pay_19 rfl rfl ?_
    refine sx_isub (pc := 20) dX0_pay_20 ?_
    refine sx_iast (pc := 21) dX0_pay_21 s_debts (by decide) rfl (vp_in_lt (n := 30) hp.1 hp.2 (by decide)) (fun μ1 hμ1 => ?_)
    refine sx_iconst (pc := 22) (v := 1) dX0_pay_22 (by decide) ?_
    exact sx_iret (pc := 23) dX0_pay_23 rfl rfl (Nat.zero_le _) (Nat.zero_le _) (⟨rfl, (Ch.put (Ch.rf) hμ1 (by omega) (LB.off hμ1 ⟨by omega, fun _ _ => by omega⟩)), _, rfl, by decide⟩)
  · have h_7f := c_7
    refine sx_iconst (pc := 10) (v := 0) dX0_pay_10 (by decide) ?_
    exact sx_iret (pc := 11) dX0_pay_11 rfl rfl (Nat.zero_le _) (Nat.zero_le _) (⟨rfl, (Ch.rf), _, rfl, by decide⟩)
set_option maxHeartbeats 1000000 in
set_option maxRecDepth 20000 in
theorem l_inq {X : xD} {Ex : State → Prop} {l : Launch} {ps : Int32} {it : Int32} (ht : 0 ≤ it ∧ it < 30) {q : Nat} (hq : q ≤ 30) {μ : xM} (hμq : μ 91 it.toNatClampNeg = nI q) : ∀ (t j : Nat), q - j ≤ t → j ≤ q → sx l (rmN 0) X Ex false kX0_isInQueue shA.length (xZ X false shA.length (fun r sh' μ' => shA = sh' ∧ μ = μ' ∧ ∃ x : Int32, r = some (.int x) ∧ (x = 0 ∨ x = 1)) 0 0) 2 [some (.ref (X.2 + 56)), some (.int ps), some (.int it), some (.int (nI j))] [] shA μ 0 0 := by
  have hi := clamp_lt (n := 30) ht.1 ht.2 (by decide)
  intro t
  induction t with
  | zero =>
    intro j htt hj
    refine sx_iload_n (pc := 2) dX0_isInQueue_2 rfl rfl ?_
    refine sx_aload_n (pc := 3) dX0_isInQueue_3 rfl rfl ?_
    refine sx_getr (pc := 4) (ci := 0) (j := 4) (r := 91) dX0_isInQueue_4 rfl s_Ho rfl (by decide) lf_X0_26 ?_
    refine sx_iload_n (pc := 7) dX0_isInQueue_7 rfl rfl ?_
    refine sx_iald (pc := 8) dX0_isInQueue_8 s_qlen (by decide) rfl (vp_in_lt (n := 30) ht.1 ht.2 (by decide)) ?_
    refine sx_icmp_ge (pc := 9) (tgt := 32) dX0_isInQueue_9 (by decide) (fun c_9 => ?_) (fun c_9 => absurd (by rw [hμq]; exact nI_le (by omega) (by omega)) c_9)
    refine sx_iconst (pc := 32) (v := 0) dX0_isInQueue_32 (by decide) ?_
    exact sx_iret (pc := 33) dX0_isInQueue_33 rfl rfl (Nat.zero_le _) (Nat.zero_le _) (⟨rfl, rfl, _, rfl, by decide⟩)
  | succ t ih =>
    intro j htt hj
    refine sx_iload_n (pc := 2) dX0_isInQueue_2 rfl rfl ?_
    refine sx_aload_n (pc := 3) dX0_isInQueue_3 rfl rfl ?_
    refine sx_getr (pc := 4) (ci := 0) (j := 4) (r := 91) dX0_isInQueue_4 rfl s_Ho rfl (by decide) lf_X0_26 ?_
    refine sx_iload_n (pc := 7) dX0_isInQueue_7 rfl rfl ?_
    refine sx_iald (pc := 8) dX0_isInQueue_8 s_qlen (by decide) rfl (vp_in_lt (n := 30) ht.1 ht.2 (by decide)) ?_
    refine sx_icmp_ge (pc := 9) (tgt := 32) dX0_isInQueue_9 (by decide) (fun c_9 => ?_) (fun c_9 => ?_)
    · have h_9t := c_9
      refine sx_iconst (pc := 32) (v := 0) dX0_isInQueue_32 (by decide) ?_
      exact sx_iret (pc := 33) dX0_isInQueue_33 rfl rfl (Nat.zero_le _) (Nat.zero_le _) (⟨rfl, rfl, _, rfl, by decide⟩)
    · have h_9f := c_9
      have hlt : j < q := Nat.lt_of_not_le fun z => h_9f (by rw [hμq]; exact nI_le z (by omega))
      refine sx_aload_n (pc := 12) dX0_isInQueue_12 rfl rfl ?_
      refine sx_getr (pc := 13) (ci := 0) (j := 3) (r := 60) dX0_isInQueue_13 rfl s_Ho rfl (by decide) lf_X0_23 ?_
      refine sx_iload_n (pc := 16) dX0_isInQueue_16 rfl rfl ?_
      refine sx_aald (pc := 17) (r := 61 + it.toNatClampNeg) dX0_isInQueue_17 s_queues rfl rfl (vp_in_lt (n := 30) ht.1 ht.2 (by decide)) (el_queues _ hi) ?_
      refine sx_iload_n (pc := 18) dX0_isInQueue_18 rfl rfl ?_
      refine sx_iald (pc := 19) dX0_isInQueue_19 (s_qrow _ hi) (by decide) rfl (vp_in_nI (by omega) (by decide)) ?_
      refine sx_iload_n (pc := 20) dX0_isInQueue_20 rfl rfl ?_
      refine sx_icmp_ne (pc := 21) (tgt := 26) dX0_isInQueue_21 (by decide) (fun c_21 => ?_) (fun c_21 => ?_)
      · have h_21t := c_21
        refine sx_iinc (pc := 26) (v := nI (j + 1)) (L' := [some (.ref (X.2 + 56)), some (.int ps), some (.int it), some (.int (nI (j + 1)))]) dX0_isInQueue_26 rfl (nI_1 j) (by decide) rfl ?_
        refine sx_goto (pc := 29) (tgt := 2) dX0_isInQueue_29 (by decide) ?_
        exact ih (j + 1) (by omega) (by omega)
      · have h_21f := c_21
        refine sx_iconst (pc := 24) (v := 1) dX0_isInQueue_24 (by decide) ?_
        exact sx_iret (pc := 25) dX0_isInQueue_25 rfl rfl (Nat.zero_le _) (Nat.zero_le _) (⟨rfl, rfl, _, rfl, by decide⟩)
set_option maxHeartbeats 1000000 in
set_option maxRecDepth 20000 in
theorem c_inq (X : xD) (Ex : State → Prop) (hE : xEs X false shA.length Ex) (μ : xM) (ps : Int32) (it : Int32) (ht : 0 ≤ it ∧ it < 30) (hL : LB μ) : Ct X Ex false yX0_isInQueue kX0_isInQueue (rmN 0) [.ref (X.2 + 56), .int ps, .int it] shA μ (fun r sh' μ' => shA = sh' ∧ μ = μ' ∧ ∃ x : Int32, r = some (.int x) ∧ (x = 0 ∨ x = 1)) := by
  refine Ct.of (L0 := [some (.ref (X.2 + 56)), some (.int ps), some (.int it), none]) (by decide) rfl (fun h => by cases h) (by simp [Value.category]) (Nat.le_of_ble_eq_true rfl) rfl (fun l => ?_)
  have hi := clamp_lt (n := 30) ht.1 ht.2 (by decide)
  obtain ⟨q, hq, hμq⟩ := qlen_nat hL hi
  refine sx_iconst (pc := 0) (v := 0) dX0_isInQueue_0 (by decide) ?_
  refine sx_istore_n (pc := 1) (L' := [some (.ref (X.2 + 56)), some (.int ps), some (.int it), some (.int 0)]) dX0_isInQueue_1 rfl (by decide) rfl ?_
  exact l_inq ht hq hμq 30 0 (by omega) (Nat.zero_le _)
set_option maxHeartbeats 1000000 in
set_option maxRecDepth 20000 in
theorem c_queueUp (X : xD) (Ex : State → Prop) (hE : xEs X false shA.length Ex) (μ : xM) (ps : Int32) (hp : 0 ≤ ps ∧ ps < 30) (it : Int32) (ht : 0 ≤ it ∧ it < 30) (hL : LB μ) : Ct X Ex false yX0_queueUp kX0_queueUp (rmN 1) [.ref (X.2 + 56), .int ps, .int it] shA μ (fun r sh' μ' => shA = sh' ∧ Ch SH μ μ' ∧ ∃ x : Int32, r = some (.int x) ∧ (x = 0 ∨ x = 1)) := by
  refine Ct.of (L0 := [some (.ref (X.2 + 56)), some (.int ps), some (.int it), none, none]) (by decide) rfl (fun h => by cases h) (by simp [Value.category]) (Nat.le_of_ble_eq_true rfl) rfl (fun l => ?_)
  have hi := clamp_lt (n := 30) ht.1 ht.2 (by decide)
  refine sx_aload_n (pc := 0) dX0_queueUp_0 rfl rfl ?_
  refine sx_getr (pc := 1) (ci := 0) (j := 1) (r := 58) dX0_queueUp_1 rfl s_Ho rfl (by decide) lf_X0_15 ?_
  refine sx_iload_n (pc := 4) dX0_queueUp_4 rfl rfl ?_
  refine sx_iald (pc := 5) dX0_queueUp_5 s_borr (by decide) rfl (vp_in_lt (n := 30) ht.1 ht.2 (by decide)) ?_
  refine sx_iconst (pc := 6) (v := (-1)) dX0_queueUp_6 (by decide) ?_
  refine sx_icmp_eq (pc := 7) (tgt := 24) dX0_queueUp_7 (by decide) (fun c_7 => ?_) (fun c_7 => ?_)
  · have h_7t := c_7
    refine sx_iconst (pc := 24) (v := 0) dX0_queueUp_24 (by decide) ?_
    refine sx_istore_n (pc := 25) (L' := [some (.ref (X.2 + 56)), some (.int ps), some (.int it), some (.int 0), none]) dX0_queueUp_25 rfl (by decide) rfl ?_
    refine sx_aload_n (pc := 26) dX0_queueUp_26 rfl rfl ?_
    refine sx_getr (pc := 27) (ci := 0) (j := 4) (r := 91) dX0_queueUp_27 rfl s_Ho rfl (by decide) lf_X0_26 ?_
    refine sx_iload_n (pc := 30) dX0_queueUp_30 rfl rfl ?_
    refine sx_iald (pc := 31) dX0_queueUp_31 s_qlen (by decide) rfl (vp_in_lt (n := 30) ht.1 ht.2 (by decide)) ?_
    refine sx_istore (pc := 32) (L' := [some (.ref (X.2 + 56)), some (.int ps), some (.int it), some (.int 0), some (.int (μ 91 it.toNatClampNeg))]) dX0_queueUp_32 (by decide) rfl ?_
    refine sx_iload_n (pc := 34) dX0_queueUp_34 rfl rfl ?_
    refine sx_if_eq (pc := 35) (tgt := 57) dX0_queueUp_35 (by decide) (fun c_35 => ?_) (fun c_35 => absurd c_35 (by decide))
    refine sx_iconst (pc := 57) (v := 0) dX0_queueUp_57 (by decide) ?_
    exact sx_iret (pc := 58) dX0_queueUp_58 rfl rfl (Nat.zero_le _) (Nat.zero_le _) (⟨rfl, (Ch.rf), _, rfl, by decide⟩)
  · have h_7f := c_7
    refine sx_aload_n (pc := 10) dX0_queueUp_10 rfl rfl ?_
    refine sx_getr (pc := 11) (ci := 0) (j := 1) (r := 58) dX0_queueUp_11 rfl s_Ho rfl (by decide) lf_X0_15 ?_
    refine sx_iload_n (pc := 14) dX0_queueUp_14 rfl rfl ?_
    refine sx_iald (pc := 15) dX0_queueUp_15 s_borr (by decide) rfl (vp_in_lt (n := 30) ht.1 ht.2 (by decide)) ?_
    refine sx_iload_n (pc := 16) dX0_queueUp_16 rfl rfl ?_
    refine sx_icmp_eq (pc := 17) (tgt := 24) dX0_queueUp_17 (by decide) (fun c_17 => ?_) (fun c_17 => ?_)
    · have h_17t := c_17
      refine sx_iconst (pc := 24) (v := 0) dX0_queueUp_24 (by decide) ?_
      refine sx_istore_n (pc := 25) (L' := [some (.ref (X.2 + 56)), some (.int ps), some (.int it), some (.int 0), none]) dX0_queueUp_25 rfl (by decide) rfl ?_
      refine sx_aload_n (pc := 26) dX0_queueUp_26 rfl rfl ?_
      refine sx_getr (pc := 27) (ci := 0) (j := 4) (r := 91) dX0_queueUp_27 rfl s_Ho rfl (by decide) lf_X0_26 ?_
      refine sx_iload_n (pc := 30) dX0_queueUp_30 rfl rfl ?_
      refine sx_iald (pc := 31) dX0_queueUp_31 s_qlen (by decide) rfl (vp_in_lt (n := 30) ht.1 ht.2 (by decide)) ?_
      refine sx_istore (pc := 32) (L' := [some (.ref (X.2 + 56)), some (.int ps), some (.int it), some (.int 0), some (.int (μ 91 it.toNatClampNeg))]) dX0_queueUp_32 (by decide) rfl ?_
      refine sx_iload_n (pc := 34) dX0_queueUp_34 rfl rfl ?_
      refine sx_if_eq (pc := 35) (tgt := 57) dX0_queueUp_35 (by decide) (fun c_35 => ?_) (fun c_35 => absurd c_35 (by decide))
      refine sx_iconst (pc := 57) (v := 0) dX0_queueUp_57 (by decide) ?_
      exact sx_iret (pc := 58) dX0_queueUp_58 rfl rfl (Nat.zero_le _) (Nat.zero_le _) (⟨rfl, (Ch.rf), _, rfl, by decide⟩)
    · have h_17f := c_17
      refine sx_iconst (pc := 20) (v := 1) dX0_queueUp_20 (by decide) ?_
      refine sx_goto (pc := 21) (tgt := 25) dX0_queueUp_21 (by decide) ?_
      refine sx_istore_n (pc := 25) (L' := [some (.ref (X.2 + 56)), some (.int ps), some (.int it), some (.int 1), none]) dX0_queueUp_25 rfl (by decide) rfl ?_
      refine sx_aload_n (pc := 26) dX0_queueUp_26 rfl rfl ?_
      refine sx_getr (pc := 27) (ci := 0) (j := 4) (r := 91) dX0_queueUp_27 rfl s_Ho rfl (by decide) lf_X0_26 ?_
      refine sx_iload_n (pc := 30) dX0_queueUp_30 rfl rfl ?_
      refine sx_iald (pc := 31) dX0_queueUp_31 s_qlen (by decide) rfl (vp_in_lt (n := 30) ht.1 ht.2 (by decide)) ?_
      refine sx_istore (pc := 32) (L' := [some (.ref (X.2 + 56)), some (.int ps), some (.int it), some (.int 1), some (.int (μ 91 it.toNatClampNeg))]) dX0_queueUp_32 (by decide) rfl ?_
      refine sx_iload_n (pc := 34) dX0_queueUp_34 rfl rfl ?_
      refine sx_if_eq (pc := 35) (tgt := 57) dX0_queueUp_35 (by decide) (fun c_35 => absurd c_35 (by decide)) (fun c_35 => ?_)
      refine sx_aload_n (pc := 38) dX0_queueUp_38 rfl rfl ?_
      refine sx_iload_n (pc := 39) dX0_queueUp_39 rfl rfl ?_
      refine sx_iload_n (pc := 40) dX0_queueUp_40 rfl rfl ?_
      refine sx_callV (pc := 41) (As := [.int ps, .int it]) dX0_queueUp_41 (c_inq X Ex hE μ _ _ ht hL) mX0_isInQueue lm_X0_69 rfl s_Ho rfl ⟨Nat.le_of_ble_eq_true rfl, Nat.le_of_ble_eq_true rfl⟩ ⟨Nat.le_of_ble_eq_true rfl, Nat.le_of_ble_eq_true rfl⟩ (Nat.le_of_ble_eq_true rfl) hE (fun r_41 sh1 μ1 h_41 => ?_)
      obtain ⟨rfl, rfl, x_41, rfl, hx_41⟩ := h_41
      refine sx_if_ne (pc := 44) (tgt := 57) dX0_queueUp_44 (by decide) (fun c_44 => ?_) (fun c_44 => ?_)
      · have h_44t := c_44
        refine sx_iconst (pc := 57) (v := 0) dX0_queueUp_57 (by decide) ?_
        exact sx_iret (pc := 58) dX0_queueUp_58 rfl rfl (Nat.zero_le _) (Nat.zero_le _) (⟨rfl, (Ch.rf), _, rfl, by decide⟩)
      · have h_44f := c_44
        refine sx_iload (pc := 47) dX0_queueUp_47 rfl ?_
        refine sx_bipush (pc := 49) (v := 30) dX0_queueUp_49 (by decide) ?_
        refine sx_callSN (host := "ExchangeWire") (pc := 51) (As := [.int (μ 91 it.toNatClampNeg), .int 30]) dX0_queueUp_51 (c_isBelow X Ex false shA μ _ _) mX5_isBelow (by decide +kernel) rfl ⟨Nat.le_of_ble_eq_true rfl, Nat.le_of_ble_eq_true rfl⟩ ⟨Nat.le_of_ble_eq_true rfl, Nat.le_of_ble_eq_true rfl⟩ (Nat.le_of_ble_eq_true rfl) hE (fun r_51 sh1 μ2 h_51 => ?_)
        obtain ⟨rfl, rfl, x_51, rfl, hx_51⟩ := h_51
        refine sx_if_ne (pc := 54) (tgt := 59) dX0_queueUp_54 (by decide) (fun c_54 => ?_) (fun c_54 => ?_)
        · have h_54t := c_54
          refine sx_aload_n (pc := 59) dX0_queueUp_59 rfl rfl ?_
          refine sx_getr (pc := 60) (ci := 0) (j := 3) (r := 60) dX0_queueUp_60 rfl s_Ho rfl (by decide) lf_X0_23 ?_
          refine sx_iload_n (pc := 63) dX0_queueUp_63 rfl rfl ?_
          refine sx_aald (pc := 64) (r := 61 + it.toNatClampNeg) dX0_queueUp_64 s_queues rfl rfl (vp_in_lt (n := 30) ht.1 ht.2 (by decide)) (el_queues _ hi) ?_
          refine sx_iload (pc := 65) dX0_queueUp_65 rfl ?_
          refine sx_iload_n (pc := 67) dX0_queueUp_67 rfl rfl ?_
          refine sx_iast (pc := 68) dX0_queueUp_68 (s_qrow _ hi) (by decide) rfl (vp_in_lt (n := 30) (isB_t hx_51 h_54t).1 (isB_t hx_51 h_54t).2 (by decide)) (fun μ3 hμ3 => ?_)
          refine sx_aload_n (pc := 69) dX0_queueUp_69 rfl rfl ?_
          refine sx_getr (pc := 70) (ci := 0) (j := 4) (r := 91) dX0_queueUp_70 rfl s_Ho rfl (by decide) lf_X0_26 ?_
          refine sx_iload_n (pc := 73) dX0_queueUp_73 rfl rfl ?_
          refine sx_iload (pc := 74) dX0_queueUp_74 rfl ?_
          refine sx_iconst (pc := 76) (v := 1) dX0_queueUp_76 (by decide) ?_
          refine sx_iadd (pc := 77) dX0_queueUp_77 ?_
          refine sx_iast (pc := 78) dX0_queueUp_78 s_qlen (by decide) rfl (vp_in_lt (n := 30) ht.1 ht.2 (by decide)) (fun μ4 hμ4 => ?_)
          refine sx_iconst (pc := 79) (v := 1) dX0_queueUp_79 (by decide) ?_
          exact sx_iret (pc := 80) dX0_queueUp_80 rfl rfl (Nat.zero_le _) (Nat.zero_le _) (⟨rfl, (Ch.put (Ch.put (Ch.rf) hμ3 (by omega) (LB.off hμ3 ⟨by omega, fun _ _ => by omega⟩)) hμ4 (by omega) (LB.qln hμ4 (fun _ => inc30 (isB_t hx_51 h_54t)))), _, rfl, by decide⟩)
        · have h_54f := c_54
          refine sx_iconst (pc := 57) (v := 0) dX0_queueUp_57 (by decide) ?_
          exact sx_iret (pc := 58) dX0_queueUp_58 rfl rfl (Nat.zero_le _) (Nat.zero_le _) (⟨rfl, (Ch.rf), _, rfl, by decide⟩)
set_option maxHeartbeats 1000000 in
set_option maxRecDepth 20000 in
theorem c_renew (X : xD) (Ex : State → Prop) (hE : xEs X false shA.length Ex) (μ : xM) (ps : Int32) (hp : 0 ≤ ps ∧ ps < 30) (it : Int32) (ht : 0 ≤ it ∧ it < 30) : Ct X Ex false yX0_renew kX0_renew (rmN 0) [.ref (X.2 + 56), .int ps, .int it] shA μ (fun r sh' μ' => shA = sh' ∧ Ch SH μ μ' ∧ ∃ x : Int32, r = some (.int x) ∧ (x = 0 ∨ x = 1)) := by
  refine Ct.of (L0 := [some (.ref (X.2 + 56)), some (.int ps), some (.int it), none]) (by decide) rfl (fun h => by cases h) (by simp [Value.category]) (Nat.le_of_ble_eq_true rfl) rfl (fun l => ?_)
  have hi := clamp_lt (n := 30) ht.1 ht.2 (by decide)
  refine sx_aload_n (pc := 0) dX0_renew_0 rfl rfl ?_
  refine sx_getr (pc := 1) (ci := 0) (j := 1) (r := 58) dX0_renew_1 rfl s_Ho rfl (by decide) lf_X0_15 ?_
  refine sx_iload_n (pc := 4) dX0_renew_4 rfl rfl ?_
  refine sx_iald (pc := 5) dX0_renew_5 s_borr (by decide) rfl (vp_in_lt (n := 30) ht.1 ht.2 (by decide)) ?_
  refine sx_iload_n (pc := 6) dX0_renew_6 rfl rfl ?_
  refine sx_icmp_ne (pc := 7) (tgt := 14) dX0_renew_7 (by decide) (fun c_7 => ?_) (fun c_7 => ?_)
  · have h_7t := c_7
    refine sx_iconst (pc := 14) (v := 0) dX0_renew_14 (by decide) ?_
    refine sx_istore_n (pc := 15) (L' := [some (.ref (X.2 + 56)), some (.int ps), some (.int it), some (.int 0)]) dX0_renew_15 rfl (by decide) rfl ?_
    refine sx_iload_n (pc := 16) dX0_renew_16 rfl rfl ?_
    refine sx_if_eq (pc := 17) (tgt := 39) dX0_renew_17 (by decide) (fun c_17 => ?_) (fun c_17 => absurd c_17 (by decide))
    refine sx_iconst (pc := 39) (v := 0) dX0_renew_39 (by decide) ?_
    exact sx_iret (pc := 40) dX0_renew_40 rfl rfl (Nat.zero_le _) (Nat.zero_le _) (⟨rfl, (Ch.rf), _, rfl, by decide⟩)
  · have h_7f := c_7
    refine sx_iconst (pc := 10) (v := 1) dX0_renew_10 (by decide) ?_
    refine sx_goto (pc := 11) (tgt := 15) dX0_renew_11 (by decide) ?_
    refine sx_istore_n (pc := 15) (L' := [some (.ref (X.2 + 56)), some (.int ps), some (.int it), some (.int 1)]) dX0_renew_15 rfl (by decide) rfl ?_
    refine sx_iload_n (pc := 16) dX0_renew_16 rfl rfl ?_
    refine sx_if_eq (pc := 17) (tgt := 39) dX0_renew_17 (by decide) (fun c_17 => absurd c_17 (by decide)) (fun c_17 => ?_)
    refine sx_aload_n (pc := 20) dX0_renew_20 rfl rfl ?_
    refine sx_getr (pc := 21) (ci := 0) (j := 4) (r := 91) dX0_renew_21 rfl s_Ho rfl (by decide) lf_X0_26 ?_
    refine sx_iload_n (pc := 24) dX0_renew_24 rfl rfl ?_
    refine sx_iald (pc := 25) dX0_renew_25 s_qlen (by decide) rfl (vp_in_lt (n := 30) ht.1 ht.2 (by decide)) ?_
    refine sx_if_gt (pc := 26) (tgt := 39) dX0_renew_26 (by decide) (fun c_26 => ?_) (fun c_26 => ?_)
    · have h_26t := c_26
      refine sx_iconst (pc := 39) (v := 0) dX0_renew_39 (by decide) ?_
      exact sx_iret (pc := 40) dX0_renew_40 rfl rfl (Nat.zero_le _) (Nat.zero_le _) (⟨rfl, (Ch.rf), _, rfl, by decide⟩)
    · have h_26f := c_26
      refine sx_aload_n (pc := 29) dX0_renew_29 rfl rfl ?_
      refine sx_getr (pc := 30) (ci := 0) (j := 2) (r := 59) dX0_renew_30 rfl s_Ho rfl (by decide) lf_X0_18 ?_
      refine sx_iload_n (pc := 33) dX0_renew_33 rfl rfl ?_
      refine sx_iald (pc := 34) dX0_renew_34 s_rene (by decide) rfl (vp_in_lt (n := 30) ht.1 ht.2 (by decide)) ?_
      refine sx_iconst (pc := 35) (v := 2) dX0_renew_35 (by decide) ?_
      refine sx_icmp_lt (pc := 36) (tgt := 41) dX0_renew_36 (by decide) (fun c_36 => ?_) (fun c_36 => ?_)
      · have h_36t := c_36
        refine sx_aload_n (pc := 41) dX0_renew_41 rfl rfl ?_
        refine sx_getr (pc := 42) (ci := 0) (j := 2) (r := 59) dX0_renew_42 rfl s_Ho rfl (by decide) lf_X0_18 ?_
        refine sx_iload_n (pc := 45) dX0_renew_45 rfl rfl ?_
        refine sx_dup2 (pc := 46) dX0_renew_46 rfl rfl ?_
        refine sx_iald (pc := 47) dX0_renew_47 s_rene (by decide) rfl (vp_in_lt (n := 30) ht.1 ht.2 (by decide)) ?_
        refine sx_iconst (pc := 48) (v := 1) dX0_renew_48 (by decide) ?_
        refine sx_iadd (pc := 49) dX0_renew_49 ?_
        refine sx_iast (pc := 50) dX0_renew_50 s_rene (by decide) rfl (vp_in_lt (n := 30) ht.1 ht.2 (by decide)) (fun μ1 hμ1 => ?_)
        refine sx_iconst (pc := 51) (v := 1) dX0_renew_51 (by decide) ?_
        exact sx_iret (pc := 52) dX0_renew_52 rfl rfl (Nat.zero_le _) (Nat.zero_le _) (⟨rfl, (Ch.put (Ch.rf) hμ1 (by omega) (LB.off hμ1 ⟨by omega, fun _ _ => by omega⟩)), _, rfl, by decide⟩)
      · have h_36f := c_36
        refine sx_iconst (pc := 39) (v := 0) dX0_renew_39 (by decide) ?_
        exact sx_iret (pc := 40) dX0_renew_40 rfl rfl (Nat.zero_le _) (Nat.zero_le _) (⟨rfl, (Ch.rf), _, rfl, by decide⟩)
set_option maxHeartbeats 1000000 in
set_option maxRecDepth 20000 in
theorem l_items {X : xD} {Ex : State → Prop} {l : Launch} {ps : Int32} {μ : xM} : ∀ (t j : Nat) (v : Int32), 30 - j ≤ t → j ≤ 30 → sx l (rmN 0) X Ex false kX0_itemsOf shA.length (xZ X false shA.length (fun r sh' μ' => shA = sh' ∧ μ = μ' ∧ ∃ x : Int32, r = some (.int x)) 0 0) 4 [some (.ref (X.2 + 56)), some (.int ps), some (.int v), some (.int (nI j))] [] shA μ 0 0 := by
  intro t
  induction t with
  | zero =>
    intro j v htt hj
    refine sx_iload_n (pc := 4) dX0_itemsOf_4 rfl rfl ?_
    refine sx_bipush (pc := 5) (v := 30) dX0_itemsOf_5 (by decide) ?_
    refine sx_icmp_ge (pc := 7) (tgt := 29) dX0_itemsOf_7 (by decide) (fun c_7 => ?_) (fun c_7 => absurd (nI_le (a := 30) (b := j) (by omega) (by omega)) c_7)
    refine sx_iload_n (pc := 29) dX0_itemsOf_29 rfl rfl ?_
    exact sx_iret (pc := 30) dX0_itemsOf_30 rfl rfl (Nat.zero_le _) (Nat.zero_le _) (⟨rfl, rfl, _, rfl⟩)
  | succ t ih =>
    intro j v htt hj
    refine sx_iload_n (pc := 4) dX0_itemsOf_4 rfl rfl ?_
    refine sx_bipush (pc := 5) (v := 30) dX0_itemsOf_5 (by decide) ?_
    refine sx_icmp_ge (pc := 7) (tgt := 29) dX0_itemsOf_7 (by decide) (fun c_7 => ?_) (fun c_7 => ?_)
    · have h_7t := c_7
      refine sx_iload_n (pc := 29) dX0_itemsOf_29 rfl rfl ?_
      exact sx_iret (pc := 30) dX0_itemsOf_30 rfl rfl (Nat.zero_le _) (Nat.zero_le _) (⟨rfl, rfl, _, rfl⟩)
    · have h_7f := c_7
      have hlt : j < 30 := Nat.lt_of_not_le fun z => h_7f (nI_le (a := 30) z (by omega))
      refine sx_aload_n (pc := 10) dX0_itemsOf_10 rfl rfl ?_
      refine sx_getr (pc := 11) (ci := 0) (j := 1) (r := 58) dX0_itemsOf_11 rfl s_Ho rfl (by decide) lf_X0_15 ?_
      refine sx_iload_n (pc := 14) dX0_itemsOf_14 rfl rfl ?_
      refine sx_iald (pc := 15) dX0_itemsOf_15 s_borr (by decide) rfl (vp_in_nI (by omega) (by decide)) ?_
      refine sx_iload_n (pc := 16) dX0_itemsOf_16 rfl rfl ?_
      refine sx_icmp_ne (pc := 17) (tgt := 23) dX0_itemsOf_17 (by decide) (fun c_17 => ?_) (fun c_17 => ?_)
      · have h_17t := c_17
        refine sx_iinc (pc := 23) (v := nI (j + 1)) (L' := [some (.ref (X.2 + 56)), some (.int ps), some (.int v), some (.int (nI (j + 1)))]) dX0_itemsOf_23 rfl (nI_1 j) (by decide) rfl ?_
        refine sx_goto (pc := 26) (tgt := 4) dX0_itemsOf_26 (by decide) ?_
        exact ih (j + 1) _ (by omega) (by omega)
      · have h_17f := c_17
        refine sx_iinc (pc := 20) (v := v + 1) (L' := [some (.ref (X.2 + 56)), some (.int ps), some (.int (v + 1)), some (.int (nI j))]) dX0_itemsOf_20 rfl rfl (by decide) rfl ?_
        refine sx_iinc (pc := 23) (v := nI (j + 1)) (L' := [some (.ref (X.2 + 56)), some (.int ps), some (.int (v + 1)), some (.int (nI (j + 1)))]) dX0_itemsOf_23 rfl (nI_1 j) (by decide) rfl ?_
        refine sx_goto (pc := 26) (tgt := 4) dX0_itemsOf_26 (by decide) ?_
        exact ih (j + 1) _ (by omega) (by omega)
set_option maxHeartbeats 1000000 in
set_option maxRecDepth 20000 in
theorem c_items (X : xD) (Ex : State → Prop) (hE : xEs X false shA.length Ex) (μ : xM) (ps : Int32) : Ct X Ex false yX0_itemsOf kX0_itemsOf (rmN 0) [.ref (X.2 + 56), .int ps] shA μ (fun r sh' μ' => shA = sh' ∧ μ = μ' ∧ ∃ x : Int32, r = some (.int x)) := by
  refine Ct.of (L0 := [some (.ref (X.2 + 56)), some (.int ps), none, none]) (by decide) rfl (fun h => by cases h) (by simp [Value.category]) (Nat.le_of_ble_eq_true rfl) rfl (fun l => ?_)
  refine sx_iconst (pc := 0) (v := 0) dX0_itemsOf_0 (by decide) ?_
  refine sx_istore_n (pc := 1) (L' := [some (.ref (X.2 + 56)), some (.int ps), some (.int 0), none]) dX0_itemsOf_1 rfl (by decide) rfl ?_
  refine sx_iconst (pc := 2) (v := 0) dX0_itemsOf_2 (by decide) ?_
  refine sx_istore_n (pc := 3) (L' := [some (.ref (X.2 + 56)), some (.int ps), some (.int 0), some (.int 0)]) dX0_itemsOf_3 rfl (by decide) rfl ?_
  exact l_items 30 0 0 (by omega) (Nat.zero_le _)
set_option maxHeartbeats 1000000 in
set_option maxRecDepth 20000 in
theorem c_decide (X : xD) (Ex : State → Prop) (hE : xEs X false shA.length Ex) (μ : xM) (hG : GD μ) (hL : LB μ) : Ct X Ex false yX0_decide kX0_decide (rmN 2) [.ref (X.2 + 56), .ref (X.2 + 94)] shA μ (fun r sh' μ' => shA = sh' ∧ Ch SH μ μ' ∧ ∃ x : Int32, r = some (.int x) ∧ (x = 0 ∨ x = 1)) := by
  refine Ct.of (L0 := [some (.ref (X.2 + 56)), some (.ref (X.2 + 94))]) (by decide) rfl (fun h => by cases h) (by simp [Value.category]) (Nat.le_of_ble_eq_true rfl) rfl (fun l => ?_)
  refine sx_aload_n (pc := 0) dX0_decide_0 rfl rfl ?_
  refine sx_geti (pc := 1) (ci := 3) (j := 0) dX0_decide_1 rfl s_Me rfl (by decide) lf_X0_29 ?_
  generalize hkd : μ 94 0 = kd
  rcases lk5 kd with rfl | rfl | rfl | rfl | rfl | w_4
  · refine sx_lookup (pc := 4) (off := 65) (tgt := 69) dX0_decide_4 (by decide) (by decide) (by decide) ?_
    refine sx_aload_n (pc := 69) dX0_decide_69 rfl rfl ?_
    refine sx_aload_n (pc := 70) dX0_decide_70 rfl rfl ?_
    refine sx_geti (pc := 71) (ci := 3) (j := 3) dX0_decide_71 rfl s_Me rfl (by decide) lf_X0_38 ?_
    refine sx_callV (pc := 74) (As := [.int (μ 94 3)]) dX0_decide_74 (c_bring X Ex hE μ _ ((hG 2 (by rw [hkd]; decide)).1 (by decide))) mX0_bringBack lm_X0_45 rfl s_Ho rfl ⟨Nat.le_of_ble_eq_true rfl, Nat.le_of_ble_eq_true rfl⟩ ⟨Nat.le_of_ble_eq_true rfl, Nat.le_of_ble_eq_true rfl⟩ (Nat.le_of_ble_eq_true rfl) hE (fun r_74 sh1 μ1 h_74 => ?_)
    obtain ⟨rfl, k_74, x_74, rfl, hx_74⟩ := h_74
    exact sx_iret (pc := 77) dX0_decide_77 rfl (bool_n hx_74) (Nat.zero_le _) (Nat.zero_le _) (⟨rfl, (Ch.trans (Ch.rf) k_74), _, rfl, hx_74⟩)
  · refine sx_lookup (pc := 4) (off := 52) (tgt := 56) dX0_decide_4 (by decide) (by decide) (by decide) ?_
    refine sx_aload_n (pc := 56) dX0_decide_56 rfl rfl ?_
    refine sx_aload_n (pc := 57) dX0_decide_57 rfl rfl ?_
    refine sx_geti (pc := 58) (ci := 3) (j := 2) dX0_decide_58 rfl s_Me rfl (by decide) lf_X0_35 ?_
    refine sx_aload_n (pc := 61) dX0_decide_61 rfl rfl ?_
    refine sx_geti (pc := 62) (ci := 3) (j := 3) dX0_decide_62 rfl s_Me rfl (by decide) lf_X0_38 ?_
    refine sx_callV (pc := 65) (As := [.int (μ 94 2), .int (μ 94 3)]) dX0_decide_65 (c_lend X Ex hE μ _ ((hG 1 (by rw [hkd]; decide)).2 (by decide)) _ ((hG 1 (by rw [hkd]; decide)).1 (by decide)) hL) mX0_lend lm_X0_41 rfl s_Ho rfl ⟨Nat.le_of_ble_eq_true rfl, Nat.le_of_ble_eq_true rfl⟩ ⟨Nat.le_of_ble_eq_true rfl, Nat.le_of_ble_eq_true rfl⟩ (Nat.le_of_ble_eq_true rfl) hE (fun r_65 sh1 μ2 h_65 => ?_)
    obtain ⟨rfl, k_65, x_65, rfl, hx_65⟩ := h_65
    exact sx_iret (pc := 68) dX0_decide_68 rfl (bool_n hx_65) (Nat.zero_le _) (Nat.zero_le _) (⟨rfl, (Ch.trans (Ch.rf) k_65), _, rfl, hx_65⟩)
  · refine sx_lookup (pc := 4) (off := 74) (tgt := 78) dX0_decide_4 (by decide) (by decide) (by decide) ?_
    refine sx_aload_n (pc := 78) dX0_decide_78 rfl rfl ?_
    refine sx_aload_n (pc := 79) dX0_decide_79 rfl rfl ?_
    refine sx_geti (pc := 80) (ci := 3) (j := 2) dX0_decide_80 rfl s_Me rfl (by decide) lf_X0_35 ?_
    refine sx_aload_n (pc := 83) dX0_decide_83 rfl rfl ?_
    refine sx_geti (pc := 84) (ci := 3) (j := 4) dX0_decide_84 rfl s_Me rfl (by decide) lf_X0_49 ?_
    refine sx_callV (pc := 87) (As := [.int (μ 94 2), .int (μ 94 4)]) dX0_decide_87 (c_pay X Ex hE μ _ ((hG 4 (by rw [hkd]; decide)).2 (by decide)) _) mX0_pay lm_X0_52 rfl s_Ho rfl ⟨Nat.le_of_ble_eq_true rfl, Nat.le_of_ble_eq_true rfl⟩ ⟨Nat.le_of_ble_eq_true rfl, Nat.le_of_ble_eq_true rfl⟩ (Nat.le_of_ble_eq_true rfl) hE (fun r_87 sh1 μ3 h_87 => ?_)
    obtain ⟨rfl, k_87, x_87, rfl, hx_87⟩ := h_87
    exact sx_iret (pc := 90) dX0_decide_90 rfl (bool_n hx_87) (Nat.zero_le _) (Nat.zero_le _) (⟨rfl, (Ch.trans (Ch.rf) k_87), _, rfl, hx_87⟩)
  · refine sx_lookup (pc := 4) (off := 87) (tgt := 91) dX0_decide_4 (by decide) (by decide) (by decide) ?_
    refine sx_aload_n (pc := 91) dX0_decide_91 rfl rfl ?_
    refine sx_aload_n (pc := 92) dX0_decide_92 rfl rfl ?_
    refine sx_geti (pc := 93) (ci := 3) (j := 2) dX0_decide_93 rfl s_Me rfl (by decide) lf_X0_35 ?_
    refine sx_aload_n (pc := 96) dX0_decide_96 rfl rfl ?_
    refine sx_geti (pc := 97) (ci := 3) (j := 3) dX0_decide_97 rfl s_Me rfl (by decide) lf_X0_38 ?_
    refine sx_callV (pc := 100) (As := [.int (μ 94 2), .int (μ 94 3)]) dX0_decide_100 (c_queueUp X Ex hE μ _ ((hG 1 (by rw [hkd]; decide)).2 (by decide)) _ ((hG 1 (by rw [hkd]; decide)).1 (by decide)) hL) mX0_queueUp lm_X0_55 rfl s_Ho rfl ⟨Nat.le_of_ble_eq_true rfl, Nat.le_of_ble_eq_true rfl⟩ ⟨Nat.le_of_ble_eq_true rfl, Nat.le_of_ble_eq_true rfl⟩ (Nat.le_of_ble_eq_true rfl) hE (fun r_100 sh1 μ4 h_100 => ?_)
    obtain ⟨rfl, k_100, x_100, rfl, hx_100⟩ := h_100
    exact sx_iret (pc := 103) dX0_decide_103 rfl (bool_n hx_100) (Nat.zero_le _) (Nat.zero_le _) (⟨rfl, (Ch.trans (Ch.rf) k_100), _, rfl, hx_100⟩)
  · refine sx_lookup (pc := 4) (off := 100) (tgt := 104) dX0_decide_4 (by decide) (by decide) (by decide) ?_
    refine sx_aload_n (pc := 104) dX0_decide_104 rfl rfl ?_
    refine sx_aload_n (pc := 105) dX0_decide_105 rfl rfl ?_
    refine sx_geti (pc := 106) (ci := 3) (j := 2) dX0_decide_106 rfl s_Me rfl (by decide) lf_X0_35 ?_
    refine sx_aload_n (pc := 109) dX0_decide_109 rfl rfl ?_
    refine sx_geti (pc := 110) (ci := 3) (j := 3) dX0_decide_110 rfl s_Me rfl (by decide) lf_X0_38 ?_
    refine sx_callV (pc := 113) (As := [.int (μ 94 2), .int (μ 94 3)]) dX0_decide_113 (c_renew X Ex hE μ _ ((hG 1 (by rw [hkd]; decide)).2 (by decide)) _ ((hG 1 (by rw [hkd]; decide)).1 (by decide))) mX0_renew lm_X0_58 rfl s_Ho rfl ⟨Nat.le_of_ble_eq_true rfl, Nat.le_of_ble_eq_true rfl⟩ ⟨Nat.le_of_ble_eq_true rfl, Nat.le_of_ble_eq_true rfl⟩ (Nat.le_of_ble_eq_true rfl) hE (fun r_113 sh1 μ5 h_113 => ?_)
    obtain ⟨rfl, k_113, x_113, rfl, hx_113⟩ := h_113
    exact sx_iret (pc := 116) dX0_decide_116 rfl (bool_n hx_113) (Nat.zero_le _) (Nat.zero_le _) (⟨rfl, (Ch.trans (Ch.rf) k_113), _, rfl, hx_113⟩)
  · refine sx_lookup (pc := 4) (off := 113) (tgt := 117) dX0_decide_4 (by decide) (by show Op.lookupswitch.offset [(66, 65), (67, 52), (70, 74), (72, 87), (82, 100)] 113 _ = _; rw [lv_osw (k := 66) (a := 66) w_4.1 (by decide), lv_osw (k := 67) (a := 67) w_4.2.1 (by decide), lv_osw (k := 70) (a := 70) w_4.2.2.1 (by decide), lv_osw (k := 72) (a := 72) w_4.2.2.2.1 (by decide), lv_osw (k := 82) (a := 82) w_4.2.2.2.2 (by decide)]; rfl) (by decide) ?_
    refine sx_iconst (pc := 117) (v := 1) dX0_decide_117 (by decide) ?_
    exact sx_iret (pc := 118) dX0_decide_118 rfl rfl (Nat.zero_le _) (Nat.zero_le _) (⟨rfl, (Ch.rf), _, rfl, by decide⟩)
set_option maxHeartbeats 1000000 in
set_option maxRecDepth 20000 in
theorem c_figure (X : xD) (Ex : State → Prop) (hE : xEs X false shA.length Ex) (μ : xM) (hG : GD μ) : Ct X Ex false yX0_figureFor kX0_figureFor (rmN 1) [.ref (X.2 + 56), .ref (X.2 + 94)] shA μ (fun r sh' μ' => shA = sh' ∧ μ = μ' ∧ ∃ x : Int32, r = some (.int x)) := by
  refine Ct.of (L0 := [some (.ref (X.2 + 56)), some (.ref (X.2 + 94))]) (by decide) rfl (fun h => by cases h) (by simp [Value.category]) (Nat.le_of_ble_eq_true rfl) rfl (fun l => ?_)
  refine sx_aload_n (pc := 0) dX0_figureFor_0 rfl rfl ?_
  refine sx_geti (pc := 1) (ci := 3) (j := 0) dX0_figureFor_1 rfl s_Me rfl (by decide) lf_X0_29 ?_
  generalize hkd : μ 94 0 = kd
  rcases sw17 kd with rfl | rfl | rfl | rfl | rfl | rfl | rfl | rfl | rfl | rfl | rfl | rfl | rfl | rfl | rfl | rfl | rfl | w_4
  · refine sx_tableIn (pc := 4) (off := 93) (tgt := 97) dX0_figureFor_4 (by decide) (by decide) (by decide) (by decide) ?_
    refine sx_aload_n (pc := 97) dX0_figureFor_97 rfl rfl ?_
    refine sx_getr (pc := 98) (ci := 0) (j := 4) (r := 91) dX0_figureFor_98 rfl s_Ho rfl (by decide) lf_X0_26 ?_
    refine sx_aload_n (pc := 101) dX0_figureFor_101 rfl rfl ?_
    refine sx_geti (pc := 102) (ci := 3) (j := 3) dX0_figureFor_102 rfl s_Me rfl (by decide) lf_X0_38 ?_
    refine sx_iald (pc := 105) dX0_figureFor_105 s_qlen (by decide) rfl (by first | exact (vp_in_lt (n := 30) ((hG 2 (by rw [hkd]; decide)).1 (by decide)).1 ((hG 2 (by rw [hkd]; decide)).1 (by decide)).2 (by decide)) | exact (vp_in_lt (n := 30) ((hG 1 (by rw [hkd]; decide)).1 (by decide)).1 ((hG 1 (by rw [hkd]; decide)).1 (by decide)).2 (by decide))) ?_
    exact sx_iret (pc := 106) dX0_figureFor_106 rfl rfl (Nat.zero_le _) (Nat.zero_le _) (⟨rfl, rfl, _, rfl⟩)
  · refine sx_tableIn (pc := 4) (off := 84) (tgt := 88) dX0_figureFor_4 (by decide) (by decide) (by decide) (by decide) ?_
    refine sx_aload_n (pc := 88) dX0_figureFor_88 rfl rfl ?_
    refine sx_aload_n (pc := 89) dX0_figureFor_89 rfl rfl ?_
    refine sx_geti (pc := 90) (ci := 3) (j := 2) dX0_figureFor_90 rfl s_Me rfl (by decide) lf_X0_35 ?_
    refine sx_callV (pc := 93) (As := [.int (μ 94 2)]) dX0_figureFor_93 (c_items X Ex hE μ _) mX0_itemsOf lm_X0_61 rfl s_Ho rfl ⟨Nat.le_of_ble_eq_true rfl, Nat.le_of_ble_eq_true rfl⟩ ⟨Nat.le_of_ble_eq_true rfl, Nat.le_of_ble_eq_true rfl⟩ (Nat.le_of_ble_eq_true rfl) hE (fun r_93 sh1 μ1 h_93 => ?_)
    obtain ⟨rfl, rfl, x_93, rfl⟩ := h_93
    exact sx_iret (pc := 96) dX0_figureFor_96 rfl rfl (Nat.zero_le _) (Nat.zero_le _) (⟨rfl, rfl, _, rfl⟩)
  · refine sx_tableIn (pc := 4) (off := 152) (tgt := 156) dX0_figureFor_4 (by decide) (by decide) (by decide) (by decide) ?_
    refine sx_iconst (pc := 156) (v := 0) dX0_figureFor_156 (by decide) ?_
    exact sx_iret (pc := 157) dX0_figureFor_157 rfl rfl (Nat.zero_le _) (Nat.zero_le _) (⟨rfl, rfl, _, rfl⟩)
  · refine sx_tableIn (pc := 4) (off := 152) (tgt := 156) dX0_figureFor_4 (by decide) (by decide) (by decide) (by decide) ?_
    refine sx_iconst (pc := 156) (v := 0) dX0_figureFor_156 (by decide) ?_
    exact sx_iret (pc := 157) dX0_figureFor_157 rfl rfl (Nat.zero_le _) (Nat.zero_le _) (⟨rfl, rfl, _, rfl⟩)
  · refine sx_tableIn (pc := 4) (off := 103) (tgt := 107) dX0_figureFor_4 (by decide) (by decide) (by decide) (by decide) ?_
    refine sx_aload_n (pc := 107) dX0_figureFor_107 rfl rfl ?_
    refine sx_getr (pc := 108) (ci := 0) (j := 0) (r := 57) dX0_figureFor_108 rfl s_Ho rfl (by decide) lf_X0_9 ?_
    refine sx_aload_n (pc := 111) dX0_figureFor_111 rfl rfl ?_
    refine sx_geti (pc := 112) (ci := 3) (j := 2) dX0_figureFor_112 rfl s_Me rfl (by decide) lf_X0_35 ?_
    refine sx_iald (pc := 115) dX0_figureFor_115 s_debts (by decide) rfl (by first | exact (vp_in_lt (n := 30) ((hG 3 (by rw [hkd]; decide)).2 (by decide)).1 ((hG 3 (by rw [hkd]; decide)).2 (by decide)).2 (by decide)) | exact (vp_in_lt (n := 30) ((hG 4 (by rw [hkd]; decide)).2 (by decide)).1 ((hG 4 (by rw [hkd]; decide)).2 (by decide)).2 (by decide))) ?_
    exact sx_iret (pc := 116) dX0_figureFor_116 rfl rfl (Nat.zero_le _) (Nat.zero_le _) (⟨rfl, rfl, _, rfl⟩)
  · refine sx_tableIn (pc := 4) (off := 152) (tgt := 156) dX0_figureFor_4 (by decide) (by decide) (by decide) (by decide) ?_
    refine sx_iconst (pc := 156) (v := 0) dX0_figureFor_156 (by decide) ?_
    exact sx_iret (pc := 157) dX0_figureFor_157 rfl rfl (Nat.zero_le _) (Nat.zero_le _) (⟨rfl, rfl, _, rfl⟩)
  · refine sx_tableIn (pc := 4) (off := 93) (tgt := 97) dX0_figureFor_4 (by decide) (by decide) (by decide) (by decide) ?_
    refine sx_aload_n (pc := 97) dX0_figureFor_97 rfl rfl ?_
    refine sx_getr (pc := 98) (ci := 0) (j := 4) (r := 91) dX0_figureFor_98 rfl s_Ho rfl (by decide) lf_X0_26 ?_
    refine sx_aload_n (pc := 101) dX0_figureFor_101 rfl rfl ?_
    refine sx_geti (pc := 102) (ci := 3) (j := 3) dX0_figureFor_102 rfl s_Me rfl (by decide) lf_X0_38 ?_
    refine sx_iald (pc := 105) dX0_figureFor_105 s_qlen (by decide) rfl (by first | exact (vp_in_lt (n := 30) ((hG 2 (by rw [hkd]; decide)).1 (by decide)).1 ((hG 2 (by rw [hkd]; decide)).1 (by decide)).2 (by decide)) | exact (vp_in_lt (n := 30) ((hG 1 (by rw [hkd]; decide)).1 (by decide)).1 ((hG 1 (by rw [hkd]; decide)).1 (by decide)).2 (by decide))) ?_
    exact sx_iret (pc := 106) dX0_figureFor_106 rfl rfl (Nat.zero_le _) (Nat.zero_le _) (⟨rfl, rfl, _, rfl⟩)
  · refine sx_tableIn (pc := 4) (off := 113) (tgt := 117) dX0_figureFor_4 (by decide) (by decide) (by decide) (by decide) ?_
    refine sx_aload_n (pc := 117) dX0_figureFor_117 rfl rfl ?_
    refine sx_getr (pc := 118) (ci := 0) (j := 1) (r := 58) dX0_figureFor_118 rfl s_Ho rfl (by decide) lf_X0_15 ?_
    refine sx_aload_n (pc := 121) dX0_figureFor_121 rfl rfl ?_
    refine sx_geti (pc := 122) (ci := 3) (j := 3) dX0_figureFor_122 rfl s_Me rfl (by decide) lf_X0_38 ?_
    refine sx_iald (pc := 125) dX0_figureFor_125 s_borr (by decide) rfl (vp_in_lt (n := 30) ((hG 2 (by rw [hkd]; decide)).1 (by decide)).1 ((hG 2 (by rw [hkd]; decide)).1 (by decide)).2 (by decide)) ?_
    refine sx_iconst (pc := 126) (v := (-1)) dX0_figureFor_126 (by decide) ?_
    refine sx_icmp_ne (pc := 127) (tgt := 134) dX0_figureFor_127 (by decide) (fun c_127 => ?_) (fun c_127 => ?_)
    · have h_127t := c_127
      refine sx_aload_n (pc := 134) dX0_figureFor_134 rfl rfl ?_
      refine sx_getr (pc := 135) (ci := 0) (j := 1) (r := 58) dX0_figureFor_135 rfl s_Ho rfl (by decide) lf_X0_15 ?_
      refine sx_aload_n (pc := 138) dX0_figureFor_138 rfl rfl ?_
      refine sx_geti (pc := 139) (ci := 3) (j := 3) dX0_figureFor_139 rfl s_Me rfl (by decide) lf_X0_38 ?_
      refine sx_iald (pc := 142) dX0_figureFor_142 s_borr (by decide) rfl (vp_in_lt (n := 30) ((hG 2 (by rw [hkd]; decide)).1 (by decide)).1 ((hG 2 (by rw [hkd]; decide)).1 (by decide)).2 (by decide)) ?_
      refine sx_iconst (pc := 143) (v := 1) dX0_figureFor_143 (by decide) ?_
      refine sx_iadd (pc := 144) dX0_figureFor_144 ?_
      exact sx_iret (pc := 145) dX0_figureFor_145 rfl rfl (Nat.zero_le _) (Nat.zero_le _) (⟨rfl, rfl, _, rfl⟩)
    · have h_127f := c_127
      refine sx_iconst (pc := 130) (v := 0) dX0_figureFor_130 (by decide) ?_
      refine sx_goto (pc := 131) (tgt := 145) dX0_figureFor_131 (by decide) ?_
      exact sx_iret (pc := 145) dX0_figureFor_145 rfl rfl (Nat.zero_le _) (Nat.zero_le _) (⟨rfl, rfl, _, rfl⟩)
  · refine sx_tableIn (pc := 4) (off := 152) (tgt := 156) dX0_figureFor_4 (by decide) (by decide) (by decide) (by decide) ?_
    refine sx_iconst (pc := 156) (v := 0) dX0_figureFor_156 (by decide) ?_
    exact sx_iret (pc := 157) dX0_figureFor_157 rfl rfl (Nat.zero_le _) (Nat.zero_le _) (⟨rfl, rfl, _, rfl⟩)
  · refine sx_tableIn (pc := 4) (off := 152) (tgt := 156) dX0_figureFor_4 (by decide) (by decide) (by decide) (by decide) ?_
    refine sx_iconst (pc := 156) (v := 0) dX0_figureFor_156 (by decide) ?_
    exact sx_iret (pc := 157) dX0_figureFor_157 rfl rfl (Nat.zero_le _) (Nat.zero_le _) (⟨rfl, rfl, _, rfl⟩)
  · refine sx_tableIn (pc := 4) (off := 152) (tgt := 156) dX0_figureFor_4 (by decide) (by decide) (by decide) (by decide) ?_
    refine sx_iconst (pc := 156) (v := 0) dX0_figureFor_156 (by decide) ?_
    exact sx_iret (pc := 157) dX0_figureFor_157 rfl rfl (Nat.zero_le _) (Nat.zero_le _) (⟨rfl, rfl, _, rfl⟩)
  · refine sx_tableIn (pc := 4) (off := 152) (tgt := 156) dX0_figureFor_4 (by decide) (by decide) (by decide) (by decide) ?_
    refine sx_iconst (pc := 156) (v := 0) dX0_figureFor_156 (by decide) ?_
    exact sx_iret (pc := 157) dX0_figureFor_157 rfl rfl (Nat.zero_le _) (Nat.zero_le _) (⟨rfl, rfl, _, rfl⟩)
  · refine sx_tableIn (pc := 4) (off := 152) (tgt := 156) dX0_figureFor_4 (by decide) (by decide) (by decide) (by decide) ?_
    refine sx_iconst (pc := 156) (v := 0) dX0_figureFor_156 (by decide) ?_
    exact sx_iret (pc := 157) dX0_figureFor_157 rfl rfl (Nat.zero_le _) (Nat.zero_le _) (⟨rfl, rfl, _, rfl⟩)
  · refine sx_tableIn (pc := 4) (off := 152) (tgt := 156) dX0_figureFor_4 (by decide) (by decide) (by decide) (by decide) ?_
    refine sx_iconst (pc := 156) (v := 0) dX0_figureFor_156 (by decide) ?_
    exact sx_iret (pc := 157) dX0_figureFor_157 rfl rfl (Nat.zero_le _) (Nat.zero_le _) (⟨rfl, rfl, _, rfl⟩)
  · refine sx_tableIn (pc := 4) (off := 103) (tgt := 107) dX0_figureFor_4 (by decide) (by decide) (by decide) (by decide) ?_
    refine sx_aload_n (pc := 107) dX0_figureFor_107 rfl rfl ?_
    refine sx_getr (pc := 108) (ci := 0) (j := 0) (r := 57) dX0_figureFor_108 rfl s_Ho rfl (by decide) lf_X0_9 ?_
    refine sx_aload_n (pc := 111) dX0_figureFor_111 rfl rfl ?_
    refine sx_geti (pc := 112) (ci := 3) (j := 2) dX0_figureFor_112 rfl s_Me rfl (by decide) lf_X0_35 ?_
    refine sx_iald (pc := 115) dX0_figureFor_115 s_debts (by decide) rfl (by first | exact (vp_in_lt (n := 30) ((hG 3 (by rw [hkd]; decide)).2 (by decide)).1 ((hG 3 (by rw [hkd]; decide)).2 (by decide)).2 (by decide)) | exact (vp_in_lt (n := 30) ((hG 4 (by rw [hkd]; decide)).2 (by decide)).1 ((hG 4 (by rw [hkd]; decide)).2 (by decide)).2 (by decide))) ?_
    exact sx_iret (pc := 116) dX0_figureFor_116 rfl rfl (Nat.zero_le _) (Nat.zero_le _) (⟨rfl, rfl, _, rfl⟩)
  · refine sx_tableIn (pc := 4) (off := 152) (tgt := 156) dX0_figureFor_4 (by decide) (by decide) (by decide) (by decide) ?_
    refine sx_iconst (pc := 156) (v := 0) dX0_figureFor_156 (by decide) ?_
    exact sx_iret (pc := 157) dX0_figureFor_157 rfl rfl (Nat.zero_le _) (Nat.zero_le _) (⟨rfl, rfl, _, rfl⟩)
  · refine sx_tableIn (pc := 4) (off := 142) (tgt := 146) dX0_figureFor_4 (by decide) (by decide) (by decide) (by decide) ?_
    refine sx_aload_n (pc := 146) dX0_figureFor_146 rfl rfl ?_
    refine sx_getr (pc := 147) (ci := 0) (j := 2) (r := 59) dX0_figureFor_147 rfl s_Ho rfl (by decide) lf_X0_18 ?_
    refine sx_aload_n (pc := 150) dX0_figureFor_150 rfl rfl ?_
    refine sx_geti (pc := 151) (ci := 3) (j := 3) dX0_figureFor_151 rfl s_Me rfl (by decide) lf_X0_38 ?_
    refine sx_iald (pc := 154) dX0_figureFor_154 s_rene (by decide) rfl (vp_in_lt (n := 30) ((hG 1 (by rw [hkd]; decide)).1 (by decide)).1 ((hG 1 (by rw [hkd]; decide)).1 (by decide)).2 (by decide)) ?_
    exact sx_iret (pc := 155) dX0_figureFor_155 rfl rfl (Nat.zero_le _) (Nat.zero_le _) (⟨rfl, rfl, _, rfl⟩)
  · refine sx_tableOut (pc := 4) (tgt := 156) dX0_figureFor_4 w_4 (by decide) ?_
    refine sx_iconst (pc := 156) (v := 0) dX0_figureFor_156 (by decide) ?_
    exact sx_iret (pc := 157) dX0_figureFor_157 rfl rfl (Nat.zero_le _) (Nat.zero_le _) (⟨rfl, rfl, _, rfl⟩)
theorem jix {c : Int32} (h : 0 ≤ c ∧ c < 1000) (t : Nat) (ht : t < 5) : vp_in (if t = 0 then c * 5 else c * 5 + nI t) 5000 := by
  obtain ⟨j, hj, rfl⟩ := nI_of (Int32.not_lt.mpr h.1)
  have h1 := h.2
  rw [show (1000 : Int32) = nI 1000 from rfl, nI_ltI (by omega) (by omega)] at h1
  rw [show (5 : Int32) = nI 5 from rfl, pk_mul]
  by_cases h0 : t = 0
  · rw [if_pos h0]; exact vp_in_nI (by omega) (by decide)
  · rw [if_neg h0, nI_add]; exact vp_in_nI (by omega) (by decide)
set_option maxHeartbeats 1000000 in
set_option maxRecDepth 20000 in
theorem c_jadd (X : xD) (Ex : State → Prop) (hE : xEs X false shA.length Ex) (μ : xM) (dv : Int32) : Ct X Ex false yX1_add kX1_add (rmN 1) [.ref (X.2 + 92), .int dv, .ref (X.2 + 94)] shA μ (fun r sh' μ' => shA = sh' ∧ r = none ∧ Ch SJ μ μ') := by
  refine Ct.of (L0 := [some (.ref (X.2 + 92)), some (.int dv), some (.ref (X.2 + 94)), none]) (by decide) rfl (fun h => by cases h) (by simp [Value.category]) (Nat.le_of_ble_eq_true rfl) rfl (fun l => ?_)
  refine sx_aload_n (pc := 0) dX1_add_0 rfl rfl ?_
  refine sx_geti (pc := 1) (ci := 1) (j := 1) dX1_add_1 rfl s_Jo rfl (by decide) lf_X1_15 ?_
  refine sx_sipush (pc := 4) (v := 1000) dX1_add_4 (by decide) ?_
  refine sx_callSN (host := "ExchangeWire") (pc := 7) (As := [.int (μ 92 1), .int 1000]) dX1_add_7 (c_isBelow X Ex false shA μ _ _) mX5_isBelow (by decide +kernel) rfl ⟨Nat.le_of_ble_eq_true rfl, Nat.le_of_ble_eq_true rfl⟩ ⟨Nat.le_of_ble_eq_true rfl, Nat.le_of_ble_eq_true rfl⟩ (Nat.le_of_ble_eq_true rfl) hE (fun r_7 sh1 μ1 h_7 => ?_)
  obtain ⟨rfl, rfl, x_7, rfl, hx_7⟩ := h_7
  refine sx_if_eq (pc := 10) (tgt := 75) dX1_add_10 (by decide) (fun c_10 => ?_) (fun c_10 => ?_)
  · have h_10t := c_10
    refine sx_aload_n (pc := 75) dX1_add_75 rfl rfl ?_
    refine sx_dup (pc := 76) dX1_add_76 rfl ?_
    refine sx_geti (pc := 77) (ci := 1) (j := 1) dX1_add_77 rfl s_Jo rfl (by decide) lf_X1_15 ?_
    refine sx_iconst (pc := 80) (v := 1) dX1_add_80 (by decide) ?_
    refine sx_iadd (pc := 81) dX1_add_81 ?_
    refine sx_puti (pc := 82) (ci := 1) (j := 1) (ty := .int) dX1_add_82 rfl s_Jo rfl (by decide) lf_X1_15 rfl (by decide +kernel) rfl rfl (fun μ2 hμ2 => ?_)
    exact sx_vret (pc := 85) dX1_add_85 rfl (Nat.zero_le _) (Nat.zero_le _) (⟨rfl, rfl, (Ch.put (Ch.rf) hμ2 (by omega) (LB.off hμ2 ⟨by omega, fun _ _ => by omega⟩))⟩)
  · have h_10f := c_10
    refine sx_aload_n (pc := 13) dX1_add_13 rfl rfl ?_
    refine sx_geti (pc := 14) (ci := 1) (j := 1) dX1_add_14 rfl s_Jo rfl (by decide) lf_X1_15 ?_
    refine sx_iconst (pc := 17) (v := 5) dX1_add_17 (by decide) ?_
    refine sx_imul (pc := 18) dX1_add_18 ?_
    refine sx_istore_n (pc := 19) (L' := [some (.ref (X.2 + 92)), some (.int dv), some (.ref (X.2 + 94)), some (.int ((μ 92 1) * 5))]) dX1_add_19 rfl (by decide) rfl ?_
    refine sx_aload_n (pc := 20) dX1_add_20 rfl rfl ?_
    refine sx_getr (pc := 21) (ci := 1) (j := 0) (r := 93) dX1_add_21 rfl s_Jo rfl (by decide) lf_X1_11 ?_
    refine sx_iload_n (pc := 24) dX1_add_24 rfl rfl ?_
    refine sx_iload_n (pc := 25) dX1_add_25 rfl rfl ?_
    refine sx_iast (pc := 26) dX1_add_26 s_parts (by decide) rfl (jix (isB_t hx_7 h_10f) 0 (by decide)) (fun μ3 hμ3 => ?_)
    refine sx_aload_n (pc := 27) dX1_add_27 rfl rfl ?_
    refine sx_getr (pc := 28) (ci := 1) (j := 0) (r := 93) dX1_add_28 rfl s_Jo rfl (by decide) lf_X1_11 ?_
    refine sx_iload_n (pc := 31) dX1_add_31 rfl rfl ?_
    refine sx_iconst (pc := 32) (v := 1) dX1_add_32 (by decide) ?_
    refine sx_iadd (pc := 33) dX1_add_33 ?_
    refine sx_aload_n (pc := 34) dX1_add_34 rfl rfl ?_
    refine sx_geti (pc := 35) (ci := 3) (j := 0) dX1_add_35 rfl s_Me rfl (by decide) lf_X1_23 ?_
    refine sx_iast (pc := 38) dX1_add_38 s_parts (by decide) rfl (jix (isB_t hx_7 h_10f) 1 (by decide)) (fun μ4 hμ4 => ?_)
    refine sx_aload_n (pc := 39) dX1_add_39 rfl rfl ?_
    refine sx_getr (pc := 40) (ci := 1) (j := 0) (r := 93) dX1_add_40 rfl s_Jo rfl (by decide) lf_X1_11 ?_
    refine sx_iload_n (pc := 43) dX1_add_43 rfl rfl ?_
    refine sx_iconst (pc := 44) (v := 2) dX1_add_44 (by decide) ?_
    refine sx_iadd (pc := 45) dX1_add_45 ?_
    refine sx_aload_n (pc := 46) dX1_add_46 rfl rfl ?_
    refine sx_geti (pc := 47) (ci := 3) (j := 3) dX1_add_47 rfl s_Me rfl (by decide) lf_X1_28 ?_
    refine sx_iast (pc := 50) dX1_add_50 s_parts (by decide) rfl (jix (isB_t hx_7 h_10f) 2 (by decide)) (fun μ5 hμ5 => ?_)
    refine sx_aload_n (pc := 51) dX1_add_51 rfl rfl ?_
    refine sx_getr (pc := 52) (ci := 1) (j := 0) (r := 93) dX1_add_52 rfl s_Jo rfl (by decide) lf_X1_11 ?_
    refine sx_iload_n (pc := 55) dX1_add_55 rfl rfl ?_
    refine sx_iconst (pc := 56) (v := 3) dX1_add_56 (by decide) ?_
    refine sx_iadd (pc := 57) dX1_add_57 ?_
    refine sx_aload_n (pc := 58) dX1_add_58 rfl rfl ?_
    refine sx_geti (pc := 59) (ci := 3) (j := 2) dX1_add_59 rfl s_Me rfl (by decide) lf_X1_31 ?_
    refine sx_iast (pc := 62) dX1_add_62 s_parts (by decide) rfl (jix (isB_t hx_7 h_10f) 3 (by decide)) (fun μ6 hμ6 => ?_)
    refine sx_aload_n (pc := 63) dX1_add_63 rfl rfl ?_
    refine sx_getr (pc := 64) (ci := 1) (j := 0) (r := 93) dX1_add_64 rfl s_Jo rfl (by decide) lf_X1_11 ?_
    refine sx_iload_n (pc := 67) dX1_add_67 rfl rfl ?_
    refine sx_iconst (pc := 68) (v := 4) dX1_add_68 (by decide) ?_
    refine sx_iadd (pc := 69) dX1_add_69 ?_
    refine sx_aload_n (pc := 70) dX1_add_70 rfl rfl ?_
    refine sx_geti (pc := 71) (ci := 3) (j := 1) dX1_add_71 rfl s_Me rfl (by decide) lf_X1_34 ?_
    refine sx_iast (pc := 74) dX1_add_74 s_parts (by decide) rfl (jix (isB_t hx_7 h_10f) 4 (by decide)) (fun μ7 hμ7 => ?_)
    refine sx_aload_n (pc := 75) dX1_add_75 rfl rfl ?_
    refine sx_dup (pc := 76) dX1_add_76 rfl ?_
    refine sx_geti (pc := 77) (ci := 1) (j := 1) dX1_add_77 rfl s_Jo rfl (by decide) lf_X1_15 ?_
    refine sx_iconst (pc := 80) (v := 1) dX1_add_80 (by decide) ?_
    refine sx_iadd (pc := 81) dX1_add_81 ?_
    refine sx_puti (pc := 82) (ci := 1) (j := 1) (ty := .int) dX1_add_82 rfl s_Jo rfl (by decide) lf_X1_15 rfl (by decide +kernel) rfl rfl (fun μ8 hμ8 => ?_)
    exact sx_vret (pc := 85) dX1_add_85 rfl (Nat.zero_le _) (Nat.zero_le _) (⟨rfl, rfl, (Ch.put (Ch.put (Ch.put (Ch.put (Ch.put (Ch.put (Ch.rf) hμ3 (by omega) (LB.off hμ3 ⟨by omega, fun _ _ => by omega⟩)) hμ4 (by omega) (LB.off hμ4 ⟨by omega, fun _ _ => by omega⟩)) hμ5 (by omega) (LB.off hμ5 ⟨by omega, fun _ _ => by omega⟩)) hμ6 (by omega) (LB.off hμ6 ⟨by omega, fun _ _ => by omega⟩)) hμ7 (by omega) (LB.off hμ7 ⟨by omega, fun _ _ => by omega⟩)) hμ8 (by omega) (LB.off hμ8 ⟨by omega, fun _ _ => by omega⟩))⟩)
