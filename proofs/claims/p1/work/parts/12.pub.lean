theorem sx_mmin {l : Launch} {R : Room} {X : xD} {Ex : State → Prop} {fr : Bool} {K : xK} {n0 : Nat} {Z : List Frame → Array Value → State → State → Prop} {pc : Nat} {L : List (Option Value)} {st : List Value} {sh : List xS} {μ : xM} {i : Nat} {x y : Int32} (hd : decode K.2.1 pc = .ok (.invokestatic i, 3)) (hl : Cond.methodLink K.1 i Lib.Math.min.name ∈ xws) (hf : 1 ≤ R.frames) (h8 : (st.map fun v => v.category).sum + 13 ≤ R.locals)
    (kk : sx l R X Ex fr K n0 Z (pc + 3) L (.int (if y < x then y else x) :: st) sh μ 0 0) : sx l R X Ex fr K n0 Z pc L (.int y :: .int x :: st) sh μ 0 0 := by
  intro p e s m args below meth c H locs ls hC hH hL
  have hts := hC.2.2.2.2.2.2.1
  exact va_mmin hC.1 hC.2.1 (hC.2.2.1.trans hL.1.1.symm) hC.2.2.2.2.2.1 (hts _ hl) (hts _ (xw 317 (by decide +kernel))) (hts _ (xw 47 (by decide +kernel))) (hts _ (xwc 318 rfl rfl)) hf h8 (Nat.zero_le _) (Nat.zero_le _) hd (kk p e s m args below meth c H locs ls hC hH hL)
theorem isB_t {x i b : Int32} (h : (x = 1 ∧ 0 ≤ i ∧ i < b) ∨ (x = 0 ∧ ¬ (0 ≤ i ∧ i < b))) (hx : ¬ x = 0) : 0 ≤ i ∧ i < b := by
  rcases h with h | h
  · exact h.2
  · exact absurd h.1 hx
theorem isB_f {x i b : Int32} (h : (x = 1 ∧ 0 ≤ i ∧ i < b) ∨ (x = 0 ∧ ¬ (0 ≤ i ∧ i < b))) (hx : x = 0) : ¬ (0 ≤ i ∧ i < b) := by
  rcases h with h | h
  · rw [h.1] at hx; exact absurd hx (by decide)
  · exact h.2
theorem clamp_lt {x : Int32} {n : Nat} (h0 : 0 ≤ x) (h : x < nI n) (hn : n < 2 ^ 31) : x.toNatClampNeg < n := Nat.not_le.mp fun q => (vp_in_lt h0 h hn) (Or.inr q)
theorem el_lines : ∀ i : Nat, i < 6 → ([some 2, some 11, some 20, some 29, some 38, some 47] : List (Option Nat)).getD i none = some (2 + 9 * i) := by decide
theorem el_queues : ∀ i : Nat, i < 30 → ((List.range 30).map fun i => some (61 + i)).getD i none = some (61 + i) := by decide +kernel
/-- a new object of the class -/
def Fr (μ : xM) : Prop := (∀ d, d < 6 → μ (2 + 9 * d) 1 = 0 ∧ μ (2 + 9 * d) 2 = 0 ∧ μ (2 + 9 * d) 3 = 0 ∧ μ (2 + 9 * d) 4 = (-1) ∧ μ (2 + 9 * d) 5 = 0 ∧ μ (2 + 9 * d) 11 = 0 ∧ μ (2 + 9 * d + 2) 1 = 0) ∧ (∀ j, μ 57 j = 0) ∧ (∀ j, μ 91 j = 0) ∧ μ 92 1 = 0 ∧ μ 0 4 = 0
def R_octet (d b : Int32) : Int32 := if 0 ≤ d ∧ d < 6 then (if b &&& 255 = 13 then 0 else 1) else (-1)
def R_reset (d : Int32) : Int32 := if 0 ≤ d ∧ d < 6 then 0 else (-1)
def R_off (d k i p : Int32) : Int32 := if (0 ≤ d ∧ d < 6) ∧ (0 ≤ k ∧ k < 2) ∧ (0 ≤ i ∧ i < 30) ∧ (0 ≤ p ∧ p < 30) then 1 else (-1)
def R_owes (p c : Int32) : Int32 := if (0 ≤ p ∧ p < 30) ∧ 0 ≤ c ∧ c ≤ 100000 then 0 else (-1)
def R_sum (c : Int32) : Int32 := if c < 0 then 0 else c &&& 255
def R_state (d w : Int32) : Int32 := if 0 ≤ d ∧ d < 6 then (if w = 1 ∨ w = 2 ∨ w = 3 ∨ w = 4 then 0 else (-1)) else (-1)
set_option maxHeartbeats 1000000 in
set_option maxRecDepth 20000 in
theorem c_take (X : xD) (Ex : State → Prop) (hE : xEs X false shA.length Ex) (μ : xM) (d : Nat) (hd : d < 6) (sg : Int32) : Ct X Ex false yX2_take kX2_take (rmN 1) [.ref (X.2 + (2 + 9 * d)), .int sg] shA μ (fun r sh' μ' => shA = sh' ∧ Ks μ μ' ∧ (μ (2 + 9 * d) 2 = 0 → μ (2 + 9 * d) 1 = 0 → r = some (.int 1))) := by
  refine Ct.of (L0 := [some (.ref (X.2 + (2 + 9 * d))), some (.int sg)]) (by decide) rfl (fun h => by cases h) (by simp [Value.category]) (Nat.le_of_ble_eq_true rfl) rfl (fun l => ?_)
  refine sx_aload_n (pc := 0) dX2_take_0 rfl rfl ?_
  refine sx_geti (pc := 1) (ci := 2) (j := 2) dX2_take_1 rfl (s_Line _ hd) rfl (by decide) lf_X2_19 ?_
  refine sx_if_eq (pc := 4) (tgt := 10) dX2_take_4 (by decide) (fun c_4 => ?_) (fun c_4 => ?_)
  · have h_4t := c_4
    refine sx_aload_n (pc := 10) dX2_take_10 rfl rfl ?_
    refine sx_geti (pc := 11) (ci := 2) (j := 1) dX2_take_11 rfl (s_Line _ hd) rfl (by decide) lf_X2_15 ?_
    refine sx_bipush (pc := 14) (v := 60) dX2_take_14 (by decide) ?_
    refine sx_callSN (host := "ExchangeWire") (pc := 16) (As := [.int (μ (2 + 9 * d) 1), .int 60]) dX2_take_16 (c_isBelow X Ex false shA μ _ _) mX5_isBelow (by decide +kernel) rfl ⟨Nat.le_of_ble_eq_true rfl, Nat.le_of_ble_eq_true rfl⟩ ⟨Nat.le_of_ble_eq_true rfl, Nat.le_of_ble_eq_true rfl⟩ (Nat.le_of_ble_eq_true rfl) hE (fun r_16 sh1 μ1 h_16 => ?_)
    obtain ⟨rfl, rfl, x_16, rfl, hx_16⟩ := h_16
    refine sx_if_eq (pc := 19) (tgt := 47) dX2_take_19 (by decide) (fun c_19 => ?_) (fun c_19 => ?_)
    · have h_19t := c_19
      refine sx_aload_n (pc := 47) dX2_take_47 rfl rfl ?_
      refine sx_dup (pc := 48) dX2_take_48 rfl ?_
      refine sx_geti (pc := 49) (ci := 2) (j := 1) dX2_take_49 rfl (s_Line _ hd) rfl (by decide) lf_X2_15 ?_
      refine sx_iconst (pc := 52) (v := 1) dX2_take_52 (by decide) ?_
      refine sx_iadd (pc := 53) dX2_take_53 ?_
      refine sx_puti (pc := 54) (ci := 2) (j := 1) (ty := .int) dX2_take_54 rfl (s_Line _ hd) rfl (by decide) lf_X2_15 rfl (by decide +kernel) rfl rfl (fun μ2 hμ2 => ?_)
      refine sx_aload_n (pc := 57) dX2_take_57 rfl rfl ?_
      refine sx_iconst (pc := 58) (v := 1) dX2_take_58 (by decide) ?_
      refine sx_puti (pc := 59) (ci := 2) (j := 2) (ty := .boolean) dX2_take_59 rfl (s_Line _ hd) rfl (by decide) lf_X2_19 rfl (by decide +kernel) rfl rfl (fun μ3 hμ3 => ?_)
      refine sx_bipush (pc := 62) (v := (-2)) dX2_take_62 (by decide) ?_
      exact sx_iret (pc := 64) dX2_take_64 rfl rfl (Nat.zero_le _) (Nat.zero_le _) (⟨rfl, (Ks.put (Ks.put (Ks.rf) hμ2 (by omega)) hμ3 (by omega)), fun _ q => by have z := isB_f hx_16 h_19t; rw [q] at z; exact absurd (by decide) z⟩)
    · have h_19f := c_19
      have hb := isB_t hx_16 h_19f
      refine sx_aload_n (pc := 22) dX2_take_22 rfl rfl ?_
      refine sx_getr (pc := 23) (ci := 2) (j := 0) (r := 2 + 9 * d + 1) dX2_take_23 rfl (s_Line _ hd) rfl (by decide) lf_X2_9 ?_
      refine sx_aload_n (pc := 26) dX2_take_26 rfl rfl ?_
      refine sx_geti (pc := 27) (ci := 2) (j := 1) dX2_take_27 rfl (s_Line _ hd) rfl (by decide) lf_X2_15 ?_
      refine sx_iload_n (pc := 30) dX2_take_30 rfl rfl ?_
      refine sx_iast (pc := 31) dX2_take_31 (s_Lsg _ hd) (by decide) rfl (vp_in_lt hb.1 hb.2 (by decide)) (fun μ4 hμ4 => ?_)
      refine sx_aload_n (pc := 32) dX2_take_32 rfl rfl ?_
      refine sx_dup (pc := 33) dX2_take_33 rfl ?_
      refine sx_geti (pc := 34) (ci := 2) (j := 1) dX2_take_34 rfl (s_Line _ hd) rfl (by decide) lf_X2_15 ?_
      refine sx_iconst (pc := 37) (v := 1) dX2_take_37 (by decide) ?_
      refine sx_iadd (pc := 38) dX2_take_38 ?_
      refine sx_puti (pc := 39) (ci := 2) (j := 1) (ty := .int) dX2_take_39 rfl (s_Line _ hd) rfl (by decide) lf_X2_15 rfl (by decide +kernel) rfl rfl (fun μ5 hμ5 => ?_)
      refine sx_aload_n (pc := 42) dX2_take_42 rfl rfl ?_
      refine sx_geti (pc := 43) (ci := 2) (j := 1) dX2_take_43 rfl (s_Line _ hd) rfl (by decide) lf_X2_15 ?_
      exact sx_iret (pc := 46) dX2_take_46 rfl rfl (Nat.zero_le _) (Nat.zero_le _) (⟨rfl, (Ks.put (Ks.put (Ks.rf) hμ4 (by omega)) hμ5 (by omega)), fun _ q => by subst hμ5; subst hμ4; simp [xup_at, q]⟩)
  · have h_4f := c_4
    refine sx_bipush (pc := 7) (v := (-2)) dX2_take_7 (by decide) ?_
    exact sx_iret (pc := 9) dX2_take_9 rfl rfl (Nat.zero_le _) (Nat.zero_le _) (⟨rfl, (Ks.rf), fun q _ => absurd q h_4f⟩)
set_option maxHeartbeats 1000000 in
set_option maxRecDepth 20000 in
theorem c_clear (X : xD) (Ex : State → Prop) (hE : xEs X false shA.length Ex) (μ : xM) (d : Nat) (hd : d < 6) : Ct X Ex false yX2_clear kX2_clear (rmN 0) [.ref (X.2 + (2 + 9 * d))] shA μ (fun r sh' μ' => shA = sh' ∧ r = none ∧ Ks μ μ') := by
  refine Ct.of (L0 := [some (.ref (X.2 + (2 + 9 * d)))]) (by decide) rfl (fun h => by cases h) (by simp [Value.category]) (Nat.le_of_ble_eq_true rfl) rfl (fun l => ?_)
  refine sx_aload_n (pc := 0) dX2_clear_0 rfl rfl ?_
  refine sx_iconst (pc := 1) (v := 0) dX2_clear_1 (by decide) ?_
  refine sx_puti (pc := 2) (ci := 2) (j := 1) (ty := .int) dX2_clear_2 rfl (s_Line _ hd) rfl (by decide) lf_X2_15 rfl (by decide +kernel) rfl rfl (fun μ1 hμ1 => ?_)
  refine sx_aload_n (pc := 5) dX2_clear_5 rfl rfl ?_
  refine sx_iconst (pc := 6) (v := 0) dX2_clear_6 (by decide) ?_
  refine sx_puti (pc := 7) (ci := 2) (j := 2) (ty := .boolean) dX2_clear_7 rfl (s_Line _ hd) rfl (by decide) lf_X2_19 rfl (by decide +kernel) rfl rfl (fun μ2 hμ2 => ?_)
  refine sx_aload_n (pc := 10) dX2_clear_10 rfl rfl ?_
  refine sx_iconst (pc := 11) (v := 0) dX2_clear_11 (by decide) ?_
  refine sx_puti (pc := 12) (ci := 2) (j := 3) (ty := .boolean) dX2_clear_12 rfl (s_Line _ hd) rfl (by decide) lf_X2_23 rfl (by decide +kernel) rfl rfl (fun μ3 hμ3 => ?_)
  refine sx_aload_n (pc := 15) dX2_clear_15 rfl rfl ?_
  refine sx_iconst (pc := 16) (v := (-1)) dX2_clear_16 (by decide) ?_
  refine sx_puti (pc := 17) (ci := 2) (j := 4) (ty := .int) dX2_clear_17 rfl (s_Line _ hd) rfl (by decide) lf_X2_26 rfl (by decide +kernel) rfl rfl (fun μ4 hμ4 => ?_)
  refine sx_aload_n (pc := 20) dX2_clear_20 rfl rfl ?_
  refine sx_iconst (pc := 21) (v := 0) dX2_clear_21 (by decide) ?_
  refine sx_puti (pc := 22) (ci := 2) (j := 5) (ty := .int) dX2_clear_22 rfl (s_Line _ hd) rfl (by decide) lf_X2_29 rfl (by decide +kernel) rfl rfl (fun μ5 hμ5 => ?_)
  refine sx_aload_n (pc := 25) dX2_clear_25 rfl rfl ?_
  refine sx_getr (pc := 26) (ci := 2) (j := 6) (r := 2 + 9 * d + 2) dX2_clear_26 rfl (s_Line _ hd) rfl (by decide) lf_X2_35 ?_
  refine sx_iconst (pc := 29) (v := 0) dX2_clear_29 (by decide) ?_
  refine sx_puti (pc := 30) (ci := 4) (j := 1) (ty := .int) dX2_clear_30 rfl (s_Lsh _ hd).1 rfl (by decide) lf_X2_58 rfl (by decide +kernel) rfl rfl (fun μ6 hμ6 => ?_)
  refine sx_aload_n (pc := 33) dX2_clear_33 rfl rfl ?_
  refine sx_getr (pc := 34) (ci := 2) (j := 7) (r := 2 + 9 * d + 4) dX2_clear_34 rfl (s_Line _ hd) rfl (by decide) lf_X2_39 ?_
  refine sx_iconst (pc := 37) (v := 0) dX2_clear_37 (by decide) ?_
  refine sx_puti (pc := 38) (ci := 4) (j := 1) (ty := .int) dX2_clear_38 rfl (s_Lke _ hd).1 rfl (by decide) lf_X2_58 rfl (by decide +kernel) rfl rfl (fun μ7 hμ7 => ?_)
  exact sx_vret (pc := 41) dX2_clear_41 rfl (Nat.zero_le _) (Nat.zero_le _) (⟨rfl, rfl, (Ks.put (Ks.put (Ks.put (Ks.put (Ks.put (Ks.put (Ks.put (Ks.rf) hμ1 (by omega)) hμ2 (by omega)) hμ3 (by omega)) hμ4 (by omega)) hμ5 (by omega)) hμ6 (by omega)) hμ7 (by omega))⟩)
set_option maxHeartbeats 1000000 in
set_option maxRecDepth 20000 in
theorem c_addRow (X : xD) (Ex : State → Prop) (hE : xEs X false shA.length Ex) (μ : xM) (d : Nat) (hd : d < 6) (kd it ps : Int32) : Ct X Ex false yX2_addRow kX2_addRow (rmN 1) [.ref (X.2 + (2 + 9 * d)), .int kd, .int it, .int ps] shA μ (fun r sh' μ' => shA = sh' ∧ Ks μ μ' ∧ (μ (2 + 9 * d) 11 = 0 → r = some (.int 1))) := by
  refine Ct.of (L0 := [some (.ref (X.2 + (2 + 9 * d))), some (.int kd), some (.int it), some (.int ps)]) (by decide) rfl (fun h => by cases h) (by simp [Value.category]) (Nat.le_of_ble_eq_true rfl) rfl (fun l => ?_)
  refine sx_aload_n (pc := 0) dX2_addRow_0 rfl rfl ?_
  refine sx_geti (pc := 1) (ci := 2) (j := 11) dX2_addRow_1 rfl (s_Line _ hd) rfl (by decide) lf_X2_51 ?_
  refine sx_bipush (pc := 4) (v := 20) dX2_addRow_4 (by decide) ?_
  refine sx_callSN (host := "ExchangeWire") (pc := 6) (As := [.int (μ (2 + 9 * d) 11), .int 20]) dX2_addRow_6 (c_isBelow X Ex false shA μ _ _) mX5_isBelow (by decide +kernel) rfl ⟨Nat.le_of_ble_eq_true rfl, Nat.le_of_ble_eq_true rfl⟩ ⟨Nat.le_of_ble_eq_true rfl, Nat.le_of_ble_eq_true rfl⟩ (Nat.le_of_ble_eq_true rfl) hE (fun r_6 sh1 μ1 h_6 => ?_)
  obtain ⟨rfl, rfl, x_6, rfl, hx_6⟩ := h_6
  refine sx_if_ne (pc := 9) (tgt := 15) dX2_addRow_9 (by decide) (fun c_9 => ?_) (fun c_9 => ?_)
  · have h_9t := c_9
    have hb := isB_t hx_6 h_9t
    refine sx_aload_n (pc := 15) dX2_addRow_15 rfl rfl ?_
    refine sx_getr (pc := 16) (ci := 2) (j := 8) (r := 2 + 9 * d + 6) dX2_addRow_16 rfl (s_Line _ hd) rfl (by decide) lf_X2_42 ?_
    refine sx_aload_n (pc := 19) dX2_addRow_19 rfl rfl ?_
    refine sx_geti (pc := 20) (ci := 2) (j := 11) dX2_addRow_20 rfl (s_Line _ hd) rfl (by decide) lf_X2_51 ?_
    refine sx_iload_n (pc := 23) dX2_addRow_23 rfl rfl ?_
    refine sx_iast (pc := 24) dX2_addRow_24 (s_Lrk _ hd) (by decide) rfl (vp_in_lt hb.1 hb.2 (by decide)) (fun μ2 hμ2 => ?_)
    refine sx_aload_n (pc := 25) dX2_addRow_25 rfl rfl ?_
    refine sx_getr (pc := 26) (ci := 2) (j := 9) (r := 2 + 9 * d + 7) dX2_addRow_26 rfl (s_Line _ hd) rfl (by decide) lf_X2_45 ?_
    refine sx_aload_n (pc := 29) dX2_addRow_29 rfl rfl ?_
    refine sx_geti (pc := 30) (ci := 2) (j := 11) dX2_addRow_30 rfl (s_Line _ hd) rfl (by decide) lf_X2_51 ?_
    refine sx_iload_n (pc := 33) dX2_addRow_33 rfl rfl ?_
    refine sx_iast (pc := 34) dX2_addRow_34 (s_Lri _ hd) (by decide) rfl (by rw [show μ2 (2 + 9 * d) 11 = μ (2 + 9 * d) 11 by subst hμ2; simp [xup_at]]; exact vp_in_lt hb.1 hb.2 (by decide)) (fun μ3 hμ3 => ?_)
    refine sx_aload_n (pc := 35) dX2_addRow_35 rfl rfl ?_
    refine sx_getr (pc := 36) (ci := 2) (j := 10) (r := 2 + 9 * d + 8) dX2_addRow_36 rfl (s_Line _ hd) rfl (by decide) lf_X2_48 ?_
    refine sx_aload_n (pc := 39) dX2_addRow_39 rfl rfl ?_
    refine sx_geti (pc := 40) (ci := 2) (j := 11) dX2_addRow_40 rfl (s_Line _ hd) rfl (by decide) lf_X2_51 ?_
    refine sx_iload_n (pc := 43) dX2_addRow_43 rfl rfl ?_
    refine sx_iast (pc := 44) dX2_addRow_44 (s_Lrp _ hd) (by decide) rfl (by rw [show μ3 (2 + 9 * d) 11 = μ (2 + 9 * d) 11 by subst hμ3; subst hμ2; simp [xup_at]]; exact vp_in_lt hb.1 hb.2 (by decide)) (fun μ4 hμ4 => ?_)
    refine sx_aload_n (pc := 45) dX2_addRow_45 rfl rfl ?_
    refine sx_dup (pc := 46) dX2_addRow_46 rfl ?_
    refine sx_geti (pc := 47) (ci := 2) (j := 11) dX2_addRow_47 rfl (s_Line _ hd) rfl (by decide) lf_X2_51 ?_
    refine sx_iconst (pc := 50) (v := 1) dX2_addRow_50 (by decide) ?_
    refine sx_iadd (pc := 51) dX2_addRow_51 ?_
    refine sx_puti (pc := 52) (ci := 2) (j := 11) (ty := .int) dX2_addRow_52 rfl (s_Line _ hd) rfl (by decide) lf_X2_51 rfl (by decide +kernel) rfl rfl (fun μ5 hμ5 => ?_)
    refine sx_aload_n (pc := 55) dX2_addRow_55 rfl rfl ?_
    refine sx_geti (pc := 56) (ci := 2) (j := 11) dX2_addRow_56 rfl (s_Line _ hd) rfl (by decide) lf_X2_51 ?_
    exact sx_iret (pc := 59) dX2_addRow_59 rfl rfl (Nat.zero_le _) (Nat.zero_le _) (⟨rfl, (Ks.put (Ks.put (Ks.put (Ks.put (Ks.rf) hμ2 (by omega)) hμ3 (by omega)) hμ4 (by omega)) hμ5 (by omega)), fun q => by subst hμ5; subst hμ4; subst hμ3; subst hμ2; simp [xup_at, q]⟩)
  · have h_9f := c_9
    refine sx_bipush (pc := 12) (v := (-2)) dX2_addRow_12 (by decide) ?_
    exact sx_iret (pc := 14) dX2_addRow_14 rfl rfl (Nat.zero_le _) (Nat.zero_le _) (⟨rfl, (Ks.rf), fun q => by have z := isB_f hx_6 h_9f; rw [q] at z; exact absurd (by decide) z⟩)
set_option maxHeartbeats 1000000 in
set_option maxRecDepth 20000 in
theorem c_tell0 (X : xD) (Ex : State → Prop) (hE : xEs X false shA.length Ex) (μ : xM) (i w : Int32) (h0 : μ 92 1 = 0) : Ct X Ex false yX1_tell kX1_tell (rmN 1) [.ref (X.2 + 92), .int i, .int w] shA μ (fun r sh' μ' => shA = sh' ∧ μ = μ' ∧ r = some (.int (-1))) := by
  refine Ct.of (L0 := [some (.ref (X.2 + 92)), some (.int i), some (.int w)]) (by decide) rfl (fun h => by cases h) (by simp [Value.category]) (Nat.le_of_ble_eq_true rfl) rfl (fun l => ?_)
  refine sx_iload_n (pc := 0) dX1_tell_0 rfl rfl ?_
  refine sx_aload_n (pc := 1) dX1_tell_1 rfl rfl ?_
  refine sx_geti (pc := 2) (ci := 1) (j := 1) dX1_tell_2 rfl s_Jo rfl (by decide) lf_X1_15 ?_
  refine sx_sipush (pc := 5) (v := 1000) dX1_tell_5 (by decide) ?_
  refine sx_mmin (pc := 8) dX1_tell_8 lm_X1_37 (Nat.le_of_ble_eq_true rfl) (Nat.le_of_ble_eq_true rfl) ?_
  refine sx_callSN (host := "ExchangeWire") (pc := 11) (As := [.int i, .int (if 1000 < μ 92 1 then 1000 else μ 92 1)]) dX1_tell_11 (c_isBelow X Ex false shA μ _ _) mX5_isBelow (by decide +kernel) rfl ⟨Nat.le_of_ble_eq_true rfl, Nat.le_of_ble_eq_true rfl⟩ ⟨Nat.le_of_ble_eq_true rfl, Nat.le_of_ble_eq_true rfl⟩ (Nat.le_of_ble_eq_true rfl) hE (fun r_11 sh1 μ1 h_11 => ?_)
  obtain ⟨rfl, rfl, x_11, rfl, hx_11⟩ := h_11
  refine sx_if_eq (pc := 14) (tgt := 25) dX1_tell_14 (by decide) (fun c_14 => ?_) (fun c_14 => ?_)
  · have h_14t := c_14
    refine sx_iconst (pc := 25) (v := (-1)) dX1_tell_25 (by decide) ?_
    exact sx_iret (pc := 26) dX1_tell_26 rfl rfl (Nat.zero_le _) (Nat.zero_le _) (⟨rfl, rfl, rfl⟩)
  · have h_14f := c_14
    have hb := isB_t hx_11 h_14f
    rw [h0] at hb
    exact absurd (Int32.lt_of_le_of_lt hb.1 hb.2) (by decide)
    skip
set_option maxHeartbeats 1000000 in
set_option maxRecDepth 20000 in
theorem p_octet (X : xD) (Ex : State → Prop) (hE : xEs X false shA.length Ex) (μ : xM) (dev b : Int32) (hF : Fr μ) : Ct X Ex false yX5_octet kX5_octet (rmN 4) [.ref (X.2 + 0), .int dev, .int b] shA μ (fun r sh' μ' => shA = sh' ∧ Ks μ μ' ∧ r = some (.int (R_octet dev b))) := by
  refine Ct.of (L0 := [some (.ref (X.2 + 0)), some (.int dev), some (.int b), none, none]) (by decide) rfl (fun h => by cases h) (by simp [Value.category]) (Nat.le_of_ble_eq_true rfl) rfl (fun l => ?_)
  refine sx_iload_n (pc := 0) dX5_octet_0 rfl rfl ?_
  refine sx_bipush (pc := 1) (v := 6) dX5_octet_1 (by decide) ?_
  refine sx_callS (pc := 3) (As := [.int dev, .int 6]) dX5_octet_3 (c_isBelow X Ex false shA μ _ _) mX5_isBelow lm_X5_41 rfl ⟨Nat.le_of_ble_eq_true rfl, Nat.le_of_ble_eq_true rfl⟩ ⟨Nat.le_of_ble_eq_true rfl, Nat.le_of_ble_eq_true rfl⟩ (Nat.le_of_ble_eq_true rfl) hE (fun r_3 sh1 μ1 h_3 => ?_)
  obtain ⟨rfl, rfl, x_3, rfl, hx_3⟩ := h_3
  refine sx_if_ne (pc := 6) (tgt := 11) dX5_octet_6 (by decide) (fun c_6 => ?_) (fun c_6 => ?_)
  · have h_6t := c_6
    have hb := isB_t hx_3 h_6t
    have hd := clamp_lt (n := 6) hb.1 hb.2 (by decide)
    have hf := hF.1 _ hd
    refine sx_aload_n (pc := 11) dX5_octet_11 rfl rfl ?_
    refine sx_getr (pc := 12) (ci := 5) (j := 0) (r := 1) dX5_octet_12 rfl s_EW rfl (by decide) lf_X5_11 ?_
    refine sx_iload_n (pc := 15) dX5_octet_15 rfl rfl ?_
    refine sx_aald (pc := 16) (r := 2 + 9 * dev.toNatClampNeg) dX5_octet_16 s_lines rfl rfl (vp_in_lt hb.1 hb.2 (by decide)) (el_lines _ hd) ?_
    refine sx_astore_n (pc := 17) (L' := [some (.ref (X.2 + 0)), some (.int dev), some (.int b), some (.ref (X.2 + (2 + 9 * dev.toNatClampNeg))), none]) dX5_octet_17 rfl (by decide) rfl ?_
    refine sx_iload_n (pc := 18) dX5_octet_18 rfl rfl ?_
    refine sx_sipush (pc := 19) (v := 255) dX5_octet_19 (by decide) ?_
    refine sx_iand (pc := 22) dX5_octet_22 ?_
    refine sx_istore (pc := 23) (L' := [some (.ref (X.2 + 0)), some (.int dev), some (.int b), some (.ref (X.2 + (2 + 9 * dev.toNatClampNeg))), some (.int (b &&& 255))]) dX5_octet_23 (by decide) rfl ?_
    refine sx_aload_n (pc := 25) dX5_octet_25 rfl rfl ?_
    refine sx_geti (pc := 26) (ci := 2) (j := 2) dX5_octet_26 rfl (s_Line _ hd) rfl (by decide) lf_X5_45 ?_
    refine sx_if_ne (pc := 29) (tgt := 39) dX5_octet_29 (by decide) (fun c_29 => absurd hf.2.1 c_29) (fun c_29 => ?_)
    refine sx_iload (pc := 32) dX5_octet_32 rfl ?_
    refine sx_bipush (pc := 34) (v := 13) dX5_octet_34 (by decide) ?_
    refine sx_icmp_eq (pc := 36) (tgt := 46) dX5_octet_36 (by decide) (fun c_36 => ?_) (fun c_36 => ?_)
    · have h_36t := c_36
      refine sx_aload_n (pc := 46) dX5_octet_46 rfl rfl ?_
      refine sx_iload_n (pc := 47) dX5_octet_47 rfl rfl ?_
      refine sx_aload_n (pc := 48) dX5_octet_48 rfl rfl ?_
      refine sx_callV (pc := 49) (As := [.int dev, .ref (X.2 + (2 + 9 * dev.toNatClampNeg))]) dX5_octet_49 (c_endMessage0 X Ex hE μ _ _ hd (by rw [hf.1]; decide)) mX5_endMessage lm_X5_53 rfl s_EW rfl ⟨Nat.le_of_ble_eq_true rfl, Nat.le_of_ble_eq_true rfl⟩ ⟨Nat.le_of_ble_eq_true rfl, Nat.le_of_ble_eq_true rfl⟩ (Nat.le_of_ble_eq_true rfl) hE (fun r_49 sh1 μ2 h_49 => ?_)
      obtain ⟨rfl, rfl, k_49⟩ := h_49
      refine sx_iconst (pc := 52) (v := 0) dX5_octet_52 (by decide) ?_
      exact sx_iret (pc := 53) dX5_octet_53 rfl rfl (Nat.zero_le _) (Nat.zero_le _) (⟨rfl, (Ks.trans (Ks.rf) k_49), by rw [R_octet, if_pos hb, if_pos h_36t]⟩)
    · have h_36f := c_36
      refine sx_aload_n (pc := 39) dX5_octet_39 rfl rfl ?_
      refine sx_iload (pc := 40) dX5_octet_40 rfl ?_
      refine sx_callV (pc := 42) (As := [.int (b &&& 255)]) dX5_octet_42 (c_take X Ex hE μ _ hd _) mX2_take lm_X5_49 rfl (s_Line _ hd) rfl ⟨Nat.le_of_ble_eq_true rfl, Nat.le_of_ble_eq_true rfl⟩ ⟨Nat.le_of_ble_eq_true rfl, Nat.le_of_ble_eq_true rfl⟩ (Nat.le_of_ble_eq_true rfl) hE (fun r_42 sh1 μ3 h_42 => ?_)
      obtain ⟨rfl, k_42, z_42⟩ := h_42
      rw [z_42 hf.2.1 hf.1]
      exact sx_iret (pc := 45) dX5_octet_45 rfl rfl (Nat.zero_le _) (Nat.zero_le _) (⟨rfl, (Ks.trans (Ks.rf) k_42), by rw [R_octet, if_pos hb, if_neg h_36f]⟩)
  · have h_6f := c_6
    refine sx_iconst (pc := 9) (v := (-1)) dX5_octet_9 (by decide) ?_
    exact sx_iret (pc := 10) dX5_octet_10 rfl rfl (Nat.zero_le _) (Nat.zero_le _) (⟨rfl, (Ks.rf), by rw [R_octet, if_neg (isB_f hx_3 h_6f)]⟩)
set_option maxHeartbeats 1000000 in
set_option maxRecDepth 20000 in
theorem p_reset (X : xD) (Ex : State → Prop) (hE : xEs X false shA.length Ex) (μ : xM) (dev : Int32) (hF : Fr μ) : Ct X Ex false yX5_reset kX5_reset (rmN 2) [.ref (X.2 + 0), .int dev] shA μ (fun r sh' μ' => shA = sh' ∧ Ks μ μ' ∧ r = some (.int (R_reset dev))) := by
  refine Ct.of (L0 := [some (.ref (X.2 + 0)), some (.int dev), none]) (by decide) rfl (fun h => by cases h) (by simp [Value.category]) (Nat.le_of_ble_eq_true rfl) rfl (fun l => ?_)
  refine sx_iload_n (pc := 0) dX5_reset_0 rfl rfl ?_
  refine sx_bipush (pc := 1) (v := 6) dX5_reset_1 (by decide) ?_
  refine sx_callS (pc := 3) (As := [.int dev, .int 6]) dX5_reset_3 (c_isBelow X Ex false shA μ _ _) mX5_isBelow lm_X5_41 rfl ⟨Nat.le_of_ble_eq_true rfl, Nat.le_of_ble_eq_true rfl⟩ ⟨Nat.le_of_ble_eq_true rfl, Nat.le_of_ble_eq_true rfl⟩ (Nat.le_of_ble_eq_true rfl) hE (fun r_3 sh1 μ1 h_3 => ?_)
  obtain ⟨rfl, rfl, x_3, rfl, hx_3⟩ := h_3
  refine sx_if_ne (pc := 6) (tgt := 11) dX5_reset_6 (by decide) (fun c_6 => ?_) (fun c_6 => ?_)
  · have h_6t := c_6
    have hb := isB_t hx_3 h_6t
    have hd := clamp_lt (n := 6) hb.1 hb.2 (by decide)
    have hf := hF.1 _ hd
    refine sx_aload_n (pc := 11) dX5_reset_11 rfl rfl ?_
    refine sx_getr (pc := 12) (ci := 5) (j := 0) (r := 1) dX5_reset_12 rfl s_EW rfl (by decide) lf_X5_11 ?_
    refine sx_iload_n (pc := 15) dX5_reset_15 rfl rfl ?_
    refine sx_aald (pc := 16) (r := 2 + 9 * dev.toNatClampNeg) dX5_reset_16 s_lines rfl rfl (vp_in_lt hb.1 hb.2 (by decide)) (el_lines _ hd) ?_
    refine sx_geti (pc := 17) (ci := 2) (j := 1) dX5_reset_17 rfl (s_Line _ hd) rfl (by decide) lf_X5_77 ?_
    refine sx_istore_n (pc := 20) (L' := [some (.ref (X.2 + 0)), some (.int dev), some (.int (μ (2 + 9 * dev.toNatClampNeg) 1))]) dX5_reset_20 rfl (by decide) rfl ?_
    refine sx_aload_n (pc := 21) dX5_reset_21 rfl rfl ?_
    refine sx_getr (pc := 22) (ci := 5) (j := 0) (r := 1) dX5_reset_22 rfl s_EW rfl (by decide) lf_X5_11 ?_
    refine sx_iload_n (pc := 25) dX5_reset_25 rfl rfl ?_
    refine sx_aald (pc := 26) (r := 2 + 9 * dev.toNatClampNeg) dX5_reset_26 s_lines rfl rfl (vp_in_lt hb.1 hb.2 (by decide)) (el_lines _ hd) ?_
    refine sx_callV (pc := 27) (As := []) dX5_reset_27 (c_clear X Ex hE μ _ hd) mX2_clear lm_X5_80 rfl (s_Line _ hd) rfl ⟨Nat.le_of_ble_eq_true rfl, Nat.le_of_ble_eq_true rfl⟩ ⟨Nat.le_of_ble_eq_true rfl, Nat.le_of_ble_eq_true rfl⟩ (Nat.le_of_ble_eq_true rfl) hE (fun r_27 sh1 μ2 h_27 => ?_)
    obtain ⟨rfl, rfl, k_27⟩ := h_27
    refine sx_iload_n (pc := 30) dX5_reset_30 rfl rfl ?_
    exact sx_iret (pc := 31) dX5_reset_31 rfl rfl (Nat.zero_le _) (Nat.zero_le _) (⟨rfl, (Ks.trans (Ks.rf) k_27), by rw [R_reset, if_pos hb, hf.1]⟩)
  · have h_6f := c_6
    refine sx_iconst (pc := 9) (v := (-1)) dX5_reset_9 (by decide) ?_
    exact sx_iret (pc := 10) dX5_reset_10 rfl rfl (Nat.zero_le _) (Nat.zero_le _) (⟨rfl, (Ks.rf), by rw [R_reset, if_neg (isB_f hx_3 h_6f)]⟩)
set_option maxHeartbeats 1000000 in
set_option maxRecDepth 20000 in
theorem p_join (X : xD) (Ex : State → Prop) (hE : xEs X false shA.length Ex) (μ : xM) (dev : Int32) (hF : Fr μ) : Ct X Ex false yX5_join kX5_join (rmN 2) [.ref (X.2 + 0), .int dev] shA μ (fun r sh' μ' => shA = sh' ∧ Ks μ μ' ∧ r = some (.int (R_reset dev))) := by
  refine Ct.of (L0 := [some (.ref (X.2 + 0)), some (.int dev), none, none, none]) (by decide) rfl (fun h => by cases h) (by simp [Value.category]) (Nat.le_of_ble_eq_true rfl) rfl (fun l => ?_)
  refine sx_iload_n (pc := 0) dX5_join_0 rfl rfl ?_
  refine sx_bipush (pc := 1) (v := 6) dX5_join_1 (by decide) ?_
  refine sx_callS (pc := 3) (As := [.int dev, .int 6]) dX5_join_3 (c_isBelow X Ex false shA μ _ _) mX5_isBelow lm_X5_41 rfl ⟨Nat.le_of_ble_eq_true rfl, Nat.le_of_ble_eq_true rfl⟩ ⟨Nat.le_of_ble_eq_true rfl, Nat.le_of_ble_eq_true rfl⟩ (Nat.le_of_ble_eq_true rfl) hE (fun r_3 sh1 μ1 h_3 => ?_)
  obtain ⟨rfl, rfl, x_3, rfl, hx_3⟩ := h_3
  refine sx_if_ne (pc := 6) (tgt := 11) dX5_join_6 (by decide) (fun c_6 => ?_) (fun c_6 => ?_)
  · have h_6t := c_6
    have hb := isB_t hx_3 h_6t
    have hd := clamp_lt (n := 6) hb.1 hb.2 (by decide)
    have hf := hF.1 _ hd
    refine sx_aload_n (pc := 11) dX5_join_11 rfl rfl ?_
    refine sx_getr (pc := 12) (ci := 5) (j := 0) (r := 1) dX5_join_12 rfl s_EW rfl (by decide) lf_X5_11 ?_
    refine sx_iload_n (pc := 15) dX5_join_15 rfl rfl ?_
    refine sx_aald (pc := 16) (r := 2 + 9 * dev.toNatClampNeg) dX5_join_16 s_lines rfl rfl (vp_in_lt hb.1 hb.2 (by decide)) (el_lines _ hd) ?_
    refine sx_astore_n (pc := 17) (L' := [some (.ref (X.2 + 0)), some (.int dev), some (.ref (X.2 + (2 + 9 * dev.toNatClampNeg))), none, none]) dX5_join_17 rfl (by decide) rfl ?_
    refine sx_iconst (pc := 18) (v := 0) dX5_join_18 (by decide) ?_
    refine sx_istore_n (pc := 19) (L' := [some (.ref (X.2 + 0)), some (.int dev), some (.ref (X.2 + (2 + 9 * dev.toNatClampNeg))), some (.int 0), none]) dX5_join_19 rfl (by decide) rfl ?_
    refine sx_iconst (pc := 20) (v := 0) dX5_join_20 (by decide) ?_
    refine sx_istore (pc := 21) (L' := [some (.ref (X.2 + 0)), some (.int dev), some (.ref (X.2 + (2 + 9 * dev.toNatClampNeg))), some (.int 0), some (.int 0)]) dX5_join_21 (by decide) rfl ?_
    refine sx_iload (pc := 23) dX5_join_23 rfl ?_
    refine sx_aload_n (pc := 25) dX5_join_25 rfl rfl ?_
    refine sx_geti (pc := 26) (ci := 2) (j := 11) dX5_join_26 rfl (s_Line _ hd) rfl (by decide) lf_X5_87 ?_
    refine sx_icmp_ge (pc := 29) (tgt := 77) dX5_join_29 (by decide) (fun c_29 => ?_) (fun c_29 => absurd (by rw [hf.2.2.2.2.2.1]; decide) c_29)
    refine sx_aload_n (pc := 77) dX5_join_77 rfl rfl ?_
    refine sx_iconst (pc := 78) (v := 0) dX5_join_78 (by decide) ?_
    refine sx_puti (pc := 79) (ci := 2) (j := 11) (ty := .int) dX5_join_79 rfl (s_Line _ hd) rfl (by decide) lf_X5_87 rfl (by decide +kernel) rfl rfl (fun μ2 hμ2 => ?_)
    refine sx_iload_n (pc := 82) dX5_join_82 rfl rfl ?_
    exact sx_iret (pc := 83) dX5_join_83 rfl rfl (Nat.zero_le _) (Nat.zero_le _) (⟨rfl, (Ks.put (Ks.rf) hμ2 (by omega)), by rw [R_reset, if_pos hb]⟩)
  · have h_6f := c_6
    refine sx_iconst (pc := 9) (v := (-1)) dX5_join_9 (by decide) ?_
    exact sx_iret (pc := 10) dX5_join_10 rfl rfl (Nat.zero_le _) (Nat.zero_le _) (⟨rfl, (Ks.rf), by rw [R_reset, if_neg (isB_f hx_3 h_6f)]⟩)
set_option maxHeartbeats 1000000 in
set_option maxRecDepth 20000 in
theorem p_owes (X : xD) (Ex : State → Prop) (hE : xEs X false shA.length Ex) (μ : xM) (pr c : Int32) (hF : Fr μ) : Ct X Ex false yX5_owes kX5_owes (rmN 1) [.ref (X.2 + 0), .int pr, .int c] shA μ (fun r sh' μ' => shA = sh' ∧ Ks μ μ' ∧ r = some (.int (R_owes pr c))) := by
  refine Ct.of (L0 := [some (.ref (X.2 + 0)), some (.int pr), some (.int c), none]) (by decide) rfl (fun h => by cases h) (by simp [Value.category]) (Nat.le_of_ble_eq_true rfl) rfl (fun l => ?_)
  refine sx_iload_n (pc := 0) dX5_owes_0 rfl rfl ?_
  refine sx_bipush (pc := 1) (v := 30) dX5_owes_1 (by decide) ?_
  refine sx_callS (pc := 3) (As := [.int pr, .int 30]) dX5_owes_3 (c_isBelow X Ex false shA μ _ _) mX5_isBelow lm_X5_41 rfl ⟨Nat.le_of_ble_eq_true rfl, Nat.le_of_ble_eq_true rfl⟩ ⟨Nat.le_of_ble_eq_true rfl, Nat.le_of_ble_eq_true rfl⟩ (Nat.le_of_ble_eq_true rfl) hE (fun r_3 sh1 μ1 h_3 => ?_)
  obtain ⟨rfl, rfl, x_3, rfl, hx_3⟩ := h_3
  refine sx_if_eq (pc := 6) (tgt := 19) dX5_owes_6 (by decide) (fun c_6 => ?_) (fun c_6 => ?_)
  · have h_6t := c_6
    refine sx_iconst (pc := 19) (v := (-1)) dX5_owes_19 (by decide) ?_
    exact sx_iret (pc := 20) dX5_owes_20 rfl rfl (Nat.zero_le _) (Nat.zero_le _) (⟨rfl, (Ks.rf), by rw [R_owes, if_neg]; rintro ⟨q1, q2, q3⟩; first | exact isB_f hx_3 h_6t q1 | exact absurd h_10t (Int32.not_lt.mpr q2) | exact h_16f q3⟩)
  · have h_6f := c_6
    have hb := isB_t hx_3 h_6f
    refine sx_iload_n (pc := 9) dX5_owes_9 rfl rfl ?_
    refine sx_if_lt (pc := 10) (tgt := 19) dX5_owes_10 (by decide) (fun c_10 => ?_) (fun c_10 => ?_)
    · have h_10t := c_10
      refine sx_iconst (pc := 19) (v := (-1)) dX5_owes_19 (by decide) ?_
      exact sx_iret (pc := 20) dX5_owes_20 rfl rfl (Nat.zero_le _) (Nat.zero_le _) (⟨rfl, (Ks.rf), by rw [R_owes, if_neg]; rintro ⟨q1, q2, q3⟩; first | exact isB_f hx_3 h_6t q1 | exact absurd h_10t (Int32.not_lt.mpr q2) | exact h_16f q3⟩)
    · have h_10f := c_10
      refine sx_iload_n (pc := 13) dX5_owes_13 rfl rfl ?_
      refine sx_ldc (pc := 14) dX5_owes_14 ld_X5_107 ?_
      refine sx_icmp_le (pc := 16) (tgt := 21) dX5_owes_16 (by decide) (fun c_16 => ?_) (fun c_16 => ?_)
      · have h_16t := c_16
        refine sx_aload_n (pc := 21) dX5_owes_21 rfl rfl ?_
        refine sx_getr (pc := 22) (ci := 5) (j := 1) (r := 56) dX5_owes_22 rfl s_EW rfl (by decide) lf_X5_19 ?_
        refine sx_getr (pc := 25) (ci := 0) (j := 0) (r := 57) dX5_owes_25 rfl s_Ho rfl (by decide) lf_X5_108 ?_
        refine sx_iload_n (pc := 28) dX5_owes_28 rfl rfl ?_
        refine sx_iald (pc := 29) dX5_owes_29 s_debts (by decide) rfl (vp_in_lt hb.1 hb.2 (by decide)) ?_
        refine sx_istore_n (pc := 30) (L' := [some (.ref (X.2 + 0)), some (.int pr), some (.int c), some (.int (μ 57 pr.toNatClampNeg))]) dX5_owes_30 rfl (by decide) rfl ?_
        refine sx_aload_n (pc := 31) dX5_owes_31 rfl rfl ?_
        refine sx_getr (pc := 32) (ci := 5) (j := 1) (r := 56) dX5_owes_32 rfl s_EW rfl (by decide) lf_X5_19 ?_
        refine sx_getr (pc := 35) (ci := 0) (j := 0) (r := 57) dX5_owes_35 rfl s_Ho rfl (by decide) lf_X5_108 ?_
        refine sx_iload_n (pc := 38) dX5_owes_38 rfl rfl ?_
        refine sx_iload_n (pc := 39) dX5_owes_39 rfl rfl ?_
        refine sx_iast (pc := 40) dX5_owes_40 s_debts (by decide) rfl (vp_in_lt hb.1 hb.2 (by decide)) (fun μ2 hμ2 => ?_)
        refine sx_iload_n (pc := 41) dX5_owes_41 rfl rfl ?_
        exact sx_iret (pc := 42) dX5_owes_42 rfl rfl (Nat.zero_le _) (Nat.zero_le _) (⟨rfl, (Ks.put (Ks.rf) hμ2 (by omega)), by rw [R_owes, if_pos ⟨hb, Int32.not_lt.mp h_10f, h_16t⟩, hF.2.1]⟩)
      · have h_16f := c_16
        refine sx_iconst (pc := 19) (v := (-1)) dX5_owes_19 (by decide) ?_
        exact sx_iret (pc := 20) dX5_owes_20 rfl rfl (Nat.zero_le _) (Nat.zero_le _) (⟨rfl, (Ks.rf), by rw [R_owes, if_neg]; rintro ⟨q1, q2, q3⟩; first | exact isB_f hx_3 h_6t q1 | exact absurd h_10t (Int32.not_lt.mpr q2) | exact h_16f q3⟩)
set_option maxHeartbeats 1000000 in
set_option maxRecDepth 20000 in
theorem p_acts (X : xD) (Ex : State → Prop) (hE : xEs X false shA.length Ex) (μ : xM) (hF : Fr μ) : Ct X Ex false yX5_acts kX5_acts (rmN 0) [.ref (X.2 + 0)] shA μ (fun r sh' μ' => shA = sh' ∧ Ks μ μ' ∧ r = some (.int (0))) := by
  refine Ct.of (L0 := [some (.ref (X.2 + 0))]) (by decide) rfl (fun h => by cases h) (by simp [Value.category]) (Nat.le_of_ble_eq_true rfl) rfl (fun l => ?_)
  refine sx_aload_n (pc := 0) dX5_acts_0 rfl rfl ?_
  refine sx_getr (pc := 1) (ci := 5) (j := 2) (r := 92) dX5_acts_1 rfl s_EW rfl (by decide) lf_X5_26 ?_
  refine sx_geti (pc := 4) (ci := 1) (j := 1) dX5_acts_4 rfl s_Jo rfl (by decide) lf_X5_111 ?_
  exact sx_iret (pc := 7) dX5_acts_7 rfl rfl (Nat.zero_le _) (Nat.zero_le _) (⟨rfl, (Ks.rf), by rw [hF.2.2.2.1]⟩)
set_option maxHeartbeats 1000000 in
set_option maxRecDepth 20000 in
theorem p_act (X : xD) (Ex : State → Prop) (hE : xEs X false shA.length Ex) (μ : xM) (i w : Int32) (hF : Fr μ) : Ct X Ex false yX5_act kX5_act (rmN 2) [.ref (X.2 + 0), .int i, .int w] shA μ (fun r sh' μ' => shA = sh' ∧ Ks μ μ' ∧ r = some (.int (-1))) := by
  refine Ct.of (L0 := [some (.ref (X.2 + 0)), some (.int i), some (.int w)]) (by decide) rfl (fun h => by cases h) (by simp [Value.category]) (Nat.le_of_ble_eq_true rfl) rfl (fun l => ?_)
  refine sx_aload_n (pc := 0) dX5_act_0 rfl rfl ?_
  refine sx_getr (pc := 1) (ci := 5) (j := 2) (r := 92) dX5_act_1 rfl s_EW rfl (by decide) lf_X5_26 ?_
  refine sx_iload_n (pc := 4) dX5_act_4 rfl rfl ?_
  refine sx_iload_n (pc := 5) dX5_act_5 rfl rfl ?_
  refine sx_callV (pc := 6) (As := [.int i, .int w]) dX5_act_6 (c_tell0 X Ex hE μ _ _ hF.2.2.2.1) mX1_tell lm_X5_112 rfl s_Jo rfl ⟨Nat.le_of_ble_eq_true rfl, Nat.le_of_ble_eq_true rfl⟩ ⟨Nat.le_of_ble_eq_true rfl, Nat.le_of_ble_eq_true rfl⟩ (Nat.le_of_ble_eq_true rfl) hE (fun r_6 sh1 μ1 h_6 => ?_)
  obtain ⟨rfl, rfl, rfl⟩ := h_6
  exact sx_iret (pc := 9) dX5_act_9 rfl rfl (Nat.zero_le _) (Nat.zero_le _) (⟨rfl, (Ks.rf), rfl⟩)
set_option maxHeartbeats 1000000 in
set_option maxRecDepth 20000 in
theorem p_sum (X : xD) (Ex : State → Prop) (hE : xEs X false shA.length Ex) (μ : xM) (c : Int32) (hF : Fr μ) : Ct X Ex false yX5_sum kX5_sum (rmN 0) [.ref (X.2 + 0), .int c] shA μ (fun r sh' μ' => shA = sh' ∧ Ks μ μ' ∧ r = some (.int (R_sum c))) := by
  refine Ct.of (L0 := [some (.ref (X.2 + 0)), some (.int c), none]) (by decide) rfl (fun h => by cases h) (by simp [Value.category]) (Nat.le_of_ble_eq_true rfl) rfl (fun l => ?_)
  refine sx_iload_n (pc := 0) dX5_sum_0 rfl rfl ?_
  refine sx_if_ge (pc := 1) (tgt := 16) dX5_sum_1 (by decide) (fun c_1 => ?_) (fun c_1 => ?_)
  · have h_1t := c_1
    refine sx_aload_n (pc := 16) dX5_sum_16 rfl rfl ?_
    refine sx_aload_n (pc := 17) dX5_sum_17 rfl rfl ?_
    refine sx_geti (pc := 18) (ci := 5) (j := 4) dX5_sum_18 rfl s_EW rfl (by decide) lf_X5_37 ?_
    refine sx_iload_n (pc := 21) dX5_sum_21 rfl rfl ?_
    refine sx_iadd (pc := 22) dX5_sum_22 ?_
    refine sx_sipush (pc := 23) (v := 255) dX5_sum_23 (by decide) ?_
    refine sx_iand (pc := 26) dX5_sum_26 ?_
    refine sx_puti (pc := 27) (ci := 5) (j := 4) (ty := .int) dX5_sum_27 rfl s_EW rfl (by decide) lf_X5_37 rfl (by decide +kernel) rfl rfl (fun μ1 hμ1 => ?_)
    refine sx_aload_n (pc := 30) dX5_sum_30 rfl rfl ?_
    refine sx_geti (pc := 31) (ci := 5) (j := 4) dX5_sum_31 rfl s_EW rfl (by decide) lf_X5_37 ?_
    exact sx_iret (pc := 34) dX5_sum_34 rfl rfl (Nat.zero_le _) (Nat.zero_le _) (⟨rfl, (Ks.put (Ks.rf) hμ1 (by omega)), by rw [R_sum, if_neg (Int32.not_lt.mpr h_1t)]; subst hμ1; simp [xup_at, hF.2.2.2.2]⟩)
  · have h_1f := c_1
    refine sx_aload_n (pc := 4) dX5_sum_4 rfl rfl ?_
    refine sx_geti (pc := 5) (ci := 5) (j := 4) dX5_sum_5 rfl s_EW rfl (by decide) lf_X5_37 ?_
    refine sx_istore_n (pc := 8) (L' := [some (.ref (X.2 + 0)), some (.int c), some (.int (μ 0 4))]) dX5_sum_8 rfl (by decide) rfl ?_
    refine sx_aload_n (pc := 9) dX5_sum_9 rfl rfl ?_
    refine sx_iconst (pc := 10) (v := 0) dX5_sum_10 (by decide) ?_
    refine sx_puti (pc := 11) (ci := 5) (j := 4) (ty := .int) dX5_sum_11 rfl s_EW rfl (by decide) lf_X5_37 rfl (by decide +kernel) rfl rfl (fun μ2 hμ2 => ?_)
    refine sx_iload_n (pc := 14) dX5_sum_14 rfl rfl ?_
    exact sx_iret (pc := 15) dX5_sum_15 rfl rfl (Nat.zero_le _) (Nat.zero_le _) (⟨rfl, (Ks.put (Ks.rf) hμ2 (by omega)), by rw [R_sum, if_pos (Int32.not_le.mp h_1f), hF.2.2.2.2]⟩)
set_option maxHeartbeats 1000000 in
set_option maxRecDepth 20000 in
theorem p_waits (X : xD) (Ex : State → Prop) (hE : xEs X false shA.length Ex) (μ : xM) (it i : Int32) (hF : Fr μ) : Ct X Ex false yX5_waits kX5_waits (rmN 1) [.ref (X.2 + 0), .int it, .int i] shA μ (fun r sh' μ' => shA = sh' ∧ Ks μ μ' ∧ r = some (.int (-1))) := by
  refine Ct.of (L0 := [some (.ref (X.2 + 0)), some (.int it), some (.int i)]) (by decide) rfl (fun h => by cases h) (by simp [Value.category]) (Nat.le_of_ble_eq_true rfl) rfl (fun l => ?_)
  refine sx_iload_n (pc := 0) dX5_waits_0 rfl rfl ?_
  refine sx_bipush (pc := 1) (v := 30) dX5_waits_1 (by decide) ?_
  refine sx_callS (pc := 3) (As := [.int it, .int 30]) dX5_waits_3 (c_isBelow X Ex false shA μ _ _) mX5_isBelow lm_X5_41 rfl ⟨Nat.le_of_ble_eq_true rfl, Nat.le_of_ble_eq_true rfl⟩ ⟨Nat.le_of_ble_eq_true rfl, Nat.le_of_ble_eq_true rfl⟩ (Nat.le_of_ble_eq_true rfl) hE (fun r_3 sh1 μ1 h_3 => ?_)
  obtain ⟨rfl, rfl, x_3, rfl, hx_3⟩ := h_3
  refine sx_if_eq (pc := 6) (tgt := 25) dX5_waits_6 (by decide) (fun c_6 => ?_) (fun c_6 => ?_)
  · have h_6t := c_6
    refine sx_iconst (pc := 25) (v := (-1)) dX5_waits_25 (by decide) ?_
    exact sx_iret (pc := 26) dX5_waits_26 rfl rfl (Nat.zero_le _) (Nat.zero_le _) (⟨rfl, (Ks.rf), rfl⟩)
  · have h_6f := c_6
    have hb := isB_t hx_3 h_6f
    refine sx_iload_n (pc := 9) dX5_waits_9 rfl rfl ?_
    refine sx_aload_n (pc := 10) dX5_waits_10 rfl rfl ?_
    refine sx_getr (pc := 11) (ci := 5) (j := 1) (r := 56) dX5_waits_11 rfl s_EW rfl (by decide) lf_X5_19 ?_
    refine sx_getr (pc := 14) (ci := 0) (j := 4) (r := 91) dX5_waits_14 rfl s_Ho rfl (by decide) lf_X5_125 ?_
    refine sx_iload_n (pc := 17) dX5_waits_17 rfl rfl ?_
    refine sx_iald (pc := 18) dX5_waits_18 s_qlen (by decide) rfl (vp_in_lt hb.1 hb.2 (by decide)) ?_
    refine sx_callS (pc := 19) (As := [.int i, .int (μ 91 it.toNatClampNeg)]) dX5_waits_19 (c_isBelow X Ex false shA μ _ _) mX5_isBelow lm_X5_41 rfl ⟨Nat.le_of_ble_eq_true rfl, Nat.le_of_ble_eq_true rfl⟩ ⟨Nat.le_of_ble_eq_true rfl, Nat.le_of_ble_eq_true rfl⟩ (Nat.le_of_ble_eq_true rfl) hE (fun r_19 sh1 μ2 h_19 => ?_)
    obtain ⟨rfl, rfl, x_19, rfl, hx_19⟩ := h_19
    refine sx_if_ne (pc := 22) (tgt := 27) dX5_waits_22 (by decide) (fun c_22 => ?_) (fun c_22 => ?_)
    · have h_22t := c_22
      have z := isB_t hx_19 h_22t; rw [hF.2.2.1] at z; exact absurd (Int32.lt_of_le_of_lt z.1 z.2) (by decide)
    · have h_22f := c_22
      refine sx_iconst (pc := 25) (v := (-1)) dX5_waits_25 (by decide) ?_
      exact sx_iret (pc := 26) dX5_waits_26 rfl rfl (Nat.zero_le _) (Nat.zero_le _) (⟨rfl, (Ks.rf), rfl⟩)
set_option maxHeartbeats 1000000 in
set_option maxRecDepth 20000 in
theorem p_offline (X : xD) (Ex : State → Prop) (hE : xEs X false shA.length Ex) (μ : xM) (dev kd it ps : Int32) (hF : Fr μ) : Ct X Ex false yX5_offline kX5_offline (rmN 2) [.ref (X.2 + 0), .int dev, .int kd, .int it, .int ps] shA μ (fun r sh' μ' => shA = sh' ∧ Ks μ μ' ∧ r = some (.int (R_off dev kd it ps))) := by
  refine Ct.of (L0 := [some (.ref (X.2 + 0)), some (.int dev), some (.int kd), some (.int it), some (.int ps), none]) (by decide) rfl (fun h => by cases h) (by simp [Value.category]) (Nat.le_of_ble_eq_true rfl) rfl (fun l => ?_)
  refine sx_iload_n (pc := 0) dX5_offline_0 rfl rfl ?_
  refine sx_bipush (pc := 1) (v := 6) dX5_offline_1 (by decide) ?_
  refine sx_callS (pc := 3) (As := [.int dev, .int 6]) dX5_offline_3 (c_isBelow X Ex false shA μ _ _) mX5_isBelow lm_X5_41 rfl ⟨Nat.le_of_ble_eq_true rfl, Nat.le_of_ble_eq_true rfl⟩ ⟨Nat.le_of_ble_eq_true rfl, Nat.le_of_ble_eq_true rfl⟩ (Nat.le_of_ble_eq_true rfl) hE (fun r_3 sh1 μ1 h_3 => ?_)
  obtain ⟨rfl, rfl, x_3, rfl, hx_3⟩ := h_3
  refine sx_if_eq (pc := 6) (tgt := 40) dX5_offline_6 (by decide) (fun c_6 => ?_) (fun c_6 => ?_)
  · have h_6t := c_6
    refine sx_iconst (pc := 40) (v := 0) dX5_offline_40 (by decide) ?_
    refine sx_istore (pc := 41) (L' := [some (.ref (X.2 + 0)), some (.int dev), some (.int kd), some (.int it), some (.int ps), some (.int 0)]) dX5_offline_41 (by decide) rfl ?_
    refine sx_iload (pc := 43) dX5_offline_43 rfl ?_
    refine sx_if_ne (pc := 45) (tgt := 50) dX5_offline_45 (by decide) (fun c_45 => absurd c_45 (by decide)) (fun c_45 => ?_)
    refine sx_iconst (pc := 48) (v := (-1)) dX5_offline_48 (by decide) ?_
    exact sx_iret (pc := 49) dX5_offline_49 rfl rfl (Nat.zero_le _) (Nat.zero_le _) (⟨rfl, (Ks.rf), by rw [R_off, if_neg]; rintro ⟨q1, q2, q3, q4⟩; first | exact isB_f hx_3 h_6t q1 | exact isB_f hx_11 h_14t q2 | exact isB_f hx_20 h_23t q3 | exact isB_f hx_30 h_33t q4⟩)
  · have h_6f := c_6
    refine sx_iload_n (pc := 9) dX5_offline_9 rfl rfl ?_
    refine sx_iconst (pc := 10) (v := 2) dX5_offline_10 (by decide) ?_
    refine sx_callS (pc := 11) (As := [.int kd, .int 2]) dX5_offline_11 (c_isBelow X Ex false shA μ _ _) mX5_isBelow lm_X5_41 rfl ⟨Nat.le_of_ble_eq_true rfl, Nat.le_of_ble_eq_true rfl⟩ ⟨Nat.le_of_ble_eq_true rfl, Nat.le_of_ble_eq_true rfl⟩ (Nat.le_of_ble_eq_true rfl) hE (fun r_11 sh1 μ2 h_11 => ?_)
    obtain ⟨rfl, rfl, x_11, rfl, hx_11⟩ := h_11
    refine sx_if_eq (pc := 14) (tgt := 40) dX5_offline_14 (by decide) (fun c_14 => ?_) (fun c_14 => ?_)
    · have h_14t := c_14
      refine sx_iconst (pc := 40) (v := 0) dX5_offline_40 (by decide) ?_
      refine sx_istore (pc := 41) (L' := [some (.ref (X.2 + 0)), some (.int dev), some (.int kd), some (.int it), some (.int ps), some (.int 0)]) dX5_offline_41 (by decide) rfl ?_
      refine sx_iload (pc := 43) dX5_offline_43 rfl ?_
      refine sx_if_ne (pc := 45) (tgt := 50) dX5_offline_45 (by decide) (fun c_45 => absurd c_45 (by decide)) (fun c_45 => ?_)
      refine sx_iconst (pc := 48) (v := (-1)) dX5_offline_48 (by decide) ?_
      exact sx_iret (pc := 49) dX5_offline_49 rfl rfl (Nat.zero_le _) (Nat.zero_le _) (⟨rfl, (Ks.rf), by rw [R_off, if_neg]; rintro ⟨q1, q2, q3, q4⟩; first | exact isB_f hx_3 h_6t q1 | exact isB_f hx_11 h_14t q2 | exact isB_f hx_20 h_23t q3 | exact isB_f hx_30 h_33t q4⟩)
    · have h_14f := c_14
      refine sx_iload_n (pc := 17) dX5_offline_17 rfl rfl ?_
      refine sx_bipush (pc := 18) (v := 30) dX5_offline_18 (by decide) ?_
      refine sx_callS (pc := 20) (As := [.int it, .int 30]) dX5_offline_20 (c_isBelow X Ex false shA μ _ _) mX5_isBelow lm_X5_41 rfl ⟨Nat.le_of_ble_eq_true rfl, Nat.le_of_ble_eq_true rfl⟩ ⟨Nat.le_of_ble_eq_true rfl, Nat.le_of_ble_eq_true rfl⟩ (Nat.le_of_ble_eq_true rfl) hE (fun r_20 sh1 μ3 h_20 => ?_)
      obtain ⟨rfl, rfl, x_20, rfl, hx_20⟩ := h_20
      refine sx_if_eq (pc := 23) (tgt := 40) dX5_offline_23 (by decide) (fun c_23 => ?_) (fun c_23 => ?_)
      · have h_23t := c_23
        refine sx_iconst (pc := 40) (v := 0) dX5_offline_40 (by decide) ?_
        refine sx_istore (pc := 41) (L' := [some (.ref (X.2 + 0)), some (.int dev), some (.int kd), some (.int it), some (.int ps), some (.int 0)]) dX5_offline_41 (by decide) rfl ?_
        refine sx_iload (pc := 43) dX5_offline_43 rfl ?_
        refine sx_if_ne (pc := 45) (tgt := 50) dX5_offline_45 (by decide) (fun c_45 => absurd c_45 (by decide)) (fun c_45 => ?_)
        refine sx_iconst (pc := 48) (v := (-1)) dX5_offline_48 (by decide) ?_
        exact sx_iret (pc := 49) dX5_offline_49 rfl rfl (Nat.zero_le _) (Nat.zero_le _) (⟨rfl, (Ks.rf), by rw [R_off, if_neg]; rintro ⟨q1, q2, q3, q4⟩; first | exact isB_f hx_3 h_6t q1 | exact isB_f hx_11 h_14t q2 | exact isB_f hx_20 h_23t q3 | exact isB_f hx_30 h_33t q4⟩)
      · have h_23f := c_23
        refine sx_iload (pc := 26) dX5_offline_26 rfl ?_
        refine sx_bipush (pc := 28) (v := 30) dX5_offline_28 (by decide) ?_
        refine sx_callS (pc := 30) (As := [.int ps, .int 30]) dX5_offline_30 (c_isBelow X Ex false shA μ _ _) mX5_isBelow lm_X5_41 rfl ⟨Nat.le_of_ble_eq_true rfl, Nat.le_of_ble_eq_true rfl⟩ ⟨Nat.le_of_ble_eq_true rfl, Nat.le_of_ble_eq_true rfl⟩ (Nat.le_of_ble_eq_true rfl) hE (fun r_30 sh1 μ4 h_30 => ?_)
        obtain ⟨rfl, rfl, x_30, rfl, hx_30⟩ := h_30
        refine sx_if_eq (pc := 33) (tgt := 40) dX5_offline_33 (by decide) (fun c_33 => ?_) (fun c_33 => ?_)
        · have h_33t := c_33
          refine sx_iconst (pc := 40) (v := 0) dX5_offline_40 (by decide) ?_
          refine sx_istore (pc := 41) (L' := [some (.ref (X.2 + 0)), some (.int dev), some (.int kd), some (.int it), some (.int ps), some (.int 0)]) dX5_offline_41 (by decide) rfl ?_
          refine sx_iload (pc := 43) dX5_offline_43 rfl ?_
          refine sx_if_ne (pc := 45) (tgt := 50) dX5_offline_45 (by decide) (fun c_45 => absurd c_45 (by decide)) (fun c_45 => ?_)
          refine sx_iconst (pc := 48) (v := (-1)) dX5_offline_48 (by decide) ?_
          exact sx_iret (pc := 49) dX5_offline_49 rfl rfl (Nat.zero_le _) (Nat.zero_le _) (⟨rfl, (Ks.rf), by rw [R_off, if_neg]; rintro ⟨q1, q2, q3, q4⟩; first | exact isB_f hx_3 h_6t q1 | exact isB_f hx_11 h_14t q2 | exact isB_f hx_20 h_23t q3 | exact isB_f hx_30 h_33t q4⟩)
        · have h_33f := c_33
          have hb := isB_t hx_3 h_6f
          have hd := clamp_lt (n := 6) hb.1 hb.2 (by decide)
          have hf := hF.1 _ hd
          refine sx_iconst (pc := 36) (v := 1) dX5_offline_36 (by decide) ?_
          refine sx_goto (pc := 37) (tgt := 41) dX5_offline_37 (by decide) ?_
          refine sx_istore (pc := 41) (L' := [some (.ref (X.2 + 0)), some (.int dev), some (.int kd), some (.int it), some (.int ps), some (.int 1)]) dX5_offline_41 (by decide) rfl ?_
          refine sx_iload (pc := 43) dX5_offline_43 rfl ?_
          refine sx_if_ne (pc := 45) (tgt := 50) dX5_offline_45 (by decide) (fun c_45 => ?_) (fun c_45 => absurd c_45 (by decide))
          refine sx_aload_n (pc := 50) dX5_offline_50 rfl rfl ?_
          refine sx_getr (pc := 51) (ci := 5) (j := 0) (r := 1) dX5_offline_51 rfl s_EW rfl (by decide) lf_X5_11 ?_
          refine sx_iload_n (pc := 54) dX5_offline_54 rfl rfl ?_
          refine sx_aald (pc := 55) (r := 2 + 9 * dev.toNatClampNeg) dX5_offline_55 s_lines rfl rfl (vp_in_lt hb.1 hb.2 (by decide)) (el_lines _ hd) ?_
          refine sx_iload_n (pc := 56) dX5_offline_56 rfl rfl ?_
          refine sx_if_ne (pc := 57) (tgt := 65) dX5_offline_57 (by decide) (fun c_57 => ?_) (fun c_57 => ?_)
          · have h_57t := c_57
            refine sx_bipush (pc := 65) (v := 66) dX5_offline_65 (by decide) ?_
            refine sx_iload_n (pc := 67) dX5_offline_67 rfl rfl ?_
            refine sx_iload (pc := 68) dX5_offline_68 rfl ?_
            refine sx_callV (pc := 70) (As := [.int 66, .int it, .int ps]) dX5_offline_70 (c_addRow X Ex hE μ _ hd _ _ _) mX2_addRow lm_X5_83 rfl (s_Line _ hd) rfl ⟨Nat.le_of_ble_eq_true rfl, Nat.le_of_ble_eq_true rfl⟩ ⟨Nat.le_of_ble_eq_true rfl, Nat.le_of_ble_eq_true rfl⟩ (Nat.le_of_ble_eq_true rfl) hE (fun r_70 sh1 μ5 h_70 => ?_)
            obtain ⟨rfl, k_70, z_70⟩ := h_70
            rw [z_70 hf.2.2.2.2.2.1]
            exact sx_iret (pc := 73) dX5_offline_73 rfl rfl (Nat.zero_le _) (Nat.zero_le _) (⟨rfl, (Ks.trans (Ks.rf) k_70), by rw [R_off, if_pos ⟨hb, isB_t hx_11 h_14f, isB_t hx_20 h_23f, isB_t hx_30 h_33f⟩]⟩)
          · have h_57f := c_57
            refine sx_bipush (pc := 60) (v := 67) dX5_offline_60 (by decide) ?_
            refine sx_goto (pc := 62) (tgt := 67) dX5_offline_62 (by decide) ?_
            refine sx_iload_n (pc := 67) dX5_offline_67 rfl rfl ?_
            refine sx_iload (pc := 68) dX5_offline_68 rfl ?_
            refine sx_callV (pc := 70) (As := [.int 67, .int it, .int ps]) dX5_offline_70 (c_addRow X Ex hE μ _ hd _ _ _) mX2_addRow lm_X5_83 rfl (s_Line _ hd) rfl ⟨Nat.le_of_ble_eq_true rfl, Nat.le_of_ble_eq_true rfl⟩ ⟨Nat.le_of_ble_eq_true rfl, Nat.le_of_ble_eq_true rfl⟩ (Nat.le_of_ble_eq_true rfl) hE (fun r_70 sh1 μ6 h_70 => ?_)
            obtain ⟨rfl, k_70, z_70⟩ := h_70
            rw [z_70 hf.2.2.2.2.2.1]
            exact sx_iret (pc := 73) dX5_offline_73 rfl rfl (Nat.zero_le _) (Nat.zero_le _) (⟨rfl, (Ks.trans (Ks.rf) k_70), by rw [R_off, if_pos ⟨hb, isB_t hx_11 h_14f, isB_t hx_20 h_23f, isB_t hx_30 h_33f⟩]⟩)
