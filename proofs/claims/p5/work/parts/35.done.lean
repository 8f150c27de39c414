/-! a message is done -/
abbrev SC : Nat → Prop := fun a => 57 ≤ a ∧ a ≤ 94
abbrev SD (d : Nat) : Nat → Prop := fun a => (57 ≤ a ∧ a ≤ 94) ∨ a = 2 + 9 * d ∨ a = 2 + 9 * d + 4 ∨ a = 2 + 9 * d + 5
abbrev SEd (d : Nat) : Nat → Prop := fun a => (57 ≤ a ∧ a ≤ 94) ∨ a = 2 + 9 * d ∨ (2 + 9 * d + 2 ≤ a ∧ a ≤ 2 + 9 * d + 5)
theorem gd_b {μ μ1 : xM} {v : Int32} (e : μ1 = xup μ 94 2 v) (hk : μ 94 0 = 66) (h : GD μ) : GD μ1 := by
  intro i hi
  have e0 : μ1 94 0 = 66 := by rw [e, xup_at, if_neg (by omega)]; exact hk
  have e3 : μ1 94 3 = μ 94 3 := by rw [e, xup_at, if_neg (by omega)]
  rw [e0] at hi
  have hi2 : i = 2 := by
    have : fK 66 = some 2 := by decide
    rw [this] at hi
    exact (Option.some.inj hi).symm
  subst hi2
  rw [e3]
  exact ⟨fun _ => (h 2 (by rw [hk]; decide)).1 (by decide), fun q => by omega⟩
theorem gd_ch {μ μ1 : xM} (e : μ1 94 = μ 94) (h : GD μ) : GD μ1 := by
  unfold GD
  rw [e]
  exact h
def Dm (d : Nat) (μ μ' : xM) : Prop := Ch (SD d) μ μ' ∧ ∀ j, j = 1 ∨ j = 2 ∨ j = 11 → μ' (2 + 9 * d) j = μ (2 + 9 * d) j
theorem Dm.rf {d : Nat} {μ : xM} : Dm d μ μ := ⟨Ch.rf, fun _ _ => rfl⟩
theorem Dm.put {d : Nat} {μ μ1 μ2 : xM} {j : Nat} {v : Int32} (h : Dm d μ μ1) (e : μ2 = xup μ1 (2 + 9 * d) j v) (hd : d < 6) (hj : j ≠ 1 ∧ j ≠ 2 ∧ j ≠ 11) : Dm d μ μ2 :=
  ⟨Ch.put h.1 e (by omega) (LB.off e ⟨by omega, fun _ _ => by omega⟩), fun i hi => by rw [e, xup_at, if_neg (by omega)]; exact h.2 i hi⟩
theorem Dm.tr {d : Nat} {S : Nat → Prop} {μ μ1 μ2 : xM} (h : Dm d μ μ1) (k : Ch S μ1 μ2) (hs : ∀ a, S a → SD d a ∧ a ≠ 2 + 9 * d) : Dm d μ μ2 :=
  ⟨Ch.trans h.1 k (fun a ha => (hs a ha).1), fun i hi => by rw [k.1 (2 + 9 * d) (fun z => (hs _ z).2 rfl)]; exact h.2 i hi⟩
def E0 (d : Nat) (μ μ' : xM) : Prop := Ch (SEd d) μ μ' ∧ (∀ j, j = 2 ∨ j = 11 → μ' (2 + 9 * d) j = μ (2 + 9 * d) j) ∧ μ' (2 + 9 * d) 1 = 0
theorem E0.mk {d : Nat} {μ μ1 μ2 : xM} (h : Ch SM μ μ1) (e : μ2 = xup μ1 (2 + 9 * d) 1 0) (hd : d < 6) : E0 d μ μ2 :=
  ⟨Ch.put (Ch.trans Ch.rf h (fun a (ha : a = 94) => by show SEd d a; omega)) e (by show SEd d _; omega) (LB.off e ⟨by omega, fun _ _ => by omega⟩), fun j hj => by rw [e, xup_at, if_neg (by omega), h.1 _ (by show ¬ (_ = 94); omega)], by rw [e, xup_at, if_pos ⟨rfl, rfl⟩]⟩
theorem E0.put {d : Nat} {μ μ1 μ2 : xM} {j : Nat} {v : Int32} (h : E0 d μ μ1) (e : μ2 = xup μ1 (2 + 9 * d) j v) (hd : d < 6) (hj : j ≠ 1 ∧ j ≠ 2 ∧ j ≠ 11) : E0 d μ μ2 :=
  ⟨Ch.put h.1 e (by show SEd d _; omega) (LB.off e ⟨by omega, fun _ _ => by omega⟩), fun i hi => by rw [e, xup_at, if_neg (by omega)]; exact h.2.1 i hi, by rw [e, xup_at, if_neg (by omega)]; exact h.2.2⟩
theorem E0.tr {d : Nat} {S : Nat → Prop} {μ μ1 μ2 : xM} (h : E0 d μ μ1) (k : Ch S μ1 μ2) (hs : ∀ a, S a → SEd d a ∧ a ≠ 2 + 9 * d) : E0 d μ μ2 := by
  have e := k.1 (2 + 9 * d) (fun z => (hs _ z).2 rfl)
  exact ⟨Ch.trans h.1 k (fun a ha => (hs a ha).1), fun i hi => by rw [e]; exact h.2.1 i hi, by rw [e]; exact h.2.2⟩
theorem E0.dm {d : Nat} {μ μ1 μ2 : xM} (h : E0 d μ μ1) (k : Dm d μ1 μ2) : E0 d μ μ2 :=
  ⟨Ch.trans h.1 k.1 (fun a (ha : (57 ≤ a ∧ a ≤ 94) ∨ a = 2 + 9 * d ∨ a = 2 + 9 * d + 4 ∨ a = 2 + 9 * d + 5) => by show SEd d a; omega), fun i hi => by rw [k.2 i (by omega)]; exact h.2.1 i hi, by rw [k.2 1 (by omega)]; exact h.2.2⟩
set_option maxHeartbeats 1000000 in
set_option maxRecDepth 20000 in
theorem c_carry (X : xD) (Ex : State → Prop) (hE : xEs X false shA.length Ex) (μ : xM) (dv : Int32) (hG : GD μ) (hL : LB μ) : Ct X Ex false yX5_carryOut kX5_carryOut (rmN 3) [.ref (X.2 + 0), .int dv] shA μ (fun r sh' μ' => shA = sh' ∧ Ch SC μ μ' ∧ GD μ' ∧ ∃ x : Int32, r = some (.int x) ∧ (x = 0 ∨ x = 1)) := by
  refine Ct.of (L0 := [some (.ref (X.2 + 0)), some (.int dv), none]) (by decide) rfl (fun h => by cases h) (by simp [Value.category]) (Nat.le_of_ble_eq_true rfl) rfl (fun l => ?_)
  refine sx_aload_n (pc := 0) dX5_carryOut_0 rfl rfl ?_
  refine sx_getr (pc := 1) (ci := 5) (j := 3) (r := 94) dX5_carryOut_1 rfl s_EW rfl (by decide) lf_X5_33 ?_
  refine sx_geti (pc := 4) (ci := 3) (j := 0) dX5_carryOut_4 rfl s_Me rfl (by decide) lf_X5_140 ?_
  refine sx_bipush (pc := 7) (v := 66) dX5_carryOut_7 (by decide) ?_
  refine sx_icmp_ne (pc := 9) (tgt := 34) dX5_carryOut_9 (by decide) (fun c_9 => ?_) (fun c_9 => ?_)
  · have h_9t := c_9
    have hGm : GD μ := by first | exact hG | exact gd_b hμ h_9f hG
    have hLm : LB μ := by first | exact hL | exact LB.off hμ ⟨by omega, fun _ _ => by omega⟩ hL
    refine sx_aload_n (pc := 34) dX5_carryOut_34 rfl rfl ?_
    refine sx_getr (pc := 35) (ci := 5) (j := 1) (r := 56) dX5_carryOut_35 rfl s_EW rfl (by decide) lf_X5_19 ?_
    refine sx_aload_n (pc := 38) dX5_carryOut_38 rfl rfl ?_
    refine sx_getr (pc := 39) (ci := 5) (j := 3) (r := 94) dX5_carryOut_39 rfl s_EW rfl (by decide) lf_X5_33 ?_
    refine sx_callV (pc := 42) (As := [.ref (X.2 + 94)]) dX5_carryOut_42 (c_decide X Ex hE μ hGm hLm) mX0_decide lm_X5_185 rfl s_Ho rfl ⟨Nat.le_of_ble_eq_true rfl, Nat.le_of_ble_eq_true rfl⟩ ⟨Nat.le_of_ble_eq_true rfl, Nat.le_of_ble_eq_true rfl⟩ (Nat.le_of_ble_eq_true rfl) hE (fun r_42 sh1 μ1 h_42 => ?_)
    obtain ⟨rfl, k_42, x_42, rfl, hx_42⟩ := h_42
    refine sx_istore_n (pc := 45) (L' := [some (.ref (X.2 + 0)), some (.int dv), some (.int x_42)]) dX5_carryOut_45 rfl (by decide) rfl ?_
    refine sx_iload_n (pc := 46) dX5_carryOut_46 rfl rfl ?_
    refine sx_if_eq (pc := 47) (tgt := 72) dX5_carryOut_47 (by decide) (fun c_47 => ?_) (fun c_47 => ?_)
    · have h_47t := c_47
      refine sx_iload_n (pc := 72) dX5_carryOut_72 rfl rfl ?_
      exact sx_iret (pc := 73) dX5_carryOut_73 rfl (bool_n hx_42) (Nat.zero_le _) (Nat.zero_le _) (⟨rfl, (Ch.trans (Ch.rf) k_42 (fun a (h : 57 ≤ a ∧ a ≤ 91) => by show SC a; omega)), by first | exact gd_ch (k_69.1 94 (by omega)) (gd_ch (k_42.1 94 (by omega)) hGm) | exact gd_ch (k_42.1 94 (by omega)) hGm, _, rfl, hx_42⟩)
    · have h_47f := c_47
      refine sx_aload_n (pc := 50) dX5_carryOut_50 rfl rfl ?_
      refine sx_getr (pc := 51) (ci := 5) (j := 3) (r := 94) dX5_carryOut_51 rfl s_EW rfl (by decide) lf_X5_33 ?_
      refine sx_callV (pc := 54) (As := []) dX5_carryOut_54 (c_changes X Ex hE μ1) mX3_changesTheHouse lm_X5_189 rfl s_Me rfl ⟨Nat.le_of_ble_eq_true rfl, Nat.le_of_ble_eq_true rfl⟩ ⟨Nat.le_of_ble_eq_true rfl, Nat.le_of_ble_eq_true rfl⟩ (Nat.le_of_ble_eq_true rfl) hE (fun r_54 sh1 μ2 h_54 => ?_)
      obtain ⟨rfl, rfl, x_54, rfl, hx_54⟩ := h_54
      refine sx_if_eq (pc := 57) (tgt := 72) dX5_carryOut_57 (by decide) (fun c_57 => ?_) (fun c_57 => ?_)
      · have h_57t := c_57
        refine sx_iload_n (pc := 72) dX5_carryOut_72 rfl rfl ?_
        exact sx_iret (pc := 73) dX5_carryOut_73 rfl (bool_n hx_42) (Nat.zero_le _) (Nat.zero_le _) (⟨rfl, (Ch.trans (Ch.rf) k_42 (fun a (h : 57 ≤ a ∧ a ≤ 91) => by show SC a; omega)), by first | exact gd_ch (k_69.1 94 (by omega)) (gd_ch (k_42.1 94 (by omega)) hGm) | exact gd_ch (k_42.1 94 (by omega)) hGm, _, rfl, hx_42⟩)
      · have h_57f := c_57
        refine sx_aload_n (pc := 60) dX5_carryOut_60 rfl rfl ?_
        refine sx_getr (pc := 61) (ci := 5) (j := 2) (r := 92) dX5_carryOut_61 rfl s_EW rfl (by decide) lf_X5_26 ?_
        refine sx_iload_n (pc := 64) dX5_carryOut_64 rfl rfl ?_
        refine sx_aload_n (pc := 65) dX5_carryOut_65 rfl rfl ?_
        refine sx_getr (pc := 66) (ci := 5) (j := 3) (r := 94) dX5_carryOut_66 rfl s_EW rfl (by decide) lf_X5_33 ?_
        refine sx_callV (pc := 69) (As := [.int dv, .ref (X.2 + 94)]) dX5_carryOut_69 (c_jadd X Ex hE μ1 _) mX1_add lm_X5_193 rfl s_Jo rfl ⟨Nat.le_of_ble_eq_true rfl, Nat.le_of_ble_eq_true rfl⟩ ⟨Nat.le_of_ble_eq_true rfl, Nat.le_of_ble_eq_true rfl⟩ (Nat.le_of_ble_eq_true rfl) hE (fun r_69 sh1 μ3 h_69 => ?_)
        obtain ⟨rfl, rfl, k_69⟩ := h_69
        refine sx_iload_n (pc := 72) dX5_carryOut_72 rfl rfl ?_
        exact sx_iret (pc := 73) dX5_carryOut_73 rfl (bool_n hx_42) (Nat.zero_le _) (Nat.zero_le _) (⟨rfl, (Ch.trans (Ch.trans (Ch.rf) k_42 (fun a (h : 57 ≤ a ∧ a ≤ 91) => by show SC a; omega)) k_69 (fun a (h : a = 92 ∨ a = 93) => by show SC a; omega)), by first | exact gd_ch (k_69.1 94 (by omega)) (gd_ch (k_42.1 94 (by omega)) hGm) | exact gd_ch (k_42.1 94 (by omega)) hGm, _, rfl, hx_42⟩)
  · have h_9f := c_9
    refine sx_aload_n (pc := 12) dX5_carryOut_12 rfl rfl ?_
    refine sx_getr (pc := 13) (ci := 5) (j := 3) (r := 94) dX5_carryOut_13 rfl s_EW rfl (by decide) lf_X5_33 ?_
    refine sx_aload_n (pc := 16) dX5_carryOut_16 rfl rfl ?_
    refine sx_getr (pc := 17) (ci := 5) (j := 1) (r := 56) dX5_carryOut_17 rfl s_EW rfl (by decide) lf_X5_19 ?_
    refine sx_getr (pc := 20) (ci := 0) (j := 1) (r := 58) dX5_carryOut_20 rfl s_Ho rfl (by decide) lf_X5_176 ?_
    refine sx_aload_n (pc := 23) dX5_carryOut_23 rfl rfl ?_
    refine sx_getr (pc := 24) (ci := 5) (j := 3) (r := 94) dX5_carryOut_24 rfl s_EW rfl (by decide) lf_X5_33 ?_
    refine sx_geti (pc := 27) (ci := 3) (j := 3) dX5_carryOut_27 rfl s_Me rfl (by decide) lf_X5_179 ?_
    refine sx_iald (pc := 30) dX5_carryOut_30 s_borr (by decide) rfl (vp_in_lt (n := 30) ((hG 2 (by rw [h_9f]; decide)).1 (by decide)).1 ((hG 2 (by rw [h_9f]; decide)).1 (by decide)).2 (by decide)) ?_
    refine sx_puti (pc := 31) (ci := 3) (j := 2) (ty := .int) dX5_carryOut_31 rfl s_Me rfl (by decide) lf_X5_182 rfl (by decide +kernel) rfl rfl (fun μ4 hμ4 => ?_)
    have hGm : GD μ4 := by first | exact hG | exact gd_b hμ4 h_9f hG
    have hLm : LB μ4 := by first | exact hL | exact LB.off hμ4 ⟨by omega, fun _ _ => by omega⟩ hL
    refine sx_aload_n (pc := 34) dX5_carryOut_34 rfl rfl ?_
    refine sx_getr (pc := 35) (ci := 5) (j := 1) (r := 56) dX5_carryOut_35 rfl s_EW rfl (by decide) lf_X5_19 ?_
    refine sx_aload_n (pc := 38) dX5_carryOut_38 rfl rfl ?_
    refine sx_getr (pc := 39) (ci := 5) (j := 3) (r := 94) dX5_carryOut_39 rfl s_EW rfl (by decide) lf_X5_33 ?_
    refine sx_callV (pc := 42) (As := [.ref (X.2 + 94)]) dX5_carryOut_42 (c_decide X Ex hE μ4 hGm hLm) mX0_decide lm_X5_185 rfl s_Ho rfl ⟨Nat.le_of_ble_eq_true rfl, Nat.le_of_ble_eq_true rfl⟩ ⟨Nat.le_of_ble_eq_true rfl, Nat.le_of_ble_eq_true rfl⟩ (Nat.le_of_ble_eq_true rfl) hE (fun r_42 sh1 μ5 h_42 => ?_)
    obtain ⟨rfl, k_42, x_42, rfl, hx_42⟩ := h_42
    refine sx_istore_n (pc := 45) (L' := [some (.ref (X.2 + 0)), some (.int dv), some (.int x_42)]) dX5_carryOut_45 rfl (by decide) rfl ?_
    refine sx_iload_n (pc := 46) dX5_carryOut_46 rfl rfl ?_
    refine sx_if_eq (pc := 47) (tgt := 72) dX5_carryOut_47 (by decide) (fun c_47 => ?_) (fun c_47 => ?_)
    · have h_47t := c_47
      refine sx_iload_n (pc := 72) dX5_carryOut_72 rfl rfl ?_
      exact sx_iret (pc := 73) dX5_carryOut_73 rfl (bool_n hx_42) (Nat.zero_le _) (Nat.zero_le _) (⟨rfl, (Ch.trans (Ch.put (Ch.rf) hμ4 (by show SC _; omega) (LB.off hμ4 ⟨by omega, fun _ _ => by omega⟩)) k_42 (fun a (h : 57 ≤ a ∧ a ≤ 91) => by show SC a; omega)), by first | exact gd_ch (k_69.1 94 (by omega)) (gd_ch (k_42.1 94 (by omega)) hGm) | exact gd_ch (k_42.1 94 (by omega)) hGm, _, rfl, hx_42⟩)
    · have h_47f := c_47
      refine sx_aload_n (pc := 50) dX5_carryOut_50 rfl rfl ?_
      refine sx_getr (pc := 51) (ci := 5) (j := 3) (r := 94) dX5_carryOut_51 rfl s_EW rfl (by decide) lf_X5_33 ?_
      refine sx_callV (pc := 54) (As := []) dX5_carryOut_54 (c_changes X Ex hE μ5) mX3_changesTheHouse lm_X5_189 rfl s_Me rfl ⟨Nat.le_of_ble_eq_true rfl, Nat.le_of_ble_eq_true rfl⟩ ⟨Nat.le_of_ble_eq_true rfl, Nat.le_of_ble_eq_true rfl⟩ (Nat.le_of_ble_eq_true rfl) hE (fun r_54 sh1 μ6 h_54 => ?_)
      obtain ⟨rfl, rfl, x_54, rfl, hx_54⟩ := h_54
      refine sx_if_eq (pc := 57) (tgt := 72) dX5_carryOut_57 (by decide) (fun c_57 => ?_) (fun c_57 => ?_)
      · have h_57t := c_57
        refine sx_iload_n (pc := 72) dX5_carryOut_72 rfl rfl ?_
        exact sx_iret (pc := 73) dX5_carryOut_73 rfl (bool_n hx_42) (Nat.zero_le _) (Nat.zero_le _) (⟨rfl, (Ch.trans (Ch.put (Ch.rf) hμ4 (by show SC _; omega) (LB.off hμ4 ⟨by omega, fun _ _ => by omega⟩)) k_42 (fun a (h : 57 ≤ a ∧ a ≤ 91) => by show SC a; omega)), by first | exact gd_ch (k_69.1 94 (by omega)) (gd_ch (k_42.1 94 (by omega)) hGm) | exact gd_ch (k_42.1 94 (by omega)) hGm, _, rfl, hx_42⟩)
      · have h_57f := c_57
        refine sx_aload_n (pc := 60) dX5_carryOut_60 rfl rfl ?_
        refine sx_getr (pc := 61) (ci := 5) (j := 2) (r := 92) dX5_carryOut_61 rfl s_EW rfl (by decide) lf_X5_26 ?_
        refine sx_iload_n (pc := 64) dX5_carryOut_64 rfl rfl ?_
        refine sx_aload_n (pc := 65) dX5_carryOut_65 rfl rfl ?_
        refine sx_getr (pc := 66) (ci := 5) (j := 3) (r := 94) dX5_carryOut_66 rfl s_EW rfl (by decide) lf_X5_33 ?_
        refine sx_callV (pc := 69) (As := [.int dv, .ref (X.2 + 94)]) dX5_carryOut_69 (c_jadd X Ex hE μ5 _) mX1_add lm_X5_193 rfl s_Jo rfl ⟨Nat.le_of_ble_eq_true rfl, Nat.le_of_ble_eq_true rfl⟩ ⟨Nat.le_of_ble_eq_true rfl, Nat.le_of_ble_eq_true rfl⟩ (Nat.le_of_ble_eq_true rfl) hE (fun r_69 sh1 μ7 h_69 => ?_)
        obtain ⟨rfl, rfl, k_69⟩ := h_69
        refine sx_iload_n (pc := 72) dX5_carryOut_72 rfl rfl ?_
        exact sx_iret (pc := 73) dX5_carryOut_73 rfl (bool_n hx_42) (Nat.zero_le _) (Nat.zero_le _) (⟨rfl, (Ch.trans (Ch.trans (Ch.put (Ch.rf) hμ4 (by show SC _; omega) (LB.off hμ4 ⟨by omega, fun _ _ => by omega⟩)) k_42 (fun a (h : 57 ≤ a ∧ a ≤ 91) => by show SC a; omega)) k_69 (fun a (h : a = 92 ∨ a = 93) => by show SC a; omega)), by first | exact gd_ch (k_69.1 94 (by omega)) (gd_ch (k_42.1 94 (by omega)) hGm) | exact gd_ch (k_42.1 94 (by omega)) hGm, _, rfl, hx_42⟩)
set_option maxHeartbeats 1000000 in
set_option maxRecDepth 20000 in
theorem c_doMessage (X : xD) (Ex : State → Prop) (hE : xEs X false shA.length Ex) (μ : xM) {sk sv : Nat → Nat} {fm : Option Nat} (hS : ∀ s, Ex s → ExS X sk sv fm s) (dv : Int32) (d : Nat) (hd : d < 6) (hL : LB μ) : Ct X Ex false yX5_doMessage kX5_doMessage (rmN 5) [.ref (X.2 + 0), .int dv, .ref (X.2 + (2 + 9 * d))] shA μ (fun r sh' μ' => shA = sh' ∧ r = none ∧ Dm d μ μ') := by
  refine Ct.of (L0 := [some (.ref (X.2 + 0)), some (.int dv), some (.ref (X.2 + (2 + 9 * d))), none, none]) (by decide) rfl (fun h => by cases h) (by simp [Value.category]) (Nat.le_of_ble_eq_true rfl) rfl (fun l => ?_)
  refine sx_aload_n (pc := 0) dX5_doMessage_0 rfl rfl ?_
  refine sx_aload_n (pc := 1) dX5_doMessage_1 rfl rfl ?_
  refine sx_getr (pc := 2) (ci := 5) (j := 3) (r := 94) dX5_doMessage_2 rfl s_EW rfl (by decide) lf_X5_33 ?_
  refine sx_geti (pc := 5) (ci := 3) (j := 1) dX5_doMessage_5 rfl s_Me rfl (by decide) lf_X5_150 ?_
  refine sx_puti (pc := 8) (ci := 2) (j := 4) (ty := .int) dX5_doMessage_8 rfl (s_Line _ hd) rfl (by decide) lf_X5_116 rfl (by decide +kernel) rfl rfl (fun μ1 hμ1 => ?_)
  refine sx_aload_n (pc := 11) dX5_doMessage_11 rfl rfl ?_
  refine sx_getr (pc := 12) (ci := 5) (j := 3) (r := 94) dX5_doMessage_12 rfl s_EW rfl (by decide) lf_X5_33 ?_
  refine sx_geti (pc := 15) (ci := 3) (j := 0) dX5_doMessage_15 rfl s_Me rfl (by decide) lf_X5_140 ?_
  refine sx_bipush (pc := 18) (v := 83) dX5_doMessage_18 (by decide) ?_
  refine sx_icmp_ne (pc := 20) (tgt := 28) dX5_doMessage_20 (by decide) (fun c_20 => ?_) (fun c_20 => ?_)
  · have h_20t := c_20
    refine sx_aload_n (pc := 28) dX5_doMessage_28 rfl rfl ?_
    refine sx_getr (pc := 29) (ci := 5) (j := 3) (r := 94) dX5_doMessage_29 rfl s_EW rfl (by decide) lf_X5_33 ?_
    refine sx_callV (pc := 32) (As := []) dX5_doMessage_32 (c_firstBad X Ex hE μ1 hS) mX3_firstBadField lm_X5_160 rfl s_Me rfl ⟨Nat.le_of_ble_eq_true rfl, Nat.le_of_ble_eq_true rfl⟩ ⟨Nat.le_of_ble_eq_true rfl, Nat.le_of_ble_eq_true rfl⟩ (Nat.le_of_ble_eq_true rfl) hE (fun r_32 sh1 μ2 h_32 => ?_)
    obtain ⟨rfl, rfl, x_32, rfl, hx_32⟩ := h_32
    refine sx_istore_n (pc := 35) (L' := [some (.ref (X.2 + 0)), some (.int dv), some (.ref (X.2 + (2 + 9 * d))), some (.int x_32), none]) dX5_doMessage_35 rfl (by decide) rfl ?_
    refine sx_aload_n (pc := 36) dX5_doMessage_36 rfl rfl ?_
    refine sx_geti (pc := 37) (ci := 2) (j := 3) dX5_doMessage_37 rfl (s_Line _ hd) rfl (by decide) lf_X5_119 ?_
    refine sx_if_ne (pc := 40) (tgt := 57) dX5_doMessage_40 (by decide) (fun c_40 => ?_) (fun c_40 => ?_)
    · have h_40t := c_40
      refine sx_iload_n (pc := 57) dX5_doMessage_57 rfl rfl ?_
      refine sx_iconst (pc := 58) (v := (-1)) dX5_doMessage_58 (by decide) ?_
      refine sx_icmp_eq (pc := 59) (tgt := 77) dX5_doMessage_59 (by decide) (fun c_59 => ?_) (fun c_59 => ?_)
      · have h_59t := c_59
        refine sx_aload_n (pc := 77) dX5_doMessage_77 rfl rfl ?_
        refine sx_iload_n (pc := 78) dX5_doMessage_78 rfl rfl ?_
        refine sx_callV (pc := 79) (As := [.int dv]) dX5_doMessage_79 (c_carry X Ex hE μ1 _ (hx_32 h_59t) (((Dm.put Dm.rf hμ1 hd (by decide))).1.2 hL)) mX5_carryOut lm_X5_103 rfl s_EW rfl ⟨Nat.le_of_ble_eq_true rfl, Nat.le_of_ble_eq_true rfl⟩ ⟨Nat.le_of_ble_eq_true rfl, Nat.le_of_ble_eq_true rfl⟩ (Nat.le_of_ble_eq_true rfl) hE (fun r_79 sh1 μ3 h_79 => ?_)
        obtain ⟨rfl, k_79, hG79, x_79, rfl, hx_79⟩ := h_79
        refine sx_istore (pc := 82) (L' := [some (.ref (X.2 + 0)), some (.int dv), some (.ref (X.2 + (2 + 9 * d))), some (.int x_32), some (.int x_79)]) dX5_doMessage_82 (by decide) rfl ?_
        refine sx_aload_n (pc := 84) dX5_doMessage_84 rfl rfl ?_
        refine sx_getr (pc := 85) (ci := 2) (j := 7) (r := 2 + 9 * d + 4) dX5_doMessage_85 rfl (s_Line _ hd) rfl (by decide) lf_X5_143 ?_
        refine sx_aload_n (pc := 88) dX5_doMessage_88 rfl rfl ?_
        refine sx_getr (pc := 89) (ci := 5) (j := 3) (r := 94) dX5_doMessage_89 rfl s_EW rfl (by decide) lf_X5_33 ?_
        refine sx_iload (pc := 92) dX5_doMessage_92 rfl ?_
        refine sx_aload_n (pc := 94) dX5_doMessage_94 rfl rfl ?_
        refine sx_getr (pc := 95) (ci := 5) (j := 1) (r := 56) dX5_doMessage_95 rfl s_EW rfl (by decide) lf_X5_19 ?_
        refine sx_aload_n (pc := 98) dX5_doMessage_98 rfl rfl ?_
        refine sx_getr (pc := 99) (ci := 5) (j := 3) (r := 94) dX5_doMessage_99 rfl s_EW rfl (by decide) lf_X5_33 ?_
        refine sx_callV (pc := 102) (As := [.ref (X.2 + 94)]) dX5_doMessage_102 (c_figure X Ex hE μ3 hG79) mX0_figureFor lm_X5_168 rfl s_Ho rfl ⟨Nat.le_of_ble_eq_true rfl, Nat.le_of_ble_eq_true rfl⟩ ⟨Nat.le_of_ble_eq_true rfl, Nat.le_of_ble_eq_true rfl⟩ (Nat.le_of_ble_eq_true rfl) hE (fun r_102 sh1 μ4 h_102 => ?_)
        obtain ⟨rfl, rfl, x_102, rfl⟩ := h_102
        refine sx_callV (pc := 105) (As := [.ref (X.2 + 94), .int x_79, .int x_102]) dX5_doMessage_105 (c_writeVerdict X Ex hE μ3 _ (s_Lke _ hd) ⟨d, hd, Or.inr rfl⟩ _ _) mX4_writeVerdict lm_X5_172 rfl (s_Lke _ hd).1 rfl ⟨Nat.le_of_ble_eq_true rfl, Nat.le_of_ble_eq_true rfl⟩ ⟨Nat.le_of_ble_eq_true rfl, Nat.le_of_ble_eq_true rfl⟩ (Nat.le_of_ble_eq_true rfl) hE (fun r_105 sh1 μ5 h_105 => ?_)
        obtain ⟨rfl, rfl, k_105⟩ := h_105
        exact sx_vret (pc := 108) dX5_doMessage_108 rfl (Nat.zero_le _) (Nat.zero_le _) (⟨rfl, rfl, (Dm.tr (Dm.tr (Dm.put Dm.rf hμ1 hd (by decide)) k_79 (fun a (h : 57 ≤ a ∧ a ≤ 94) => ⟨by show SD d a; omega, by omega⟩)) k_105 (fun a (h : a = 2 + 9 * d + 4 ∨ a = 2 + 9 * d + 4 + 1) => ⟨by show SD d a; omega, by omega⟩))⟩)
      · have h_59f := c_59
        refine sx_aload_n (pc := 62) dX5_doMessage_62 rfl rfl ?_
        refine sx_getr (pc := 63) (ci := 2) (j := 7) (r := 2 + 9 * d + 4) dX5_doMessage_63 rfl (s_Line _ hd) rfl (by decide) lf_X5_143 ?_
        refine sx_aload_n (pc := 66) dX5_doMessage_66 rfl rfl ?_
        refine sx_getr (pc := 67) (ci := 5) (j := 3) (r := 94) dX5_doMessage_67 rfl s_EW rfl (by decide) lf_X5_33 ?_
        refine sx_iload_n (pc := 70) dX5_doMessage_70 rfl rfl ?_
        refine sx_callV (pc := 71) (As := [.ref (X.2 + 94), .int x_32]) dX5_doMessage_71 (c_writeError X Ex hE μ1 _ (s_Lke _ hd) ⟨d, hd, Or.inr rfl⟩ _) mX4_writeError lm_X5_164 rfl (s_Lke _ hd).1 rfl ⟨Nat.le_of_ble_eq_true rfl, Nat.le_of_ble_eq_true rfl⟩ ⟨Nat.le_of_ble_eq_true rfl, Nat.le_of_ble_eq_true rfl⟩ (Nat.le_of_ble_eq_true rfl) hE (fun r_71 sh1 μ6 h_71 => ?_)
        obtain ⟨rfl, rfl, k_71⟩ := h_71
        refine sx_goto (pc := 74) (tgt := 108) dX5_doMessage_74 (by decide) ?_
        exact sx_vret (pc := 108) dX5_doMessage_108 rfl (Nat.zero_le _) (Nat.zero_le _) (⟨rfl, rfl, (Dm.tr (Dm.put Dm.rf hμ1 hd (by decide)) k_71 (fun a (h : a = 2 + 9 * d + 4 ∨ a = 2 + 9 * d + 4 + 1) => ⟨by show SD d a; omega, by omega⟩))⟩)
    · have h_40f := c_40
      refine sx_aload_n (pc := 43) dX5_doMessage_43 rfl rfl ?_
      refine sx_getr (pc := 44) (ci := 2) (j := 7) (r := 2 + 9 * d + 4) dX5_doMessage_44 rfl (s_Line _ hd) rfl (by decide) lf_X5_143 ?_
      refine sx_aload_n (pc := 47) dX5_doMessage_47 rfl rfl ?_
      refine sx_getr (pc := 48) (ci := 5) (j := 3) (r := 94) dX5_doMessage_48 rfl s_EW rfl (by decide) lf_X5_33 ?_
      refine sx_callV (pc := 51) (As := [.ref (X.2 + 94)]) dX5_doMessage_51 (c_writeNo X Ex hE μ1 _ (s_Lke _ hd) ⟨d, hd, Or.inr rfl⟩) mX4_writeNo lm_X5_146 rfl (s_Lke _ hd).1 rfl ⟨Nat.le_of_ble_eq_true rfl, Nat.le_of_ble_eq_true rfl⟩ ⟨Nat.le_of_ble_eq_true rfl, Nat.le_of_ble_eq_true rfl⟩ (Nat.le_of_ble_eq_true rfl) hE (fun r_51 sh1 μ7 h_51 => ?_)
      obtain ⟨rfl, rfl, k_51⟩ := h_51
      refine sx_goto (pc := 54) (tgt := 108) dX5_doMessage_54 (by decide) ?_
      exact sx_vret (pc := 108) dX5_doMessage_108 rfl (Nat.zero_le _) (Nat.zero_le _) (⟨rfl, rfl, (Dm.tr (Dm.put Dm.rf hμ1 hd (by decide)) k_51 (fun a (h : a = 2 + 9 * d + 4 ∨ a = 2 + 9 * d + 4 + 1) => ⟨by show SD d a; omega, by omega⟩))⟩)
  · have h_20f := c_20
    refine sx_aload_n (pc := 23) dX5_doMessage_23 rfl rfl ?_
    refine sx_iconst (pc := 24) (v := 1) dX5_doMessage_24 (by decide) ?_
    refine sx_puti (pc := 25) (ci := 2) (j := 3) (ty := .boolean) dX5_doMessage_25 rfl (s_Line _ hd) rfl (by decide) lf_X5_119 rfl (by decide +kernel) rfl rfl (fun μ8 hμ8 => ?_)
    refine sx_aload_n (pc := 28) dX5_doMessage_28 rfl rfl ?_
    refine sx_getr (pc := 29) (ci := 5) (j := 3) (r := 94) dX5_doMessage_29 rfl s_EW rfl (by decide) lf_X5_33 ?_
    refine sx_callV (pc := 32) (As := []) dX5_doMessage_32 (c_firstBad X Ex hE μ8 hS) mX3_firstBadField lm_X5_160 rfl s_Me rfl ⟨Nat.le_of_ble_eq_true rfl, Nat.le_of_ble_eq_true rfl⟩ ⟨Nat.le_of_ble_eq_true rfl, Nat.le_of_ble_eq_true rfl⟩ (Nat.le_of_ble_eq_true rfl) hE (fun r_32 sh1 μ9 h_32 => ?_)
    obtain ⟨rfl, rfl, x_32, rfl, hx_32⟩ := h_32
    refine sx_istore_n (pc := 35) (L' := [some (.ref (X.2 + 0)), some (.int dv), some (.ref (X.2 + (2 + 9 * d))), some (.int x_32), none]) dX5_doMessage_35 rfl (by decide) rfl ?_
    refine sx_aload_n (pc := 36) dX5_doMessage_36 rfl rfl ?_
    refine sx_geti (pc := 37) (ci := 2) (j := 3) dX5_doMessage_37 rfl (s_Line _ hd) rfl (by decide) lf_X5_119 ?_
    refine sx_if_ne (pc := 40) (tgt := 57) dX5_doMessage_40 (by decide) (fun c_40 => ?_) (fun c_40 => ?_)
    · have h_40t := c_40
      refine sx_iload_n (pc := 57) dX5_doMessage_57 rfl rfl ?_
      refine sx_iconst (pc := 58) (v := (-1)) dX5_doMessage_58 (by decide) ?_
      refine sx_icmp_eq (pc := 59) (tgt := 77) dX5_doMessage_59 (by decide) (fun c_59 => ?_) (fun c_59 => ?_)
      · have h_59t := c_59
        refine sx_aload_n (pc := 77) dX5_doMessage_77 rfl rfl ?_
        refine sx_iload_n (pc := 78) dX5_doMessage_78 rfl rfl ?_
        refine sx_callV (pc := 79) (As := [.int dv]) dX5_doMessage_79 (c_carry X Ex hE μ8 _ (hx_32 h_59t) (((Dm.put (Dm.put Dm.rf hμ1 hd (by decide)) hμ8 hd (by decide))).1.2 hL)) mX5_carryOut lm_X5_103 rfl s_EW rfl ⟨Nat.le_of_ble_eq_true rfl, Nat.le_of_ble_eq_true rfl⟩ ⟨Nat.le_of_ble_eq_true rfl, Nat.le_of_ble_eq_true rfl⟩ (Nat.le_of_ble_eq_true rfl) hE (fun r_79 sh1 μ10 h_79 => ?_)
        obtain ⟨rfl, k_79, hG79, x_79, rfl, hx_79⟩ := h_79
        refine sx_istore (pc := 82) (L' := [some (.ref (X.2 + 0)), some (.int dv), some (.ref (X.2 + (2 + 9 * d))), some (.int x_32), some (.int x_79)]) dX5_doMessage_82 (by decide) rfl ?_
        refine sx_aload_n (pc := 84) dX5_doMessage_84 rfl rfl ?_
        refine sx_getr (pc := 85) (ci := 2) (j := 7) (r := 2 + 9 * d + 4) dX5_doMessage_85 rfl (s_Line _ hd) rfl (by decide) lf_X5_143 ?_
        refine sx_aload_n (pc := 88) dX5_doMessage_88 rfl rfl ?_
        refine sx_getr (pc := 89) (ci := 5) (j := 3) (r := 94) dX5_doMessage_89 rfl s_EW rfl (by decide) lf_X5_33 ?_
        refine sx_iload (pc := 92) dX5_doMessage_92 rfl ?_
        refine sx_aload_n (pc := 94) dX5_doMessage_94 rfl rfl ?_
        refine sx_getr (pc := 95) (ci := 5) (j := 1) (r := 56) dX5_doMessage_95 rfl s_EW rfl (by decide) lf_X5_19 ?_
        refine sx_aload_n (pc := 98) dX5_doMessage_98 rfl rfl ?_
        refine sx_getr (pc := 99) (ci := 5) (j := 3) (r := 94) dX5_doMessage_99 rfl s_EW rfl (by decide) lf_X5_33 ?_
        refine sx_callV (pc := 102) (As := [.ref (X.2 + 94)]) dX5_doMessage_102 (c_figure X Ex hE μ10 hG79) mX0_figureFor lm_X5_168 rfl s_Ho rfl ⟨Nat.le_of_ble_eq_true rfl, Nat.le_of_ble_eq_true rfl⟩ ⟨Nat.le_of_ble_eq_true rfl, Nat.le_of_ble_eq_true rfl⟩ (Nat.le_of_ble_eq_true rfl) hE (fun r_102 sh1 μ11 h_102 => ?_)
        obtain ⟨rfl, rfl, x_102, rfl⟩ := h_102
        refine sx_callV (pc := 105) (As := [.ref (X.2 + 94), .int x_79, .int x_102]) dX5_doMessage_105 (c_writeVerdict X Ex hE μ10 _ (s_Lke _ hd) ⟨d, hd, Or.inr rfl⟩ _ _) mX4_writeVerdict lm_X5_172 rfl (s_Lke _ hd).1 rfl ⟨Nat.le_of_ble_eq_true rfl, Nat.le_of_ble_eq_true rfl⟩ ⟨Nat.le_of_ble_eq_true rfl, Nat.le_of_ble_eq_true rfl⟩ (Nat.le_of_ble_eq_true rfl) hE (fun r_105 sh1 μ12 h_105 => ?_)
        obtain ⟨rfl, rfl, k_105⟩ := h_105
        exact sx_vret (pc := 108) dX5_doMessage_108 rfl (Nat.zero_le _) (Nat.zero_le _) (⟨rfl, rfl, (Dm.tr (Dm.tr (Dm.put (Dm.put Dm.rf hμ1 hd (by decide)) hμ8 hd (by decide)) k_79 (fun a (h : 57 ≤ a ∧ a ≤ 94) => ⟨by show SD d a; omega, by omega⟩)) k_105 (fun a (h : a = 2 + 9 * d + 4 ∨ a = 2 + 9 * d + 4 + 1) => ⟨by show SD d a; omega, by omega⟩))⟩)
      · have h_59f := c_59
        refine sx_aload_n (pc := 62) dX5_doMessage_62 rfl rfl ?_
        refine sx_getr (pc := 63) (ci := 2) (j := 7) (r := 2 + 9 * d + 4) dX5_doMessage_63 rfl (s_Line _ hd) rfl (by decide) lf_X5_143 ?_
        refine sx_aload_n (pc := 66) dX5_doMessage_66 rfl rfl ?_
        refine sx_getr (pc := 67) (ci := 5) (j := 3) (r := 94) dX5_doMessage_67 rfl s_EW rfl (by decide) lf_X5_33 ?_
        refine sx_iload_n (pc := 70) dX5_doMessage_70 rfl rfl ?_
        refine sx_callV (pc := 71) (As := [.ref (X.2 + 94), .int x_32]) dX5_doMessage_71 (c_writeError X Ex hE μ8 _ (s_Lke _ hd) ⟨d, hd, Or.inr rfl⟩ _) mX4_writeError lm_X5_164 rfl (s_Lke _ hd).1 rfl ⟨Nat.le_of_ble_eq_true rfl, Nat.le_of_ble_eq_true rfl⟩ ⟨Nat.le_of_ble_eq_true rfl, Nat.le_of_ble_eq_true rfl⟩ (Nat.le_of_ble_eq_true rfl) hE (fun r_71 sh1 μ13 h_71 => ?_)
        obtain ⟨rfl, rfl, k_71⟩ := h_71
        refine sx_goto (pc := 74) (tgt := 108) dX5_doMessage_74 (by decide) ?_
        exact sx_vret (pc := 108) dX5_doMessage_108 rfl (Nat.zero_le _) (Nat.zero_le _) (⟨rfl, rfl, (Dm.tr (Dm.put (Dm.put Dm.rf hμ1 hd (by decide)) hμ8 hd (by decide)) k_71 (fun a (h : a = 2 + 9 * d + 4 ∨ a = 2 + 9 * d + 4 + 1) => ⟨by show SD d a; omega, by omega⟩))⟩)
    · have h_40f := c_40
      refine sx_aload_n (pc := 43) dX5_doMessage_43 rfl rfl ?_
      refine sx_getr (pc := 44) (ci := 2) (j := 7) (r := 2 + 9 * d + 4) dX5_doMessage_44 rfl (s_Line _ hd) rfl (by decide) lf_X5_143 ?_
      refine sx_aload_n (pc := 47) dX5_doMessage_47 rfl rfl ?_
      refine sx_getr (pc := 48) (ci := 5) (j := 3) (r := 94) dX5_doMessage_48 rfl s_EW rfl (by decide) lf_X5_33 ?_
      refine sx_callV (pc := 51) (As := [.ref (X.2 + 94)]) dX5_doMessage_51 (c_writeNo X Ex hE μ8 _ (s_Lke _ hd) ⟨d, hd, Or.inr rfl⟩) mX4_writeNo lm_X5_146 rfl (s_Lke _ hd).1 rfl ⟨Nat.le_of_ble_eq_true rfl, Nat.le_of_ble_eq_true rfl⟩ ⟨Nat.le_of_ble_eq_true rfl, Nat.le_of_ble_eq_true rfl⟩ (Nat.le_of_ble_eq_true rfl) hE (fun r_51 sh1 μ14 h_51 => ?_)
      obtain ⟨rfl, rfl, k_51⟩ := h_51
      refine sx_goto (pc := 54) (tgt := 108) dX5_doMessage_54 (by decide) ?_
      exact sx_vret (pc := 108) dX5_doMessage_108 rfl (Nat.zero_le _) (Nat.zero_le _) (⟨rfl, rfl, (Dm.tr (Dm.put (Dm.put Dm.rf hμ1 hd (by decide)) hμ8 hd (by decide)) k_51 (fun a (h : a = 2 + 9 * d + 4 ∨ a = 2 + 9 * d + 4 + 1) => ⟨by show SD d a; omega, by omega⟩))⟩)
set_option maxHeartbeats 1000000 in
set_option maxRecDepth 20000 in
theorem c_endMessage (X : xD) (Ex : State → Prop) (hE : xEs X false shA.length Ex) (μ : xM) {sk sv : Nat → Nat} {fm : Option Nat} (hS : ∀ s, Ex s → ExS X sk sv fm s) (dv : Int32) (d : Nat) (hd : d < 6) (hL : LB μ) : Ct X Ex false yX5_endMessage kX5_endMessage (rmN 6) [.ref (X.2 + 0), .int dv, .ref (X.2 + (2 + 9 * d))] shA μ (fun r sh' μ' => shA = sh' ∧ r = none ∧ E0 d μ μ') := by
  refine Ct.of (L0 := [some (.ref (X.2 + 0)), some (.int dv), some (.ref (X.2 + (2 + 9 * d))), none]) (by decide) rfl (fun h => by cases h) (by simp [Value.category]) (Nat.le_of_ble_eq_true rfl) rfl (fun l => ?_)
  refine sx_aload_n (pc := 0) dX5_endMessage_0 rfl rfl ?_
  refine sx_getr (pc := 1) (ci := 5) (j := 3) (r := 94) dX5_endMessage_1 rfl s_EW rfl (by decide) lf_X5_33 ?_
  refine sx_aload_n (pc := 4) dX5_endMessage_4 rfl rfl ?_
  refine sx_getr (pc := 5) (ci := 2) (j := 0) (r := 2 + 9 * d + 1) dX5_endMessage_5 rfl (s_Line _ hd) rfl (by decide) lf_X5_132 ?_
  refine sx_aload_n (pc := 8) dX5_endMessage_8 rfl rfl ?_
  refine sx_geti (pc := 9) (ci := 2) (j := 1) dX5_endMessage_9 rfl (s_Line _ hd) rfl (by decide) lf_X5_77 ?_
  refine sx_callV (pc := 12) (As := [.ref (X.2 + (2 + 9 * d + 1)), .int (μ (2 + 9 * d) 1)]) dX5_endMessage_12 (c_read X Ex hE μ hS _ (s_Lsg _ hd) _) mX3_read lm_X5_133 rfl s_Me rfl ⟨Nat.le_of_ble_eq_true rfl, Nat.le_of_ble_eq_true rfl⟩ ⟨Nat.le_of_ble_eq_true rfl, Nat.le_of_ble_eq_true rfl⟩ (Nat.le_of_ble_eq_true rfl) hE (fun r_12 sh1 μ1 h_12 => ?_)
  obtain ⟨rfl, k_12, x_12, rfl, hx_12⟩ := h_12
  refine sx_istore_n (pc := 15) (L' := [some (.ref (X.2 + 0)), some (.int dv), some (.ref (X.2 + (2 + 9 * d))), some (.int x_12)]) dX5_endMessage_15 rfl (by decide) rfl ?_
  refine sx_aload_n (pc := 16) dX5_endMessage_16 rfl rfl ?_
  refine sx_iconst (pc := 17) (v := 0) dX5_endMessage_17 (by decide) ?_
  refine sx_puti (pc := 18) (ci := 2) (j := 1) (ty := .int) dX5_endMessage_18 rfl (s_Line _ hd) rfl (by decide) lf_X5_77 rfl (by decide +kernel) rfl rfl (fun μ2 hμ2 => ?_)
  refine sx_iload_n (pc := 21) dX5_endMessage_21 rfl rfl ?_
  refine sx_if_ne (pc := 22) (tgt := 45) dX5_endMessage_22 (by decide) (fun c_22 => ?_) (fun c_22 => ?_)
  · have h_22t := c_22
    refine sx_aload_n (pc := 45) dX5_endMessage_45 rfl rfl ?_
    refine sx_getr (pc := 46) (ci := 5) (j := 3) (r := 94) dX5_endMessage_46 rfl s_EW rfl (by decide) lf_X5_33 ?_
    refine sx_geti (pc := 49) (ci := 3) (j := 0) dX5_endMessage_49 rfl s_Me rfl (by decide) lf_X5_140 ?_
    refine sx_bipush (pc := 52) (v := 81) dX5_endMessage_52 (by decide) ?_
    refine sx_icmp_ne (pc := 54) (tgt := 81) dX5_endMessage_54 (by decide) (fun c_54 => ?_) (fun c_54 => ?_)
    · have h_54t := c_54
      refine sx_aload_n (pc := 81) dX5_endMessage_81 rfl rfl ?_
      refine sx_getr (pc := 82) (ci := 5) (j := 3) (r := 94) dX5_endMessage_82 rfl s_EW rfl (by decide) lf_X5_33 ?_
      refine sx_geti (pc := 85) (ci := 3) (j := 0) dX5_endMessage_85 rfl s_Me rfl (by decide) lf_X5_140 ?_
      refine sx_bipush (pc := 88) (v := 81) dX5_endMessage_88 (by decide) ?_
      refine sx_icmp_eq (pc := 90) (tgt := 113) dX5_endMessage_90 (by decide) (fun c_90 => ?_) (fun c_90 => ?_)
      · have h_90t := c_90
        refine sx_aload_n (pc := 113) dX5_endMessage_113 rfl rfl ?_
        refine sx_getr (pc := 114) (ci := 2) (j := 6) (r := 2 + 9 * d + 2) dX5_endMessage_114 rfl (s_Line _ hd) rfl (by decide) lf_X5_57 ?_
        refine sx_aload_n (pc := 117) dX5_endMessage_117 rfl rfl ?_
        refine sx_getr (pc := 118) (ci := 2) (j := 7) (r := 2 + 9 * d + 4) dX5_endMessage_118 rfl (s_Line _ hd) rfl (by decide) lf_X5_143 ?_
        refine sx_callV (pc := 121) (As := [.ref (X.2 + (2 + 9 * d + 4))]) dX5_endMessage_121 (c_copy X Ex hE μ2 _ _ (s_Lsh _ hd) ⟨d, hd, Or.inl rfl⟩ (s_Lke _ hd) ⟨d, hd, Or.inr rfl⟩ (((E0.mk (Ch.trans Ch.rf k_12 (fun _ h => h)) hμ2 hd)).1.2 hL)) mX4_copy lm_X5_156 rfl (s_Lsh _ hd).1 rfl ⟨Nat.le_of_ble_eq_true rfl, Nat.le_of_ble_eq_true rfl⟩ ⟨Nat.le_of_ble_eq_true rfl, Nat.le_of_ble_eq_true rfl⟩ (Nat.le_of_ble_eq_true rfl) hE (fun r_121 sh1 μ3 h_121 => ?_)
        obtain ⟨rfl, rfl, k_121⟩ := h_121
        exact sx_vret (pc := 124) dX5_endMessage_124 rfl (Nat.zero_le _) (Nat.zero_le _) (⟨rfl, rfl, (E0.tr (E0.mk (Ch.trans Ch.rf k_12 (fun _ h => h)) hμ2 hd) k_121 (fun a (h : a = 2 + 9 * d + 2 ∨ a = 2 + 9 * d + 2 + 1) => ⟨by show SEd d a; omega, by omega⟩))⟩)
      · have h_90f := c_90
        refine sx_aload_n (pc := 93) dX5_endMessage_93 rfl rfl ?_
        refine sx_getr (pc := 94) (ci := 5) (j := 3) (r := 94) dX5_endMessage_94 rfl s_EW rfl (by decide) lf_X5_33 ?_
        refine sx_geti (pc := 97) (ci := 3) (j := 1) dX5_endMessage_97 rfl s_Me rfl (by decide) lf_X5_150 ?_
        refine sx_aload_n (pc := 100) dX5_endMessage_100 rfl rfl ?_
        refine sx_geti (pc := 101) (ci := 2) (j := 4) dX5_endMessage_101 rfl (s_Line _ hd) rfl (by decide) lf_X5_116 ?_
        refine sx_icmp_eq (pc := 104) (tgt := 113) dX5_endMessage_104 (by decide) (fun c_104 => ?_) (fun c_104 => ?_)
        · have h_104t := c_104
          refine sx_aload_n (pc := 113) dX5_endMessage_113 rfl rfl ?_
          refine sx_getr (pc := 114) (ci := 2) (j := 6) (r := 2 + 9 * d + 2) dX5_endMessage_114 rfl (s_Line _ hd) rfl (by decide) lf_X5_57 ?_
          refine sx_aload_n (pc := 117) dX5_endMessage_117 rfl rfl ?_
          refine sx_getr (pc := 118) (ci := 2) (j := 7) (r := 2 + 9 * d + 4) dX5_endMessage_118 rfl (s_Line _ hd) rfl (by decide) lf_X5_143 ?_
          refine sx_callV (pc := 121) (As := [.ref (X.2 + (2 + 9 * d + 4))]) dX5_endMessage_121 (c_copy X Ex hE μ2 _ _ (s_Lsh _ hd) ⟨d, hd, Or.inl rfl⟩ (s_Lke _ hd) ⟨d, hd, Or.inr rfl⟩ (((E0.mk (Ch.trans Ch.rf k_12 (fun _ h => h)) hμ2 hd)).1.2 hL)) mX4_copy lm_X5_156 rfl (s_Lsh _ hd).1 rfl ⟨Nat.le_of_ble_eq_true rfl, Nat.le_of_ble_eq_true rfl⟩ ⟨Nat.le_of_ble_eq_true rfl, Nat.le_of_ble_eq_true rfl⟩ (Nat.le_of_ble_eq_true rfl) hE (fun r_121 sh1 μ4 h_121 => ?_)
          obtain ⟨rfl, rfl, k_121⟩ := h_121
          exact sx_vret (pc := 124) dX5_endMessage_124 rfl (Nat.zero_le _) (Nat.zero_le _) (⟨rfl, rfl, (E0.tr (E0.mk (Ch.trans Ch.rf k_12 (fun _ h => h)) hμ2 hd) k_121 (fun a (h : a = 2 + 9 * d + 2 ∨ a = 2 + 9 * d + 2 + 1) => ⟨by show SEd d a; omega, by omega⟩))⟩)
        · have h_104f := c_104
          refine sx_aload_n (pc := 107) dX5_endMessage_107 rfl rfl ?_
          refine sx_iload_n (pc := 108) dX5_endMessage_108 rfl rfl ?_
          refine sx_aload_n (pc := 109) dX5_endMessage_109 rfl rfl ?_
          refine sx_callV (pc := 110) (As := [.int dv, .ref (X.2 + (2 + 9 * d))]) dX5_endMessage_110 (c_doMessage X Ex hE μ2 hS _ d hd (((E0.mk (Ch.trans Ch.rf k_12 (fun _ h => h)) hμ2 hd)).1.2 hL)) mX5_doMessage lm_X5_153 rfl s_EW rfl ⟨Nat.le_of_ble_eq_true rfl, Nat.le_of_ble_eq_true rfl⟩ ⟨Nat.le_of_ble_eq_true rfl, Nat.le_of_ble_eq_true rfl⟩ (Nat.le_of_ble_eq_true rfl) hE (fun r_110 sh1 μ5 h_110 => ?_)
          obtain ⟨rfl, rfl, k_110⟩ := h_110
          refine sx_aload_n (pc := 113) dX5_endMessage_113 rfl rfl ?_
          refine sx_getr (pc := 114) (ci := 2) (j := 6) (r := 2 + 9 * d + 2) dX5_endMessage_114 rfl (s_Line _ hd) rfl (by decide) lf_X5_57 ?_
          refine sx_aload_n (pc := 117) dX5_endMessage_117 rfl rfl ?_
          refine sx_getr (pc := 118) (ci := 2) (j := 7) (r := 2 + 9 * d + 4) dX5_endMessage_118 rfl (s_Line _ hd) rfl (by decide) lf_X5_143 ?_
          refine sx_callV (pc := 121) (As := [.ref (X.2 + (2 + 9 * d + 4))]) dX5_endMessage_121 (c_copy X Ex hE μ5 _ _ (s_Lsh _ hd) ⟨d, hd, Or.inl rfl⟩ (s_Lke _ hd) ⟨d, hd, Or.inr rfl⟩ (((E0.dm (E0.mk (Ch.trans Ch.rf k_12 (fun _ h => h)) hμ2 hd) k_110)).1.2 hL)) mX4_copy lm_X5_156 rfl (s_Lsh _ hd).1 rfl ⟨Nat.le_of_ble_eq_true rfl, Nat.le_of_ble_eq_true rfl⟩ ⟨Nat.le_of_ble_eq_true rfl, Nat.le_of_ble_eq_true rfl⟩ (Nat.le_of_ble_eq_true rfl) hE (fun r_121 sh1 μ6 h_121 => ?_)
          obtain ⟨rfl, rfl, k_121⟩ := h_121
          exact sx_vret (pc := 124) dX5_endMessage_124 rfl (Nat.zero_le _) (Nat.zero_le _) (⟨rfl, rfl, (E0.tr (E0.dm (E0.mk (Ch.trans Ch.rf k_12 (fun _ h => h)) hμ2 hd) k_110) k_121 (fun a (h : a = 2 + 9 * d + 2 ∨ a = 2 + 9 * d + 2 + 1) => ⟨by show SEd d a; omega, by omega⟩))⟩)
    · have h_54f := c_54
      refine sx_aload_n (pc := 57) dX5_endMessage_57 rfl rfl ?_
      refine sx_getr (pc := 58) (ci := 2) (j := 7) (r := 2 + 9 * d + 4) dX5_endMessage_58 rfl (s_Line _ hd) rfl (by decide) lf_X5_143 ?_
      refine sx_geti (pc := 61) (ci := 4) (j := 1) dX5_endMessage_61 rfl (s_Lke _ hd).1 rfl (by decide) lf_X5_61 ?_
      refine sx_if_ne (pc := 64) (tgt := 81) dX5_endMessage_64 (by decide) (fun c_64 => ?_) (fun c_64 => ?_)
      · have h_64t := c_64
        refine sx_aload_n (pc := 81) dX5_endMessage_81 rfl rfl ?_
        refine sx_getr (pc := 82) (ci := 5) (j := 3) (r := 94) dX5_endMessage_82 rfl s_EW rfl (by decide) lf_X5_33 ?_
        refine sx_geti (pc := 85) (ci := 3) (j := 0) dX5_endMessage_85 rfl s_Me rfl (by decide) lf_X5_140 ?_
        refine sx_bipush (pc := 88) (v := 81) dX5_endMessage_88 (by decide) ?_
        refine sx_icmp_eq (pc := 90) (tgt := 113) dX5_endMessage_90 (by decide) (fun c_90 => ?_) (fun c_90 => ?_)
        · have h_90t := c_90
          refine sx_aload_n (pc := 113) dX5_endMessage_113 rfl rfl ?_
          refine sx_getr (pc := 114) (ci := 2) (j := 6) (r := 2 + 9 * d + 2) dX5_endMessage_114 rfl (s_Line _ hd) rfl (by decide) lf_X5_57 ?_
          refine sx_aload_n (pc := 117) dX5_endMessage_117 rfl rfl ?_
          refine sx_getr (pc := 118) (ci := 2) (j := 7) (r := 2 + 9 * d + 4) dX5_endMessage_118 rfl (s_Line _ hd) rfl (by decide) lf_X5_143 ?_
          refine sx_callV (pc := 121) (As := [.ref (X.2 + (2 + 9 * d + 4))]) dX5_endMessage_121 (c_copy X Ex hE μ2 _ _ (s_Lsh _ hd) ⟨d, hd, Or.inl rfl⟩ (s_Lke _ hd) ⟨d, hd, Or.inr rfl⟩ (((E0.mk (Ch.trans Ch.rf k_12 (fun _ h => h)) hμ2 hd)).1.2 hL)) mX4_copy lm_X5_156 rfl (s_Lsh _ hd).1 rfl ⟨Nat.le_of_ble_eq_true rfl, Nat.le_of_ble_eq_true rfl⟩ ⟨Nat.le_of_ble_eq_true rfl, Nat.le_of_ble_eq_true rfl⟩ (Nat.le_of_ble_eq_true rfl) hE (fun r_121 sh1 μ7 h_121 => ?_)
          obtain ⟨rfl, rfl, k_121⟩ := h_121
          exact sx_vret (pc := 124) dX5_endMessage_124 rfl (Nat.zero_le _) (Nat.zero_le _) (⟨rfl, rfl, (E0.tr (E0.mk (Ch.trans Ch.rf k_12 (fun _ h => h)) hμ2 hd) k_121 (fun a (h : a = 2 + 9 * d + 2 ∨ a = 2 + 9 * d + 2 + 1) => ⟨by show SEd d a; omega, by omega⟩))⟩)
        · have h_90f := c_90
          refine sx_aload_n (pc := 93) dX5_endMessage_93 rfl rfl ?_
          refine sx_getr (pc := 94) (ci := 5) (j := 3) (r := 94) dX5_endMessage_94 rfl s_EW rfl (by decide) lf_X5_33 ?_
          refine sx_geti (pc := 97) (ci := 3) (j := 1) dX5_endMessage_97 rfl s_Me rfl (by decide) lf_X5_150 ?_
          refine sx_aload_n (pc := 100) dX5_endMessage_100 rfl rfl ?_
          refine sx_geti (pc := 101) (ci := 2) (j := 4) dX5_endMessage_101 rfl (s_Line _ hd) rfl (by decide) lf_X5_116 ?_
          refine sx_icmp_eq (pc := 104) (tgt := 113) dX5_endMessage_104 (by decide) (fun c_104 => ?_) (fun c_104 => ?_)
          · have h_104t := c_104
            refine sx_aload_n (pc := 113) dX5_endMessage_113 rfl rfl ?_
            refine sx_getr (pc := 114) (ci := 2) (j := 6) (r := 2 + 9 * d + 2) dX5_endMessage_114 rfl (s_Line _ hd) rfl (by decide) lf_X5_57 ?_
            refine sx_aload_n (pc := 117) dX5_endMessage_117 rfl rfl ?_
            refine sx_getr (pc := 118) (ci := 2) (j := 7) (r := 2 + 9 * d + 4) dX5_endMessage_118 rfl (s_Line _ hd) rfl (by decide) lf_X5_143 ?_
            refine sx_callV (pc := 121) (As := [.ref (X.2 + (2 + 9 * d + 4))]) dX5_endMessage_121 (c_copy X Ex hE μ2 _ _ (s_Lsh _ hd) ⟨d, hd, Or.inl rfl⟩ (s_Lke _ hd) ⟨d, hd, Or.inr rfl⟩ (((E0.mk (Ch.trans Ch.rf k_12 (fun _ h => h)) hμ2 hd)).1.2 hL)) mX4_copy lm_X5_156 rfl (s_Lsh _ hd).1 rfl ⟨Nat.le_of_ble_eq_true rfl, Nat.le_of_ble_eq_true rfl⟩ ⟨Nat.le_of_ble_eq_true rfl, Nat.le_of_ble_eq_true rfl⟩ (Nat.le_of_ble_eq_true rfl) hE (fun r_121 sh1 μ8 h_121 => ?_)
            obtain ⟨rfl, rfl, k_121⟩ := h_121
            exact sx_vret (pc := 124) dX5_endMessage_124 rfl (Nat.zero_le _) (Nat.zero_le _) (⟨rfl, rfl, (E0.tr (E0.mk (Ch.trans Ch.rf k_12 (fun _ h => h)) hμ2 hd) k_121 (fun a (h : a = 2 + 9 * d + 2 ∨ a = 2 + 9 * d + 2 + 1) => ⟨by show SEd d a; omega, by omega⟩))⟩)
          · have h_104f := c_104
            refine sx_aload_n (pc := 107) dX5_endMessage_107 rfl rfl ?_
            refine sx_iload_n (pc := 108) dX5_endMessage_108 rfl rfl ?_
            refine sx_aload_n (pc := 109) dX5_endMessage_109 rfl rfl ?_
            refine sx_callV (pc := 110) (As := [.int dv, .ref (X.2 + (2 + 9 * d))]) dX5_endMessage_110 (c_doMessage X Ex hE μ2 hS _ d hd (((E0.mk (Ch.trans Ch.rf k_12 (fun _ h => h)) hμ2 hd)).1.2 hL)) mX5_doMessage lm_X5_153 rfl s_EW rfl ⟨Nat.le_of_ble_eq_true rfl, Nat.le_of_ble_eq_true rfl⟩ ⟨Nat.le_of_ble_eq_true rfl, Nat.le_of_ble_eq_true rfl⟩ (Nat.le_of_ble_eq_true rfl) hE (fun r_110 sh1 μ9 h_110 => ?_)
            obtain ⟨rfl, rfl, k_110⟩ := h_110
            refine sx_aload_n (pc := 113) dX5_endMessage_113 rfl rfl ?_
            refine sx_getr (pc := 114) (ci := 2) (j := 6) (r := 2 + 9 * d + 2) dX5_endMessage_114 rfl (s_Line _ hd) rfl (by decide) lf_X5_57 ?_
            refine sx_aload_n (pc := 117) dX5_endMessage_117 rfl rfl ?_
            refine sx_getr (pc := 118) (ci := 2) (j := 7) (r := 2 + 9 * d + 4) dX5_endMessage_118 rfl (s_Line _ hd) rfl (by decide) lf_X5_143 ?_
            refine sx_callV (pc := 121) (As := [.ref (X.2 + (2 + 9 * d + 4))]) dX5_endMessage_121 (c_copy X Ex hE μ9 _ _ (s_Lsh _ hd) ⟨d, hd, Or.inl rfl⟩ (s_Lke _ hd) ⟨d, hd, Or.inr rfl⟩ (((E0.dm (E0.mk (Ch.trans Ch.rf k_12 (fun _ h => h)) hμ2 hd) k_110)).1.2 hL)) mX4_copy lm_X5_156 rfl (s_Lsh _ hd).1 rfl ⟨Nat.le_of_ble_eq_true rfl, Nat.le_of_ble_eq_true rfl⟩ ⟨Nat.le_of_ble_eq_true rfl, Nat.le_of_ble_eq_true rfl⟩ (Nat.le_of_ble_eq_true rfl) hE (fun r_121 sh1 μ10 h_121 => ?_)
            obtain ⟨rfl, rfl, k_121⟩ := h_121
            exact sx_vret (pc := 124) dX5_endMessage_124 rfl (Nat.zero_le _) (Nat.zero_le _) (⟨rfl, rfl, (E0.tr (E0.dm (E0.mk (Ch.trans Ch.rf k_12 (fun _ h => h)) hμ2 hd) k_110) k_121 (fun a (h : a = 2 + 9 * d + 2 ∨ a = 2 + 9 * d + 2 + 1) => ⟨by show SEd d a; omega, by omega⟩))⟩)
      · have h_64f := c_64
        refine sx_aload_n (pc := 67) dX5_endMessage_67 rfl rfl ?_
        refine sx_getr (pc := 68) (ci := 2) (j := 6) (r := 2 + 9 * d + 2) dX5_endMessage_68 rfl (s_Line _ hd) rfl (by decide) lf_X5_57 ?_
        refine sx_aload_n (pc := 71) dX5_endMessage_71 rfl rfl ?_
        refine sx_getr (pc := 72) (ci := 5) (j := 3) (r := 94) dX5_endMessage_72 rfl s_EW rfl (by decide) lf_X5_33 ?_
        refine sx_callV (pc := 75) (As := [.ref (X.2 + 94)]) dX5_endMessage_75 (c_writeNo X Ex hE μ2 _ (s_Lsh _ hd) ⟨d, hd, Or.inl rfl⟩) mX4_writeNo lm_X5_146 rfl (s_Lsh _ hd).1 rfl ⟨Nat.le_of_ble_eq_true rfl, Nat.le_of_ble_eq_true rfl⟩ ⟨Nat.le_of_ble_eq_true rfl, Nat.le_of_ble_eq_true rfl⟩ (Nat.le_of_ble_eq_true rfl) hE (fun r_75 sh1 μ11 h_75 => ?_)
        obtain ⟨rfl, rfl, k_75⟩ := h_75
        refine sx_goto (pc := 78) (tgt := 124) dX5_endMessage_78 (by decide) ?_
        exact sx_vret (pc := 124) dX5_endMessage_124 rfl (Nat.zero_le _) (Nat.zero_le _) (⟨rfl, rfl, (E0.tr (E0.mk (Ch.trans Ch.rf k_12 (fun _ h => h)) hμ2 hd) k_75 (fun a (h : a = 2 + 9 * d + 2 ∨ a = 2 + 9 * d + 2 + 1) => ⟨by show SEd d a; omega, by omega⟩))⟩)
  · have h_22f := c_22
    refine sx_aload_n (pc := 25) dX5_endMessage_25 rfl rfl ?_
    refine sx_dup (pc := 26) dX5_endMessage_26 rfl ?_
    refine sx_geti (pc := 27) (ci := 2) (j := 5) dX5_endMessage_27 rfl (s_Line _ hd) rfl (by decide) lf_X5_122 ?_
    refine sx_iconst (pc := 30) (v := 1) dX5_endMessage_30 (by decide) ?_
    refine sx_iadd (pc := 31) dX5_endMessage_31 ?_
    refine sx_puti (pc := 32) (ci := 2) (j := 5) (ty := .int) dX5_endMessage_32 rfl (s_Line _ hd) rfl (by decide) lf_X5_122 rfl (by decide +kernel) rfl rfl (fun μ12 hμ12 => ?_)
    refine sx_aload_n (pc := 35) dX5_endMessage_35 rfl rfl ?_
    refine sx_getr (pc := 36) (ci := 2) (j := 6) (r := 2 + 9 * d + 2) dX5_endMessage_36 rfl (s_Line _ hd) rfl (by decide) lf_X5_57 ?_
    refine sx_callV (pc := 39) (As := []) dX5_endMessage_39 (c_writeWrong X Ex hE μ12 _ (s_Lsh _ hd) ⟨d, hd, Or.inl rfl⟩) mX4_writeWrong lm_X5_137 rfl (s_Lsh _ hd).1 rfl ⟨Nat.le_of_ble_eq_true rfl, Nat.le_of_ble_eq_true rfl⟩ ⟨Nat.le_of_ble_eq_true rfl, Nat.le_of_ble_eq_true rfl⟩ (Nat.le_of_ble_eq_true rfl) hE (fun r_39 sh1 μ13 h_39 => ?_)
    obtain ⟨rfl, rfl, k_39⟩ := h_39
    refine sx_goto (pc := 42) (tgt := 124) dX5_endMessage_42 (by decide) ?_
    exact sx_vret (pc := 124) dX5_endMessage_124 rfl (Nat.zero_le _) (Nat.zero_le _) (⟨rfl, rfl, (E0.tr (E0.put (E0.mk (Ch.trans Ch.rf k_12 (fun _ h => h)) hμ2 hd) hμ12 hd (by decide)) k_39 (fun a (h : a = 2 + 9 * d + 2 ∨ a = 2 + 9 * d + 2 + 1) => ⟨by show SEd d a; omega, by omega⟩))⟩)
