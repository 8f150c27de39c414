/-! the reference reads a message -/
def F23 (μ μ' : xM) : Prop := (∀ c, c ≠ 95 → μ' c = μ c) ∧ ∀ j, j ≠ 23 → μ' 95 j = μ 95 j
theorem F23.rf {μ : xM} : F23 μ μ := ⟨fun _ _ => rfl, fun _ _ => rfl⟩
theorem F23.put {μ μ1 μ2 : xM} {v : Int32} (h : F23 μ μ1) (e : μ2 = xup μ1 95 23 v) : F23 μ μ2 := by
  refine ⟨fun c hc => ?_, fun j hj => ?_⟩
  · rw [← h.1 c hc, e]
    funext b
    rw [xup_at, if_neg (fun q => hc q.1)]
  · rw [e, xup_at, if_neg (fun q => hj q.2)]
    exact h.2 j hj
def Rd (μ μ' : xM) : Prop := (∀ c, c ≠ 95 → μ' c = μ c) ∧ ∀ j, j < 23 ∨ 28 < j → μ' 95 j = μ 95 j
theorem Rd.rf {μ : xM} : Rd μ μ := ⟨fun _ _ => rfl, fun _ _ => rfl⟩
theorem Rd.put {μ μ1 μ2 : xM} {j : Nat} {v : Int32} (h : Rd μ μ1) (e : μ2 = xup μ1 95 j v) (hj : 23 ≤ j ∧ j ≤ 28) : Rd μ μ2 := by
  refine ⟨fun c hc => ?_, fun i hi => ?_⟩
  · rw [← h.1 c hc, e]
    funext b
    rw [xup_at, if_neg (fun q => hc q.1)]
  · rw [e, xup_at, if_neg (fun q => by omega)]
    exact h.2 i hi
theorem Rd.f23 {μ μ1 μ2 : xM} (h : Rd μ μ1) (k : F23 μ1 μ2) : Rd μ μ2 := ⟨fun c hc => (k.1 c hc).trans (h.1 c hc), fun j hj => (k.2 j (by omega)).trans (h.2 j hj)⟩
set_option maxHeartbeats 1000000 in
set_option maxRecDepth 20000 in
theorem l_field_end {X : xD} {Ex : State → Prop} (hE : xEs X false shA.length Ex) {l : Launch} {dev : Int32} (hb : 0 ≤ dev ∧ dev < 6) {a0 z : Nat} (ha0 : a0 < 900) (hz2 : z ≤ 60) {lt : Int32} {μ0 : xM} {f : Nat → Int32} (hf0 : ∀ j, j < 60 → μ0 97 (60 * dev.toNatClampNeg + j) &&& 255 = f j) (hlt : a0 < z ∧ f a0 = lt) {a1 m : Nat} (h1 : a1 = a0 + 1 + m) (hm : m ≤ 5) {μ : xM} (ha : μ 95 23 = nI a1) (hz : μ 96 dev.toNatClampNeg = nI z) (hC : F23 μ0 μ) (v : Int32) (hdl : dl f z 5 (a0 + 1) 0 = (a1, v)) : sx l (rmN 1) X Ex false kX6_field shA.length (xZ X false shA.length (fun r sh' μ' => shA = sh' ∧ (∃ a', a0 ≤ a' ∧ a' ≤ a0 + 7 ∧ μ' 95 23 = nI a') ∧ F23 μ0 μ' ∧ ((r = some (.int (-1)) ∧ fl f z a0 lt = none) ∨ ∃ b v, fl f z a0 lt = some (b, v) ∧ r = some (.int v) ∧ μ' 95 23 = nI b)) 0 0) 77 [some (.ref (X.2 + 95)), some (.int dev), some (.int lt), some (.int v), some (.int (nI m))] [] shA μ 0 0 := by
  refine sx_iload (pc := 77) dX6_field_77 rfl ?_
  refine sx_if_eq (pc := 79) (tgt := 92) dX6_field_79 (by decide) (fun c_79 => ?_) (fun c_79 => ?_)
  · have h_79t := c_79
    refine sx_iconst (pc := 92) (v := (-1)) dX6_field_92 (by decide) ?_
    exact sx_iret (pc := 93) dX6_field_93 rfl rfl (Nat.zero_le _) (Nat.zero_le _) (⟨rfl, ⟨a1, by omega, by omega, ha⟩, hC, Or.inl ⟨rfl, fl_none hdl (fun q => by first | exact q.2.2.1 (by have := (nI_eq (b := 0) (by omega) (by decide)).mp h_79t; omega) | exact h_89f (by rw [lk_p q.2.2.2.1]; exact q.2.2.2.2))⟩⟩)
  · have h_79f := c_79
    refine sx_aload_n (pc := 82) dX6_field_82 rfl rfl ?_
    refine sx_iload_n (pc := 83) dX6_field_83 rfl rfl ?_
    refine sx_callV (pc := 84) (As := [.int dev]) dX6_field_84 (c_look X Ex hE μ _ hb a1 z ha (by omega) hz hz2 (f := f) (fun j hj => by rw [(hC).1 97 (by decide)]; exact hf0 j hj)) mX6_look lm_X6_83 rfl s_Mo rfl ⟨Nat.le_of_ble_eq_true rfl, Nat.le_of_ble_eq_true rfl⟩ ⟨Nat.le_of_ble_eq_true rfl, Nat.le_of_ble_eq_true rfl⟩ (Nat.le_of_ble_eq_true rfl) hE (fun r_84 sh1 μl1 h_84 => ?_)
    obtain ⟨rfl, rfl, rfl⟩ := h_84
    refine sx_bipush (pc := 87) (v := 124) dX6_field_87 (by decide) ?_
    refine sx_icmp_eq (pc := 89) (tgt := 94) dX6_field_89 (by decide) (fun c_89 => ?_) (fun c_89 => ?_)
    · have h_89t := c_89
      refine sx_aload_n (pc := 94) dX6_field_94 rfl rfl ?_
      refine sx_dup (pc := 95) dX6_field_95 rfl ?_
      refine sx_geti (pc := 96) (ci := 6) (j := 23) dX6_field_96 rfl s_Mo rfl (by decide) lf_X6_80 ?_
      rw [ha]
      refine sx_iconst (pc := 99) (v := 1) dX6_field_99 (by decide) ?_
      refine sx_iadd (pc := 100) dX6_field_100 ?_
      rw [nI_1]
      refine sx_puti (pc := 101) (ci := 6) (j := 23) (ty := .int) dX6_field_101 rfl s_Mo rfl (by decide) lf_X6_80 rfl (by decide +kernel) rfl rfl (fun μ2 hμ2 => ?_)
      have hz_μ2 : μ2 96 dev.toNatClampNeg = nI z := by rw [hμ2, xup_at, if_neg (by omega)]; exact hz
      have ha_μ2 : μ2 95 23 = nI (a1 + 1) := by rw [hμ2, xup_at, if_pos ⟨rfl, rfl⟩]
      refine sx_iload_n (pc := 104) dX6_field_104 rfl rfl ?_
      exact sx_iret (pc := 105) dX6_field_105 rfl rfl (Nat.zero_le _) (Nat.zero_le _) (⟨rfl, ⟨a1 + 1, by omega, by omega, ha_μ2⟩, (F23.put hC hμ2), Or.inr ⟨a1 + 1, v, fl_some hdl ⟨hlt.1, hlt.2, fun q => h_79f (by rw [show m = 0 by omega]; rfl), (lk_e h_89t (by decide)).1, (lk_e h_89t (by decide)).2⟩, rfl, ha_μ2⟩⟩)
    · have h_89f := c_89
      refine sx_iconst (pc := 92) (v := (-1)) dX6_field_92 (by decide) ?_
      exact sx_iret (pc := 93) dX6_field_93 rfl rfl (Nat.zero_le _) (Nat.zero_le _) (⟨rfl, ⟨a1, by omega, by omega, ha⟩, hC, Or.inl ⟨rfl, fl_none hdl (fun q => by first | exact q.2.2.1 (by have := (nI_eq (b := 0) (by omega) (by decide)).mp h_79t; omega) | exact h_89f (by rw [lk_p q.2.2.2.1]; exact q.2.2.2.2))⟩⟩)
set_option maxHeartbeats 1000000 in
set_option maxRecDepth 20000 in
theorem l_field {X : xD} {Ex : State → Prop} (hE : xEs X false shA.length Ex) {l : Launch} {dev : Int32} (hb : 0 ≤ dev ∧ dev < 6) {a0 z : Nat} (ha0 : a0 < 900) (hz2 : z ≤ 60) {lt : Int32} {μ0 : xM} {f : Nat → Int32} (hf0 : ∀ j, j < 60 → μ0 97 (60 * dev.toNatClampNeg + j) &&& 255 = f j) (hlt : a0 < z ∧ f a0 = lt) : ∀ (t m a1 : Nat) (v : Int32) (μ : xM), 5 - m ≤ t → m ≤ 5 → a1 = a0 + 1 + m → μ 95 23 = nI a1 → μ 96 dev.toNatClampNeg = nI z → F23 μ0 μ → dl f z (5 - m) a1 v = dl f z 5 (a0 + 1) 0 → sx l (rmN 1) X Ex false kX6_field shA.length (xZ X false shA.length (fun r sh' μ' => shA = sh' ∧ (∃ a', a0 ≤ a' ∧ a' ≤ a0 + 7 ∧ μ' 95 23 = nI a') ∧ F23 μ0 μ' ∧ ((r = some (.int (-1)) ∧ fl f z a0 lt = none) ∨ ∃ b v, fl f z a0 lt = some (b, v) ∧ r = some (.int v) ∧ μ' 95 23 = nI b)) 0 0) 26 [some (.ref (X.2 + 95)), some (.int dev), some (.int lt), some (.int v), some (.int (nI m))] [] shA μ 0 0 := by
  intro t
  induction t with
  | zero =>
    intro m a1 v μ ht hm h1 ha hz hC hdl
    refine sx_aload_n (pc := 26) dX6_field_26 rfl rfl ?_
    refine sx_iload_n (pc := 27) dX6_field_27 rfl rfl ?_
    refine sx_callV (pc := 28) (As := [.int dev]) dX6_field_28 (c_look X Ex hE μ _ hb a1 z ha (by omega) hz hz2 (f := f) (fun j hj => by rw [(hC).1 97 (by decide)]; exact hf0 j hj)) mX6_look lm_X6_83 rfl s_Mo rfl ⟨Nat.le_of_ble_eq_true rfl, Nat.le_of_ble_eq_true rfl⟩ ⟨Nat.le_of_ble_eq_true rfl, Nat.le_of_ble_eq_true rfl⟩ (Nat.le_of_ble_eq_true rfl) hE (fun r_28 sh1 μl1 h_28 => ?_)
    obtain ⟨rfl, rfl, rfl⟩ := h_28
    refine sx_bipush (pc := 31) (v := 48) dX6_field_31 (by decide) ?_
    refine sx_bipush (pc := 33) (v := 57) dX6_field_33 (by decide) ?_
    refine sx_callS (pc := 35) (As := [.int (lk f z a1), .int 48, .int 57]) dX6_field_35 (c_in X Ex false shA μ _ _ _) mX6_in lm_X6_76 rfl ⟨Nat.le_of_ble_eq_true rfl, Nat.le_of_ble_eq_true rfl⟩ ⟨Nat.le_of_ble_eq_true rfl, Nat.le_of_ble_eq_true rfl⟩ (Nat.le_of_ble_eq_true rfl) hE (fun r_35 sh1 μ2 h_35 => ?_)
    obtain ⟨rfl, rfl, x_35, rfl, hx_35⟩ := h_35
    refine sx_if_eq (pc := 38) (tgt := 77) dX6_field_38 (by decide) (fun c_38 => ?_) (fun c_38 => ?_)
    · have h_38t := c_38
      exact l_field_end hE hb ha0 hz2 hf0 hlt h1 hm ha hz hC _ (by rw [← hdl]; exact dl_end (by omega))
    · have h_38f := c_38
      refine sx_iload (pc := 41) dX6_field_41 rfl ?_
      refine sx_iconst (pc := 43) (v := 5) dX6_field_43 (by decide) ?_
      refine sx_icmp_ge (pc := 44) (tgt := 77) dX6_field_44 (by decide) (fun c_44 => ?_) (fun c_44 => absurd (nI_le (a := 5) (b := m) (by omega) (by omega)) c_44)
      exact l_field_end hE hb ha0 hz2 hf0 hlt h1 hm ha hz hC _ (by rw [← hdl]; exact dl_end (by omega))
  | succ t ih =>
    intro m a1 v μ ht hm h1 ha hz hC hdl
    refine sx_aload_n (pc := 26) dX6_field_26 rfl rfl ?_
    refine sx_iload_n (pc := 27) dX6_field_27 rfl rfl ?_
    refine sx_callV (pc := 28) (As := [.int dev]) dX6_field_28 (c_look X Ex hE μ _ hb a1 z ha (by omega) hz hz2 (f := f) (fun j hj => by rw [(hC).1 97 (by decide)]; exact hf0 j hj)) mX6_look lm_X6_83 rfl s_Mo rfl ⟨Nat.le_of_ble_eq_true rfl, Nat.le_of_ble_eq_true rfl⟩ ⟨Nat.le_of_ble_eq_true rfl, Nat.le_of_ble_eq_true rfl⟩ (Nat.le_of_ble_eq_true rfl) hE (fun r_28 sh1 μl1 h_28 => ?_)
    obtain ⟨rfl, rfl, rfl⟩ := h_28
    refine sx_bipush (pc := 31) (v := 48) dX6_field_31 (by decide) ?_
    refine sx_bipush (pc := 33) (v := 57) dX6_field_33 (by decide) ?_
    refine sx_callS (pc := 35) (As := [.int (lk f z a1), .int 48, .int 57]) dX6_field_35 (c_in X Ex false shA μ _ _ _) mX6_in lm_X6_76 rfl ⟨Nat.le_of_ble_eq_true rfl, Nat.le_of_ble_eq_true rfl⟩ ⟨Nat.le_of_ble_eq_true rfl, Nat.le_of_ble_eq_true rfl⟩ (Nat.le_of_ble_eq_true rfl) hE (fun r_35 sh1 μ2 h_35 => ?_)
    obtain ⟨rfl, rfl, x_35, rfl, hx_35⟩ := h_35
    refine sx_if_eq (pc := 38) (tgt := 77) dX6_field_38 (by decide) (fun c_38 => ?_) (fun c_38 => ?_)
    · have h_38t := c_38
      exact l_field_end hE hb ha0 hz2 hf0 hlt h1 hm ha hz hC _ (by rw [← hdl]; exact dl_no (fun q => dq_f hx_35 h_38t (by rw [lk_p q.1]; exact q.2)))
    · have h_38f := c_38
      have hdg := lk_d (dq_t hx_35 h_38f)
      refine sx_iload (pc := 41) dX6_field_41 rfl ?_
      refine sx_iconst (pc := 43) (v := 5) dX6_field_43 (by decide) ?_
      refine sx_icmp_ge (pc := 44) (tgt := 77) dX6_field_44 (by decide) (fun c_44 => ?_) (fun c_44 => ?_)
      · have h_44t := c_44
        have h5 : 5 ≤ m := Nat.le_of_not_lt fun q => absurd (nI_lt (b := 5) q (by decide)) (Int32.not_lt.mpr h_44t)
        exact l_field_end hE hb ha0 hz2 hf0 hlt h1 hm ha hz hC _ (by rw [← hdl]; exact dl_end (by omega))
      · have h_44f := c_44
        have hm5 : m < 5 := Nat.lt_of_not_le fun q => h_44f (nI_le (a := 5) q (by omega))
        refine sx_bipush (pc := 47) (v := 10) dX6_field_47 (by decide) ?_
        refine sx_iload_n (pc := 49) dX6_field_49 rfl rfl ?_
        refine sx_imul (pc := 50) dX6_field_50 ?_
        refine sx_aload_n (pc := 51) dX6_field_51 rfl rfl ?_
        refine sx_iload_n (pc := 52) dX6_field_52 rfl rfl ?_
        refine sx_callV (pc := 53) (As := [.int dev]) dX6_field_53 (c_look X Ex hE μ _ hb a1 z ha (by omega) hz hz2 (f := f) (fun j hj => by rw [(hC).1 97 (by decide)]; exact hf0 j hj)) mX6_look lm_X6_83 rfl s_Mo rfl ⟨Nat.le_of_ble_eq_true rfl, Nat.le_of_ble_eq_true rfl⟩ ⟨Nat.le_of_ble_eq_true rfl, Nat.le_of_ble_eq_true rfl⟩ (Nat.le_of_ble_eq_true rfl) hE (fun r_53 sh1 μl3 h_53 => ?_)
        obtain ⟨rfl, rfl, rfl⟩ := h_53
        refine sx_iadd (pc := 56) dX6_field_56 ?_
        refine sx_bipush (pc := 57) (v := 48) dX6_field_57 (by decide) ?_
        refine sx_isub (pc := 59) dX6_field_59 ?_
        refine sx_istore_n (pc := 60) (L' := [some (.ref (X.2 + 95)), some (.int dev), some (.int lt), some (.int (((10 * v) + (lk f z a1)) - 48)), some (.int (nI m))]) dX6_field_60 rfl (by decide) rfl ?_
        refine sx_iinc (pc := 61) (v := nI (m + 1)) (L' := [some (.ref (X.2 + 95)), some (.int dev), some (.int lt), some (.int (((10 * v) + (lk f z a1)) - 48)), some (.int (nI (m + 1)))]) dX6_field_61 rfl (nI_1 m) (by decide) rfl ?_
        refine sx_aload_n (pc := 64) dX6_field_64 rfl rfl ?_
        refine sx_dup (pc := 65) dX6_field_65 rfl ?_
        refine sx_geti (pc := 66) (ci := 6) (j := 23) dX6_field_66 rfl s_Mo rfl (by decide) lf_X6_80 ?_
        rw [ha]
        refine sx_iconst (pc := 69) (v := 1) dX6_field_69 (by decide) ?_
        refine sx_iadd (pc := 70) dX6_field_70 ?_
        rw [nI_1]
        refine sx_puti (pc := 71) (ci := 6) (j := 23) (ty := .int) dX6_field_71 rfl s_Mo rfl (by decide) lf_X6_80 rfl (by decide +kernel) rfl rfl (fun μ4 hμ4 => ?_)
        have hz_μ4 : μ4 96 dev.toNatClampNeg = nI z := by rw [hμ4, xup_at, if_neg (by omega)]; exact hz
        have ha_μ4 : μ4 95 23 = nI (a1 + 1) := by rw [hμ4, xup_at, if_pos ⟨rfl, rfl⟩]
        refine sx_goto (pc := 74) (tgt := 26) dX6_field_74 (by decide) ?_
        exact ih (m + 1) (a1 + 1) _ _ (by omega) (by omega) (by omega) ha_μ4 hz_μ4 (F23.put hC hμ4) (by rw [← hdl, show 5 - m = (5 - (m + 1)) + 1 by omega, dl_go hdg, lk_p hdg.1, Int32.mul_comm 10 v])
set_option maxHeartbeats 1000000 in
set_option maxRecDepth 20000 in
theorem c_field (X : xD) (Ex : State → Prop) (hE : xEs X false shA.length Ex) (μ : xM) (dev : Int32) (hb : 0 ≤ dev ∧ dev < 6) (lt : Int32) (hl1 : lt ≠ (-1)) (a0 z : Nat) (ha0 : a0 < 900) (hz2 : z ≤ 60) (ha : μ 95 23 = nI a0) (hz : μ 96 dev.toNatClampNeg = nI z) {f : Nat → Int32} (hf0 : ∀ j, j < 60 → μ 97 (60 * dev.toNatClampNeg + j) &&& 255 = f j) : Ct X Ex false yX6_field kX6_field (rmN 1) [.ref (X.2 + 95), .int dev, .int lt] shA μ (fun r sh' μ' => shA = sh' ∧ (∃ a', a0 ≤ a' ∧ a' ≤ a0 + 7 ∧ μ' 95 23 = nI a') ∧ F23 μ μ' ∧ ((r = some (.int (-1)) ∧ fl f z a0 lt = none) ∨ ∃ b v, fl f z a0 lt = some (b, v) ∧ r = some (.int v) ∧ μ' 95 23 = nI b)) := by
  refine Ct.of (L0 := [some (.ref (X.2 + 95)), some (.int dev), some (.int lt), none, none]) (by decide) rfl (fun h => by cases h) (by simp [Value.category]) (Nat.le_of_ble_eq_true rfl) rfl (fun l => ?_)
  refine sx_aload_n (pc := 0) dX6_field_0 rfl rfl ?_
  refine sx_iload_n (pc := 1) dX6_field_1 rfl rfl ?_
  refine sx_callV (pc := 2) (As := [.int dev]) dX6_field_2 (c_look X Ex hE μ _ hb a0 z ha (by omega) hz hz2 (f := f) hf0) mX6_look lm_X6_83 rfl s_Mo rfl ⟨Nat.le_of_ble_eq_true rfl, Nat.le_of_ble_eq_true rfl⟩ ⟨Nat.le_of_ble_eq_true rfl, Nat.le_of_ble_eq_true rfl⟩ (Nat.le_of_ble_eq_true rfl) hE (fun r_2 sh1 μl1 h_2 => ?_)
  obtain ⟨rfl, rfl, rfl⟩ := h_2
  refine sx_iload_n (pc := 5) dX6_field_5 rfl rfl ?_
  refine sx_icmp_eq (pc := 6) (tgt := 11) dX6_field_6 (by decide) (fun c_6 => ?_) (fun c_6 => ?_)
  · have h_6t := c_6
    refine sx_aload_n (pc := 11) dX6_field_11 rfl rfl ?_
    refine sx_dup (pc := 12) dX6_field_12 rfl ?_
    refine sx_geti (pc := 13) (ci := 6) (j := 23) dX6_field_13 rfl s_Mo rfl (by decide) lf_X6_80 ?_
    rw [ha]
    refine sx_iconst (pc := 16) (v := 1) dX6_field_16 (by decide) ?_
    refine sx_iadd (pc := 17) dX6_field_17 ?_
    rw [nI_1]
    refine sx_puti (pc := 18) (ci := 6) (j := 23) (ty := .int) dX6_field_18 rfl s_Mo rfl (by decide) lf_X6_80 rfl (by decide +kernel) rfl rfl (fun μ2 hμ2 => ?_)
    have hz_μ2 : μ2 96 dev.toNatClampNeg = nI z := by rw [hμ2, xup_at, if_neg (by omega)]; exact hz
    have ha_μ2 : μ2 95 23 = nI (a0 + 1) := by rw [hμ2, xup_at, if_pos ⟨rfl, rfl⟩]
    refine sx_iconst (pc := 21) (v := 0) dX6_field_21 (by decide) ?_
    refine sx_istore_n (pc := 22) (L' := [some (.ref (X.2 + 95)), some (.int dev), some (.int lt), some (.int 0), none]) dX6_field_22 rfl (by decide) rfl ?_
    refine sx_iconst (pc := 23) (v := 0) dX6_field_23 (by decide) ?_
    refine sx_istore (pc := 24) (L' := [some (.ref (X.2 + 95)), some (.int dev), some (.int lt), some (.int 0), some (.int 0)]) dX6_field_24 (by decide) rfl ?_
    exact l_field hE hb ha0 hz2 hf0 (lk_e h_6t hl1) 5 0 (a0 + 1) _ _ (by omega) (by omega) (by omega) ha_μ2 hz_μ2 (F23.put F23.rf hμ2) rfl
  · have h_6f := c_6
    refine sx_iconst (pc := 9) (v := (-1)) dX6_field_9 (by decide) ?_
    exact sx_iret (pc := 10) dX6_field_10 rfl rfl (Nat.zero_le _) (Nat.zero_le _) (⟨rfl, ⟨a0, by omega, by omega, ha⟩, F23.rf, Or.inl ⟨rfl, fl_no (fun q => h_6f (by rw [lk_p q.1]; exact q.2))⟩⟩)
def RF (μ : xM) (t : PT) : Prop := μ 95 24 = t.1 ∧ μ 95 25 = t.2.1 ∧ μ 95 26 = t.2.2.1 ∧ μ 95 27 = t.2.2.2.1 ∧ μ 95 28 = t.2.2.2.2
set_option maxHeartbeats 1000000 in
set_option maxRecDepth 20000 in
theorem l_rsum {X : xD} {Ex : State → Prop} {l : Launch} {Z : List Frame → Array Value → State → State → Prop} {n0 : Nat} {μ : xM} {dev : Int32} (hb : 0 ≤ dev ∧ dev < 6) {a : Nat} (ha2 : a < 60) (ha : μ 95 23 = nI a) {f : Nat → Int32} (hf : ∀ j, j < 60 → μ 97 (60 * dev.toNatClampNeg + j) &&& 255 = f j) (hZ : ∀ (i : Int32), sx l (rmN 2) X Ex false kX6_reads n0 Z 222 [some (.ref (X.2 + 95)), some (.int dev), some (.int (sm f a)), some (.int i), none] [] shA μ 0 0) : ∀ (t j : Nat), a - j ≤ t → j ≤ a → sx l (rmN 2) X Ex false kX6_reads n0 Z 190 [some (.ref (X.2 + 95)), some (.int dev), some (.int (sm f j)), some (.int (nI j)), none] [] shA μ 0 0 := by
  intro t
  induction t with
  | zero =>
    intro j ht hj
    have hja : j = a := by omega
    subst hja
    refine sx_iload_n (pc := 190) dX6_reads_190 rfl rfl ?_
    refine sx_aload_n (pc := 191) dX6_reads_191 rfl rfl ?_
    refine sx_geti (pc := 192) (ci := 6) (j := 23) dX6_reads_192 rfl s_Mo rfl (by decide) lf_X6_80 ?_
    rw [ha]
    refine sx_icmp_ge (pc := 195) (tgt := 222) dX6_reads_195 (by decide) (fun c_195 => ?_) (fun c_195 => absurd (nI_le (by omega) (by omega)) c_195)
    exact hZ _
  | succ t ih =>
    intro j ht hj
    refine sx_iload_n (pc := 190) dX6_reads_190 rfl rfl ?_
    refine sx_aload_n (pc := 191) dX6_reads_191 rfl rfl ?_
    refine sx_geti (pc := 192) (ci := 6) (j := 23) dX6_reads_192 rfl s_Mo rfl (by decide) lf_X6_80 ?_
    rw [ha]
    refine sx_icmp_ge (pc := 195) (tgt := 222) dX6_reads_195 (by decide) (fun c_195 => ?_) (fun c_195 => ?_)
    · have h_195t := c_195
      have hja : j = a := by have : a ≤ j := Nat.le_of_not_lt (fun q => absurd (nI_lt q (by omega)) (Int32.not_lt.mpr h_195t)); omega
      subst hja
      exact hZ _
    · have h_195f := c_195
      have hlt : j < a := Nat.lt_of_not_le fun q => h_195f (nI_le q (by omega))
      refine sx_iload_n (pc := 198) dX6_reads_198 rfl rfl ?_
      refine sx_aload_n (pc := 199) dX6_reads_199 rfl rfl ?_
      refine sx_getr (pc := 200) (ci := 6) (j := 2) (r := 97) dX6_reads_200 rfl s_Mo rfl (by decide) lf_X6_13 ?_
      refine sx_bipush (pc := 203) (v := 60) dX6_reads_203 (by decide) ?_
      refine sx_iload_n (pc := 205) dX6_reads_205 rfl rfl ?_
      refine sx_imul (pc := 206) dX6_reads_206 ?_
      refine sx_iload_n (pc := 207) dX6_reads_207 rfl rfl ?_
      refine sx_iadd (pc := 208) dX6_reads_208 ?_
      refine sx_bald (pc := 209) dX6_reads_209 s_M2 (by decide) rfl (ix_mul hb 60 j 360 (fun k hk => by omega) (by decide) (by decide)) ?_
      refine sx_sipush (pc := 210) (v := 255) dX6_reads_210 (by decide) ?_
      refine sx_iand (pc := 213) dX6_reads_213 ?_
      refine sx_iadd (pc := 214) dX6_reads_214 ?_
      rw [show sm f j + (μ 97 (60 * dev + nI j).toNatClampNeg &&& 255) = sm f (j + 1) by rw [show (60 * dev + nI j).toNatClampNeg = 60 * dev.toNatClampNeg + j from ix_c hb 60 j (by decide) (by omega), hf j (by omega)]; rfl]
      refine sx_istore_n (pc := 215) (L' := [some (.ref (X.2 + 95)), some (.int dev), some (.int (sm f (j + 1))), some (.int (nI j)), none]) dX6_reads_215 rfl (by decide) rfl ?_
      refine sx_iinc (pc := 216) (v := nI (j + 1)) (L' := [some (.ref (X.2 + 95)), some (.int dev), some (.int (sm f (j + 1))), some (.int (nI (j + 1))), none]) dX6_reads_216 rfl (nI_1 j) (by decide) rfl ?_
      refine sx_goto (pc := 219) (tgt := 190) dX6_reads_219 (by decide) ?_
      exact ih (j + 1) (by omega) (by omega)
theorem rng8 {μ0 : xM} {D : Nat} {f : Nat → Int32} (hf0 : ∀ j, j < 60 → μ0 97 (60 * D + j) &&& 255 = f j) : ∀ j, j < 60 → ∃ b, b < 256 ∧ f j = nI b := fun j hj => by
  obtain ⟨b, h1, h2⟩ := pk_andE (μ0 97 (60 * D + j)) (m := 255) 8 (by decide)
  exact ⟨b, h1, by rw [← hf0 j hj]; exact h2⟩
theorem nIc {p : Nat} (h : p < 100000) : ¬ nI p < 0 := nI_pos (by omega)
set_option maxHeartbeats 1000000 in
set_option maxRecDepth 20000 in
theorem l_r3 {X : xD} {Ex : State → Prop} (hE : xEs X false shA.length Ex) {l : Launch} {dev : Int32} (hb : 0 ≤ dev ∧ dev < 6) {z : Nat} (hz2 : z ≤ 60) {μ0 μ : xM} {f : Nat → Int32} (hf0 : ∀ j, j < 60 → μ0 97 (60 * dev.toNatClampNeg + j) &&& 255 = f j) (hh : 2 ≤ z ∧ KS (f 0) ∧ dgt (f 1)) (hkd : μ 95 24 = f 0) (hnu : μ 95 25 = f 1 - 48) (hz : μ 96 dev.toNatClampNeg = nI z) (hC : Rd μ0 μ) {a : Nat} (ha2 : a < 800) (ha : μ 95 23 = nI a) {a1 a2 p i c : Nat} (hp9 : p < 100000) (hi9 : i < 100000) (hc9 : c < 100000) (eA : gA f z (f 0) = some (a1, nI p)) (eB : gB f z (f 0) a1 = some (a2, nI i)) (eC : gC f z (f 0) a2 = some (a, nI c)) (hpn : μ 95 26 = nI p) (hit : μ 95 27 = nI i) (hce : μ 95 28 = nI c) : sx l (rmN 2) X Ex false kX6_reads shA.length (xZ X false shA.length (fun r sh' μ' => shA = sh' ∧ Rd μ0 μ' ∧ ∃ x : Int32, r = some (.int x) ∧ ((x = 1 ∧ ∃ t, prs f z = some t ∧ RF μ' t) ∨ (x = 0 ∧ prs f z = none))) 0 0) 153 [some (.ref (X.2 + 95)), some (.int dev), none, none, none] [] shA μ 0 0 := by
  refine sx_aload_n (pc := 153) dX6_reads_153 rfl rfl ?_
  refine sx_geti (pc := 154) (ci := 6) (j := 26) dX6_reads_154 rfl s_Mo rfl (by decide) lf_X6_104 ?_
  rw [hpn]
  refine sx_if_lt (pc := 157) (tgt := 184) dX6_reads_157 (by decide) (fun c_157 => absurd c_157 (nIc hp9)) (fun c_157 => ?_)
  refine sx_aload_n (pc := 160) dX6_reads_160 rfl rfl ?_
  refine sx_geti (pc := 161) (ci := 6) (j := 27) dX6_reads_161 rfl s_Mo rfl (by decide) lf_X6_110 ?_
  rw [hit]
  refine sx_if_lt (pc := 164) (tgt := 184) dX6_reads_164 (by decide) (fun c_164 => absurd c_164 (nIc hi9)) (fun c_164 => ?_)
  refine sx_aload_n (pc := 167) dX6_reads_167 rfl rfl ?_
  refine sx_geti (pc := 168) (ci := 6) (j := 28) dX6_reads_168 rfl s_Mo rfl (by decide) lf_X6_113 ?_
  rw [hce]
  refine sx_if_lt (pc := 171) (tgt := 184) dX6_reads_171 (by decide) (fun c_171 => absurd c_171 (nIc hc9)) (fun c_171 => ?_)
  refine sx_aload_n (pc := 174) dX6_reads_174 rfl rfl ?_
  refine sx_iload_n (pc := 175) dX6_reads_175 rfl rfl ?_
  refine sx_callV (pc := 176) (As := [.int dev]) dX6_reads_176 (c_look X Ex hE μ _ hb a z ha (by omega) hz hz2 (f := f) (fun j hj => by rw [(hC).1 97 (by decide)]; exact hf0 j hj)) mX6_look lm_X6_83 rfl s_Mo rfl ⟨Nat.le_of_ble_eq_true rfl, Nat.le_of_ble_eq_true rfl⟩ ⟨Nat.le_of_ble_eq_true rfl, Nat.le_of_ble_eq_true rfl⟩ (Nat.le_of_ble_eq_true rfl) hE (fun r_176 sh1 μl1 h_176 => ?_)
  obtain ⟨rfl, rfl, rfl⟩ := h_176
  refine sx_bipush (pc := 179) (v := 90) dX6_reads_179 (by decide) ?_
  refine sx_icmp_eq (pc := 181) (tgt := 186) dX6_reads_181 (by decide) (fun c_181 => ?_) (fun c_181 => ?_)
  · have h_181t := c_181
    have hz9 := lk_e h_181t (by decide)
    refine sx_iconst (pc := 186) (v := 0) dX6_reads_186 (by decide) ?_
    refine sx_istore_n (pc := 187) (L' := [some (.ref (X.2 + 95)), some (.int dev), some (.int 0), none, none]) dX6_reads_187 rfl (by decide) rfl ?_
    refine sx_iconst (pc := 188) (v := 0) dX6_reads_188 (by decide) ?_
    refine sx_istore_n (pc := 189) (L' := [some (.ref (X.2 + 95)), some (.int dev), some (.int 0), some (.int 0), none]) dX6_reads_189 rfl (by decide) rfl ?_
    refine l_rsum hb (a := a) (by omega) ha (f := f) (fun j hj => by rw [hC.1 97 (by decide)]; exact hf0 j hj) (fun i9 => ?_) a 0 (by omega) (Nat.zero_le _)
    refine sx_aload_n (pc := 222) dX6_reads_222 rfl rfl ?_
    refine sx_dup (pc := 223) dX6_reads_223 rfl ?_
    refine sx_geti (pc := 224) (ci := 6) (j := 23) dX6_reads_224 rfl s_Mo rfl (by decide) lf_X6_80 ?_
    rw [ha]
    refine sx_iconst (pc := 227) (v := 1) dX6_reads_227 (by decide) ?_
    refine sx_iadd (pc := 228) dX6_reads_228 ?_
    rw [nI_1]
    refine sx_puti (pc := 229) (ci := 6) (j := 23) (ty := .int) dX6_reads_229 rfl s_Mo rfl (by decide) lf_X6_80 rfl (by decide +kernel) rfl rfl (fun μ2 hμ2 => ?_)
    have hz_μ2 : μ2 96 dev.toNatClampNeg = nI z := by rw [hμ2, xup_at, if_neg (by omega)]; exact hz
    have hkd_μ2 : μ2 95 24 = f 0 := by rw [hμ2, xup_at, if_neg (by omega)]; exact hkd
    have hnu_μ2 : μ2 95 25 = f 1 - 48 := by rw [hμ2, xup_at, if_neg (by omega)]; exact hnu
    have hpn_μ2 : μ2 95 26 = nI p := by rw [hμ2, xup_at, if_neg (by omega)]; exact hpn
    have hit_μ2 : μ2 95 27 = nI i := by rw [hμ2, xup_at, if_neg (by omega)]; exact hit
    have hce_μ2 : μ2 95 28 = nI c := by rw [hμ2, xup_at, if_neg (by omega)]; exact hce
    have ha_μ2 : μ2 95 23 = nI (a + 1) := by rw [hμ2, xup_at, if_pos ⟨rfl, rfl⟩]
    refine sx_aload_n (pc := 232) dX6_reads_232 rfl rfl ?_
    refine sx_iload_n (pc := 233) dX6_reads_233 rfl rfl ?_
    refine sx_callV (pc := 234) (As := [.int dev]) dX6_reads_234 (c_look X Ex hE μ2 _ hb (a + 1) z ha_μ2 (by omega) hz_μ2 hz2 (f := f) (fun j hj => by rw [((Rd.put hC hμ2 (by omega))).1 97 (by decide)]; exact hf0 j hj)) mX6_look lm_X6_83 rfl s_Mo rfl ⟨Nat.le_of_ble_eq_true rfl, Nat.le_of_ble_eq_true rfl⟩ ⟨Nat.le_of_ble_eq_true rfl, Nat.le_of_ble_eq_true rfl⟩ (Nat.le_of_ble_eq_true rfl) hE (fun r_234 sh1 μl3 h_234 => ?_)
    obtain ⟨rfl, rfl, rfl⟩ := h_234
    refine sx_callS (pc := 237) (As := [.int (lk f z (a + 1))]) dX6_reads_237 (c_hex X Ex hE μ2 _) mX6_hex lm_X6_116 rfl ⟨Nat.le_of_ble_eq_true rfl, Nat.le_of_ble_eq_true rfl⟩ ⟨Nat.le_of_ble_eq_true rfl, Nat.le_of_ble_eq_true rfl⟩ (Nat.le_of_ble_eq_true rfl) hE (fun r_237 sh1 μ4 h_237 => ?_)
    obtain ⟨rfl, rfl, rfl⟩ := h_237
    refine sx_istore_n (pc := 240) (L' := [some (.ref (X.2 + 95)), some (.int dev), some (.int (sm f a)), some (.int (hv (lk f z (a + 1)))), none]) dX6_reads_240 rfl (by decide) rfl ?_
    refine sx_aload_n (pc := 241) dX6_reads_241 rfl rfl ?_
    refine sx_dup (pc := 242) dX6_reads_242 rfl ?_
    refine sx_geti (pc := 243) (ci := 6) (j := 23) dX6_reads_243 rfl s_Mo rfl (by decide) lf_X6_80 ?_
    rw [ha_μ2]
    refine sx_iconst (pc := 246) (v := 1) dX6_reads_246 (by decide) ?_
    refine sx_iadd (pc := 247) dX6_reads_247 ?_
    rw [nI_1]
    refine sx_puti (pc := 248) (ci := 6) (j := 23) (ty := .int) dX6_reads_248 rfl s_Mo rfl (by decide) lf_X6_80 rfl (by decide +kernel) rfl rfl (fun μ5 hμ5 => ?_)
    have hz_μ5 : μ5 96 dev.toNatClampNeg = nI z := by rw [hμ5, xup_at, if_neg (by omega)]; exact hz_μ2
    have hkd_μ5 : μ5 95 24 = f 0 := by rw [hμ5, xup_at, if_neg (by omega)]; exact hkd_μ2
    have hnu_μ5 : μ5 95 25 = f 1 - 48 := by rw [hμ5, xup_at, if_neg (by omega)]; exact hnu_μ2
    have hpn_μ5 : μ5 95 26 = nI p := by rw [hμ5, xup_at, if_neg (by omega)]; exact hpn_μ2
    have hit_μ5 : μ5 95 27 = nI i := by rw [hμ5, xup_at, if_neg (by omega)]; exact hit_μ2
    have hce_μ5 : μ5 95 28 = nI c := by rw [hμ5, xup_at, if_neg (by omega)]; exact hce_μ2
    have ha_μ5 : μ5 95 23 = nI (a + 1 + 1) := by rw [hμ5, xup_at, if_pos ⟨rfl, rfl⟩]
    refine sx_aload_n (pc := 251) dX6_reads_251 rfl rfl ?_
    refine sx_iload_n (pc := 252) dX6_reads_252 rfl rfl ?_
    refine sx_callV (pc := 253) (As := [.int dev]) dX6_reads_253 (c_look X Ex hE μ5 _ hb (a + 1 + 1) z ha_μ5 (by omega) hz_μ5 hz2 (f := f) (fun j hj => by rw [((Rd.put (Rd.put hC hμ2 (by omega)) hμ5 (by omega))).1 97 (by decide)]; exact hf0 j hj)) mX6_look lm_X6_83 rfl s_Mo rfl ⟨Nat.le_of_ble_eq_true rfl, Nat.le_of_ble_eq_true rfl⟩ ⟨Nat.le_of_ble_eq_true rfl, Nat.le_of_ble_eq_true rfl⟩ (Nat.le_of_ble_eq_true rfl) hE (fun r_253 sh1 μl6 h_253 => ?_)
    obtain ⟨rfl, rfl, rfl⟩ := h_253
    refine sx_callS (pc := 256) (As := [.int (lk f z (a + 1 + 1))]) dX6_reads_256 (c_hex X Ex hE μ5 _) mX6_hex lm_X6_116 rfl ⟨Nat.le_of_ble_eq_true rfl, Nat.le_of_ble_eq_true rfl⟩ ⟨Nat.le_of_ble_eq_true rfl, Nat.le_of_ble_eq_true rfl⟩ (Nat.le_of_ble_eq_true rfl) hE (fun r_256 sh1 μ7 h_256 => ?_)
    obtain ⟨rfl, rfl, rfl⟩ := h_256
    refine sx_istore (pc := 259) (L' := [some (.ref (X.2 + 95)), some (.int dev), some (.int (sm f a)), some (.int (hv (lk f z (a + 1)))), some (.int (hv (lk f z (a + 1 + 1))))]) dX6_reads_259 (by decide) rfl ?_
    refine sx_aload_n (pc := 261) dX6_reads_261 rfl rfl ?_
    refine sx_dup (pc := 262) dX6_reads_262 rfl ?_
    refine sx_geti (pc := 263) (ci := 6) (j := 23) dX6_reads_263 rfl s_Mo rfl (by decide) lf_X6_80 ?_
    rw [ha_μ5]
    refine sx_iconst (pc := 266) (v := 1) dX6_reads_266 (by decide) ?_
    refine sx_iadd (pc := 267) dX6_reads_267 ?_
    rw [nI_1]
    refine sx_puti (pc := 268) (ci := 6) (j := 23) (ty := .int) dX6_reads_268 rfl s_Mo rfl (by decide) lf_X6_80 rfl (by decide +kernel) rfl rfl (fun μ8 hμ8 => ?_)
    have hz_μ8 : μ8 96 dev.toNatClampNeg = nI z := by rw [hμ8, xup_at, if_neg (by omega)]; exact hz_μ5
    have hkd_μ8 : μ8 95 24 = f 0 := by rw [hμ8, xup_at, if_neg (by omega)]; exact hkd_μ5
    have hnu_μ8 : μ8 95 25 = f 1 - 48 := by rw [hμ8, xup_at, if_neg (by omega)]; exact hnu_μ5
    have hpn_μ8 : μ8 95 26 = nI p := by rw [hμ8, xup_at, if_neg (by omega)]; exact hpn_μ5
    have hit_μ8 : μ8 95 27 = nI i := by rw [hμ8, xup_at, if_neg (by omega)]; exact hit_μ5
    have hce_μ8 : μ8 95 28 = nI c := by rw [hμ8, xup_at, if_neg (by omega)]; exact hce_μ5
    have ha_μ8 : μ8 95 23 = nI (a + 1 + 1 + 1) := by rw [hμ8, xup_at, if_pos ⟨rfl, rfl⟩]
    refine sx_aload_n (pc := 271) dX6_reads_271 rfl rfl ?_
    refine sx_geti (pc := 272) (ci := 6) (j := 23) dX6_reads_272 rfl s_Mo rfl (by decide) lf_X6_80 ?_
    rw [ha_μ8]
    refine sx_aload_n (pc := 275) dX6_reads_275 rfl rfl ?_
    refine sx_getr (pc := 276) (ci := 6) (j := 1) (r := 96) dX6_reads_276 rfl s_Mo rfl (by decide) lf_X6_7 ?_
    refine sx_iload_n (pc := 279) dX6_reads_279 rfl rfl ?_
    refine sx_iald (pc := 280) dX6_reads_280 s_M1 (by decide) rfl (vp_in_lt (n := 6) hb.1 hb.2 (by decide)) ?_
    rw [hz_μ8]
    refine sx_icmp_ne (pc := 281) (tgt := 303) dX6_reads_281 (by decide) (fun c_281 => ?_) (fun c_281 => ?_)
    · have h_281t := c_281
      refine sx_iconst (pc := 303) (v := 0) dX6_reads_303 (by decide) ?_
      exact sx_iret (pc := 304) dX6_reads_304 rfl rfl (Nat.zero_le _) (Nat.zero_le _) (⟨rfl, (Rd.put (Rd.put (Rd.put hC hμ2 (by omega)) hμ5 (by omega)) hμ8 (by omega)), _, rfl, by first | exact Or.inr ⟨rfl, prs_n4 hh eA eB eC (fun q => h_281t (by rw [q.1]))⟩ | exact Or.inr ⟨rfl, prs_n4 hh eA eB eC (fun q => h_296t (by rw [lk_p (by omega), lk_p (by omega)]; exact (hfr.mpr q).2))⟩ | exact Or.inl ⟨rfl, _, prs_ok hh eA eB eC (hfr.mp ⟨hzz.symm, by rw [lk_p (show a + 1 < z by omega), lk_p (show a + 1 + 1 < z by omega)] at h_296f; exact h_296f⟩), ⟨by rw [hkd_μ8], by rw [hnu_μ8], by rw [hpn_μ8], by rw [hit_μ8], by rw [hce_μ8]⟩⟩⟩)
    · have h_281f := c_281
      have hzz : a + 3 = z := (nI_eq (by omega) (by omega)).mp h_281f
      have hfr := fnd_ref (rng8 hf0) (n := z) (p := a) (by omega) hz9.2
      refine sx_bipush (pc := 284) (v := 16) dX6_reads_284 (by decide) ?_
      refine sx_iload_n (pc := 286) dX6_reads_286 rfl rfl ?_
      refine sx_imul (pc := 287) dX6_reads_287 ?_
      refine sx_iload (pc := 288) dX6_reads_288 rfl ?_
      refine sx_iadd (pc := 290) dX6_reads_290 ?_
      refine sx_iload_n (pc := 291) dX6_reads_291 rfl rfl ?_
      refine sx_sipush (pc := 292) (v := 256) dX6_reads_292 (by decide) ?_
      refine sx_irem (pc := 295) dX6_reads_295 (by decide) ?_
      refine sx_icmp_ne (pc := 296) (tgt := 303) dX6_reads_296 (by decide) (fun c_296 => ?_) (fun c_296 => ?_)
      · have h_296t := c_296
        refine sx_iconst (pc := 303) (v := 0) dX6_reads_303 (by decide) ?_
        exact sx_iret (pc := 304) dX6_reads_304 rfl rfl (Nat.zero_le _) (Nat.zero_le _) (⟨rfl, (Rd.put (Rd.put (Rd.put hC hμ2 (by omega)) hμ5 (by omega)) hμ8 (by omega)), _, rfl, by first | exact Or.inr ⟨rfl, prs_n4 hh eA eB eC (fun q => h_281t (by rw [q.1]))⟩ | exact Or.inr ⟨rfl, prs_n4 hh eA eB eC (fun q => h_296t (by rw [lk_p (by omega), lk_p (by omega)]; exact (hfr.mpr q).2))⟩ | exact Or.inl ⟨rfl, _, prs_ok hh eA eB eC (hfr.mp ⟨hzz.symm, by rw [lk_p (show a + 1 < z by omega), lk_p (show a + 1 + 1 < z by omega)] at h_296f; exact h_296f⟩), ⟨by rw [hkd_μ8], by rw [hnu_μ8], by rw [hpn_μ8], by rw [hit_μ8], by rw [hce_μ8]⟩⟩⟩)
      · have h_296f := c_296
        refine sx_iconst (pc := 299) (v := 1) dX6_reads_299 (by decide) ?_
        refine sx_goto (pc := 300) (tgt := 304) dX6_reads_300 (by decide) ?_
        exact sx_iret (pc := 304) dX6_reads_304 rfl rfl (Nat.zero_le _) (Nat.zero_le _) (⟨rfl, (Rd.put (Rd.put (Rd.put hC hμ2 (by omega)) hμ5 (by omega)) hμ8 (by omega)), _, rfl, by first | exact Or.inr ⟨rfl, prs_n4 hh eA eB eC (fun q => h_281t (by rw [q.1]))⟩ | exact Or.inr ⟨rfl, prs_n4 hh eA eB eC (fun q => h_296t (by rw [lk_p (by omega), lk_p (by omega)]; exact (hfr.mpr q).2))⟩ | exact Or.inl ⟨rfl, _, prs_ok hh eA eB eC (hfr.mp ⟨hzz.symm, by rw [lk_p (show a + 1 < z by omega), lk_p (show a + 1 + 1 < z by omega)] at h_296f; exact h_296f⟩), ⟨by rw [hkd_μ8], by rw [hnu_μ8], by rw [hpn_μ8], by rw [hit_μ8], by rw [hce_μ8]⟩⟩⟩)
  · have h_181f := c_181
    refine sx_iconst (pc := 184) (v := 0) dX6_reads_184 (by decide) ?_
    exact sx_iret (pc := 185) dX6_reads_185 rfl rfl (Nat.zero_le _) (Nat.zero_le _) (⟨rfl, hC, _, rfl, Or.inr ⟨rfl, prs_n4 hh eA eB eC (fun q => h_181f (by rw [lk_p (by omega)]; exact q.2.1))⟩⟩)
set_option maxHeartbeats 1000000 in
set_option maxRecDepth 20000 in
theorem l_d3 {X : xD} {Ex : State → Prop} (hE : xEs X false shA.length Ex) {l : Launch} {dev : Int32} (hb : 0 ≤ dev ∧ dev < 6) {z : Nat} (hz2 : z ≤ 60) {μ0 μ : xM} {f : Nat → Int32} (hf0 : ∀ j, j < 60 → μ0 97 (60 * dev.toNatClampNeg + j) &&& 255 = f j) (hh : 2 ≤ z ∧ KS (f 0) ∧ dgt (f 1)) (hkd : μ 95 24 = f 0) (hnu : μ 95 25 = f 1 - 48) (hz : μ 96 dev.toNatClampNeg = nI z) (hC : Rd μ0 μ) {a : Nat} {a1 a2 p i : Nat} (hp9 : p < 100000) (hi9 : i < 100000) (ha : μ 95 23 = nI a) (hno : prs f z = none) (hpn : μ 95 26 = nI p) (hit : μ 95 27 = nI i) (hce : μ 95 28 = (-1)) : sx l (rmN 2) X Ex false kX6_reads shA.length (xZ X false shA.length (fun r sh' μ' => shA = sh' ∧ Rd μ0 μ' ∧ ∃ x : Int32, r = some (.int x) ∧ ((x = 1 ∧ ∃ t, prs f z = some t ∧ RF μ' t) ∨ (x = 0 ∧ prs f z = none))) 0 0) 153 [some (.ref (X.2 + 95)), some (.int dev), none, none, none] [] shA μ 0 0 := by
  refine sx_aload_n (pc := 153) dX6_reads_153 rfl rfl ?_
  refine sx_geti (pc := 154) (ci := 6) (j := 26) dX6_reads_154 rfl s_Mo rfl (by decide) lf_X6_104 ?_
  rw [hpn]
  refine sx_if_lt (pc := 157) (tgt := 184) dX6_reads_157 (by decide) (fun c_157 => absurd c_157 (nIc hp9)) (fun c_157 => ?_)
  refine sx_aload_n (pc := 160) dX6_reads_160 rfl rfl ?_
  refine sx_geti (pc := 161) (ci := 6) (j := 27) dX6_reads_161 rfl s_Mo rfl (by decide) lf_X6_110 ?_
  rw [hit]
  refine sx_if_lt (pc := 164) (tgt := 184) dX6_reads_164 (by decide) (fun c_164 => absurd c_164 (nIc hi9)) (fun c_164 => ?_)
  refine sx_aload_n (pc := 167) dX6_reads_167 rfl rfl ?_
  refine sx_geti (pc := 168) (ci := 6) (j := 28) dX6_reads_168 rfl s_Mo rfl (by decide) lf_X6_113 ?_
  rw [hce]
  refine sx_if_lt (pc := 171) (tgt := 184) dX6_reads_171 (by decide) (fun c_171 => ?_) (fun c_171 => absurd c_171 (by decide))
  refine sx_iconst (pc := 184) (v := 0) dX6_reads_184 (by decide) ?_
  exact sx_iret (pc := 185) dX6_reads_185 rfl rfl (Nat.zero_le _) (Nat.zero_le _) (⟨rfl, hC, _, rfl, Or.inr ⟨rfl, hno⟩⟩)
set_option maxHeartbeats 1000000 in
set_option maxRecDepth 20000 in
theorem l_d2 {X : xD} {Ex : State → Prop} (hE : xEs X false shA.length Ex) {l : Launch} {dev : Int32} (hb : 0 ≤ dev ∧ dev < 6) {z : Nat} (hz2 : z ≤ 60) {μ0 μ : xM} {f : Nat → Int32} (hf0 : ∀ j, j < 60 → μ0 97 (60 * dev.toNatClampNeg + j) &&& 255 = f j) (hh : 2 ≤ z ∧ KS (f 0) ∧ dgt (f 1)) (hkd : μ 95 24 = f 0) (hnu : μ 95 25 = f 1 - 48) (hz : μ 96 dev.toNatClampNeg = nI z) (hC : Rd μ0 μ) {a : Nat} {p : Nat} (hp9 : p < 100000) (ha : μ 95 23 = nI a) (h70 : ¬ f 0 = 70) (hno : prs f z = none) (hpn : μ 95 26 = nI p) (hit : μ 95 27 = (-1)) : sx l (rmN 2) X Ex false kX6_reads shA.length (xZ X false shA.length (fun r sh' μ' => shA = sh' ∧ Rd μ0 μ' ∧ ∃ x : Int32, r = some (.int x) ∧ ((x = 1 ∧ ∃ t, prs f z = some t ∧ RF μ' t) ∨ (x = 0 ∧ prs f z = none))) 0 0) 122 [some (.ref (X.2 + 95)), some (.int dev), none, none, none] [] shA μ 0 0 := by
  refine sx_aload_n (pc := 122) dX6_reads_122 rfl rfl ?_
  refine sx_aload_n (pc := 123) dX6_reads_123 rfl rfl ?_
  refine sx_geti (pc := 124) (ci := 6) (j := 26) dX6_reads_124 rfl s_Mo rfl (by decide) lf_X6_104 ?_
  rw [hpn]
  refine sx_if_lt (pc := 127) (tgt := 149) dX6_reads_127 (by decide) (fun c_127 => absurd c_127 (nIc hp9)) (fun c_127 => ?_)
  refine sx_aload_n (pc := 130) dX6_reads_130 rfl rfl ?_
  refine sx_geti (pc := 131) (ci := 6) (j := 24) dX6_reads_131 rfl s_Mo rfl (by decide) lf_X6_87 ?_
  rw [hkd]
  refine sx_bipush (pc := 134) (v := 70) dX6_reads_134 (by decide) ?_
  refine sx_icmp_ne (pc := 136) (tgt := 149) dX6_reads_136 (by decide) (fun c_136 => ?_) (fun c_136 => absurd c_136 h70)
  refine sx_iconst (pc := 149) (v := 0) dX6_reads_149 (by decide) ?_
  refine sx_puti (pc := 150) (ci := 6) (j := 28) (ty := .int) dX6_reads_150 rfl s_Mo rfl (by decide) lf_X6_113 rfl (by decide +kernel) rfl rfl (fun μ1 hμ1 => ?_)
  have ha_μ1 : μ1 95 23 = nI a := by rw [hμ1, xup_at, if_neg (by omega)]; exact ha
  have hz_μ1 : μ1 96 dev.toNatClampNeg = nI z := by rw [hμ1, xup_at, if_neg (by omega)]; exact hz
  have hkd_μ1 : μ1 95 24 = f 0 := by rw [hμ1, xup_at, if_neg (by omega)]; exact hkd
  have hnu_μ1 : μ1 95 25 = f 1 - 48 := by rw [hμ1, xup_at, if_neg (by omega)]; exact hnu
  have hpn_μ1 : μ1 95 26 = nI p := by rw [hμ1, xup_at, if_neg (by omega)]; exact hpn
  have hit_μ1 : μ1 95 27 = (-1) := by rw [hμ1, xup_at, if_neg (by omega)]; exact hit
  have hce_μ1 : μ1 95 28 = 0 := by rw [hμ1, xup_at, if_pos ⟨rfl, rfl⟩]
  refine sx_aload_n (pc := 153) dX6_reads_153 rfl rfl ?_
  refine sx_geti (pc := 154) (ci := 6) (j := 26) dX6_reads_154 rfl s_Mo rfl (by decide) lf_X6_104 ?_
  rw [hpn_μ1]
  refine sx_if_lt (pc := 157) (tgt := 184) dX6_reads_157 (by decide) (fun c_157 => absurd c_157 (nIc hp9)) (fun c_157 => ?_)
  refine sx_aload_n (pc := 160) dX6_reads_160 rfl rfl ?_
  refine sx_geti (pc := 161) (ci := 6) (j := 27) dX6_reads_161 rfl s_Mo rfl (by decide) lf_X6_110 ?_
  rw [hit_μ1]
  refine sx_if_lt (pc := 164) (tgt := 184) dX6_reads_164 (by decide) (fun c_164 => ?_) (fun c_164 => absurd c_164 (by decide))
  refine sx_iconst (pc := 184) (v := 0) dX6_reads_184 (by decide) ?_
  exact sx_iret (pc := 185) dX6_reads_185 rfl rfl (Nat.zero_le _) (Nat.zero_le _) (⟨rfl, (Rd.put hC hμ1 (by omega)), _, rfl, Or.inr ⟨rfl, hno⟩⟩)
set_option maxHeartbeats 1000000 in
set_option maxRecDepth 20000 in
theorem l_d1 {X : xD} {Ex : State → Prop} (hE : xEs X false shA.length Ex) {l : Launch} {dev : Int32} (hb : 0 ≤ dev ∧ dev < 6) {z : Nat} (hz2 : z ≤ 60) {μ0 μ : xM} {f : Nat → Int32} (hf0 : ∀ j, j < 60 → μ0 97 (60 * dev.toNatClampNeg + j) &&& 255 = f j) (hh : 2 ≤ z ∧ KS (f 0) ∧ dgt (f 1)) (hkd : μ 95 24 = f 0) (hnu : μ 95 25 = f 1 - 48) (hz : μ 96 dev.toNatClampNeg = nI z) (hC : Rd μ0 μ) {a : Nat} (ha : μ 95 23 = nI a) (hno : prs f z = none) (hpn : μ 95 26 = (-1)) : sx l (rmN 2) X Ex false kX6_reads shA.length (xZ X false shA.length (fun r sh' μ' => shA = sh' ∧ Rd μ0 μ' ∧ ∃ x : Int32, r = some (.int x) ∧ ((x = 1 ∧ ∃ t, prs f z = some t ∧ RF μ' t) ∨ (x = 0 ∧ prs f z = none))) 0 0) 90 [some (.ref (X.2 + 95)), some (.int dev), none, none, none] [] shA μ 0 0 := by
  refine sx_aload_n (pc := 90) dX6_reads_90 rfl rfl ?_
  refine sx_aload_n (pc := 91) dX6_reads_91 rfl rfl ?_
  refine sx_geti (pc := 92) (ci := 6) (j := 26) dX6_reads_92 rfl s_Mo rfl (by decide) lf_X6_104 ?_
  rw [hpn]
  refine sx_if_lt (pc := 95) (tgt := 118) dX6_reads_95 (by decide) (fun c_95 => ?_) (fun c_95 => absurd c_95 (by decide))
  refine sx_iconst (pc := 118) (v := 0) dX6_reads_118 (by decide) ?_
  refine sx_puti (pc := 119) (ci := 6) (j := 27) (ty := .int) dX6_reads_119 rfl s_Mo rfl (by decide) lf_X6_110 rfl (by decide +kernel) rfl rfl (fun μ1 hμ1 => ?_)
  have ha_μ1 : μ1 95 23 = nI a := by rw [hμ1, xup_at, if_neg (by omega)]; exact ha
  have hz_μ1 : μ1 96 dev.toNatClampNeg = nI z := by rw [hμ1, xup_at, if_neg (by omega)]; exact hz
  have hkd_μ1 : μ1 95 24 = f 0 := by rw [hμ1, xup_at, if_neg (by omega)]; exact hkd
  have hnu_μ1 : μ1 95 25 = f 1 - 48 := by rw [hμ1, xup_at, if_neg (by omega)]; exact hnu
  have hpn_μ1 : μ1 95 26 = (-1) := by rw [hμ1, xup_at, if_neg (by omega)]; exact hpn
  have hit_μ1 : μ1 95 27 = 0 := by rw [hμ1, xup_at, if_pos ⟨rfl, rfl⟩]
  refine sx_aload_n (pc := 122) dX6_reads_122 rfl rfl ?_
  refine sx_aload_n (pc := 123) dX6_reads_123 rfl rfl ?_
  refine sx_geti (pc := 124) (ci := 6) (j := 26) dX6_reads_124 rfl s_Mo rfl (by decide) lf_X6_104 ?_
  rw [hpn_μ1]
  refine sx_if_lt (pc := 127) (tgt := 149) dX6_reads_127 (by decide) (fun c_127 => ?_) (fun c_127 => absurd c_127 (by decide))
  refine sx_iconst (pc := 149) (v := 0) dX6_reads_149 (by decide) ?_
  refine sx_puti (pc := 150) (ci := 6) (j := 28) (ty := .int) dX6_reads_150 rfl s_Mo rfl (by decide) lf_X6_113 rfl (by decide +kernel) rfl rfl (fun μ2 hμ2 => ?_)
  have ha_μ2 : μ2 95 23 = nI a := by rw [hμ2, xup_at, if_neg (by omega)]; exact ha_μ1
  have hz_μ2 : μ2 96 dev.toNatClampNeg = nI z := by rw [hμ2, xup_at, if_neg (by omega)]; exact hz_μ1
  have hkd_μ2 : μ2 95 24 = f 0 := by rw [hμ2, xup_at, if_neg (by omega)]; exact hkd_μ1
  have hnu_μ2 : μ2 95 25 = f 1 - 48 := by rw [hμ2, xup_at, if_neg (by omega)]; exact hnu_μ1
  have hpn_μ2 : μ2 95 26 = (-1) := by rw [hμ2, xup_at, if_neg (by omega)]; exact hpn_μ1
  have hit_μ2 : μ2 95 27 = 0 := by rw [hμ2, xup_at, if_neg (by omega)]; exact hit_μ1
  have hce_μ2 : μ2 95 28 = 0 := by rw [hμ2, xup_at, if_pos ⟨rfl, rfl⟩]
  refine sx_aload_n (pc := 153) dX6_reads_153 rfl rfl ?_
  refine sx_geti (pc := 154) (ci := 6) (j := 26) dX6_reads_154 rfl s_Mo rfl (by decide) lf_X6_104 ?_
  rw [hpn_μ2]
  refine sx_if_lt (pc := 157) (tgt := 184) dX6_reads_157 (by decide) (fun c_157 => ?_) (fun c_157 => absurd c_157 (by decide))
  refine sx_iconst (pc := 184) (v := 0) dX6_reads_184 (by decide) ?_
  exact sx_iret (pc := 185) dX6_reads_185 rfl rfl (Nat.zero_le _) (Nat.zero_le _) (⟨rfl, (Rd.put (Rd.put hC hμ1 (by omega)) hμ2 (by omega)), _, rfl, Or.inr ⟨rfl, hno⟩⟩)
set_option maxHeartbeats 1000000 in
set_option maxRecDepth 20000 in
theorem l_r2 {X : xD} {Ex : State → Prop} (hE : xEs X false shA.length Ex) {l : Launch} {dev : Int32} (hb : 0 ≤ dev ∧ dev < 6) {z : Nat} (hz2 : z ≤ 60) {μ0 μ : xM} {f : Nat → Int32} (hf0 : ∀ j, j < 60 → μ0 97 (60 * dev.toNatClampNeg + j) &&& 255 = f j) (hh : 2 ≤ z ∧ KS (f 0) ∧ dgt (f 1)) (hkd : μ 95 24 = f 0) (hnu : μ 95 25 = f 1 - 48) (hz : μ 96 dev.toNatClampNeg = nI z) (hC : Rd μ0 μ) {a : Nat} (ha2 : a < 700) (ha : μ 95 23 = nI a) {a1 p i : Nat} (hp9 : p < 100000) (hi9 : i < 100000) (eA : gA f z (f 0) = some (a1, nI p)) (eB : gB f z (f 0) a1 = some (a, nI i)) (hpn : μ 95 26 = nI p) (hit : μ 95 27 = nI i) : sx l (rmN 2) X Ex false kX6_reads shA.length (xZ X false shA.length (fun r sh' μ' => shA = sh' ∧ Rd μ0 μ' ∧ ∃ x : Int32, r = some (.int x) ∧ ((x = 1 ∧ ∃ t, prs f z = some t ∧ RF μ' t) ∨ (x = 0 ∧ prs f z = none))) 0 0) 122 [some (.ref (X.2 + 95)), some (.int dev), none, none, none] [] shA μ 0 0 := by
  refine sx_aload_n (pc := 122) dX6_reads_122 rfl rfl ?_
  refine sx_aload_n (pc := 123) dX6_reads_123 rfl rfl ?_
  refine sx_geti (pc := 124) (ci := 6) (j := 26) dX6_reads_124 rfl s_Mo rfl (by decide) lf_X6_104 ?_
  rw [hpn]
  refine sx_if_lt (pc := 127) (tgt := 149) dX6_reads_127 (by decide) (fun c_127 => absurd c_127 (nIc hp9)) (fun c_127 => ?_)
  refine sx_aload_n (pc := 130) dX6_reads_130 rfl rfl ?_
  refine sx_geti (pc := 131) (ci := 6) (j := 24) dX6_reads_131 rfl s_Mo rfl (by decide) lf_X6_87 ?_
  rw [hkd]
  refine sx_bipush (pc := 134) (v := 70) dX6_reads_134 (by decide) ?_
  refine sx_icmp_ne (pc := 136) (tgt := 149) dX6_reads_136 (by decide) (fun c_136 => ?_) (fun c_136 => ?_)
  · have h_136t := c_136
    have h70 : ¬ f 0 = 70 := h_136t
    refine sx_iconst (pc := 149) (v := 0) dX6_reads_149 (by decide) ?_
    refine sx_puti (pc := 150) (ci := 6) (j := 28) (ty := .int) dX6_reads_150 rfl s_Mo rfl (by decide) lf_X6_113 rfl (by decide +kernel) rfl rfl (fun μ1 hμ1 => ?_)
    have ha_μ1 : μ1 95 23 = nI a := by rw [hμ1, xup_at, if_neg (by omega)]; exact ha
    have hz_μ1 : μ1 96 dev.toNatClampNeg = nI z := by rw [hμ1, xup_at, if_neg (by omega)]; exact hz
    have hkd_μ1 : μ1 95 24 = f 0 := by rw [hμ1, xup_at, if_neg (by omega)]; exact hkd
    have hnu_μ1 : μ1 95 25 = f 1 - 48 := by rw [hμ1, xup_at, if_neg (by omega)]; exact hnu
    have hpn_μ1 : μ1 95 26 = nI p := by rw [hμ1, xup_at, if_neg (by omega)]; exact hpn
    have hit_μ1 : μ1 95 27 = nI i := by rw [hμ1, xup_at, if_neg (by omega)]; exact hit
    have hce_μ1 : μ1 95 28 = 0 := by rw [hμ1, xup_at, if_pos ⟨rfl, rfl⟩]
    exact l_r3 hE hb hz2 hf0 hh hkd_μ1 hnu_μ1 hz_μ1 (Rd.put hC hμ1 (by omega)) (by omega) ha_μ1 hp9 hi9 (c := 0) (by decide) eA eB (by rw [gC, if_neg h70]; rfl) hpn_μ1 hit_μ1 (hce_μ1.trans rfl)
  · have h_136f := c_136
    have h70 : f 0 = 70 := h_136f
    refine sx_aload_n (pc := 139) dX6_reads_139 rfl rfl ?_
    refine sx_iload_n (pc := 140) dX6_reads_140 rfl rfl ?_
    refine sx_bipush (pc := 141) (v := 99) dX6_reads_141 (by decide) ?_
    refine sx_callV (pc := 143) (As := [.int dev, .int 99]) dX6_reads_143 (c_field X Ex hE μ _ hb _ (by decide) _ z (by omega) hz2 ha hz (f := f) (fun j hj => by rw [(hC).1 97 (by decide)]; exact hf0 j hj)) mX6_field lm_X6_100 rfl s_Mo rfl ⟨Nat.le_of_ble_eq_true rfl, Nat.le_of_ble_eq_true rfl⟩ ⟨Nat.le_of_ble_eq_true rfl, Nat.le_of_ble_eq_true rfl⟩ (Nat.le_of_ble_eq_true rfl) hE (fun r_143 sh1 μ2 h_143 => ?_)
    obtain ⟨rfl, ⟨a_143, al_143, ar_143, ae_143⟩, k_143, h_143⟩ := h_143
    have hz_μ2 : μ2 96 dev.toNatClampNeg = nI z := by rw [k_143.1 96 (by decide)]; exact hz
    have hkd_μ2 : μ2 95 24 = f 0 := (k_143.2 24 (by decide)).trans hkd
    have hnu_μ2 : μ2 95 25 = f 1 - 48 := (k_143.2 25 (by decide)).trans hnu
    have hpn_μ2 : μ2 95 26 = nI p := (k_143.2 26 (by decide)).trans hpn
    have hit_μ2 : μ2 95 27 = nI i := (k_143.2 27 (by decide)).trans hit
    have ha_μ2 : μ2 95 23 = nI a_143 := ae_143
    rcases h_143 with ⟨rfl, hfl⟩ | ⟨b9, v9, hfl, rfl, hb9⟩
    · skip
      refine sx_goto (pc := 146) (tgt := 150) dX6_reads_146 (by decide) ?_
      refine sx_puti (pc := 150) (ci := 6) (j := 28) (ty := .int) dX6_reads_150 rfl s_Mo rfl (by decide) lf_X6_113 rfl (by decide +kernel) rfl rfl (fun μ3 hμ3 => ?_)
      have hz_μ3 : μ3 96 dev.toNatClampNeg = nI z := by rw [hμ3, xup_at, if_neg (by omega)]; exact hz_μ2
      have hkd_μ3 : μ3 95 24 = f 0 := by rw [hμ3, xup_at, if_neg (by omega)]; exact hkd_μ2
      have hnu_μ3 : μ3 95 25 = f 1 - 48 := by rw [hμ3, xup_at, if_neg (by omega)]; exact hnu_μ2
      have hpn_μ3 : μ3 95 26 = nI p := by rw [hμ3, xup_at, if_neg (by omega)]; exact hpn_μ2
      have hit_μ3 : μ3 95 27 = nI i := by rw [hμ3, xup_at, if_neg (by omega)]; exact hit_μ2
      have ha_μ3 : μ3 95 23 = nI a_143 := by rw [hμ3, xup_at, if_neg (by omega)]; exact ha_μ2
      have hce_μ3 : μ3 95 28 = (-1) := by rw [hμ3, xup_at, if_pos ⟨rfl, rfl⟩]
      exact l_d3 hE hb hz2 hf0 hh hkd_μ3 hnu_μ3 hz_μ3 (Rd.put (Rd.f23 hC k_143) hμ3 (by omega)) hp9 hi9 ha_μ3 (prs_n3 hh eA eB (by rw [gC, if_pos h70]; exact hfl)) hpn_μ3 hit_μ3 hce_μ3 (a1 := 0) (a2 := 0)
    · skip
      obtain ⟨hb1, hb2, hb3, m9, rfl, hm9⟩ := fl_b hfl
      refine sx_goto (pc := 146) (tgt := 150) dX6_reads_146 (by decide) ?_
      refine sx_puti (pc := 150) (ci := 6) (j := 28) (ty := .int) dX6_reads_150 rfl s_Mo rfl (by decide) lf_X6_113 rfl (by decide +kernel) rfl rfl (fun μ3 hμ3 => ?_)
      have hz_μ3 : μ3 96 dev.toNatClampNeg = nI z := by rw [hμ3, xup_at, if_neg (by omega)]; exact hz_μ2
      have hkd_μ3 : μ3 95 24 = f 0 := by rw [hμ3, xup_at, if_neg (by omega)]; exact hkd_μ2
      have hnu_μ3 : μ3 95 25 = f 1 - 48 := by rw [hμ3, xup_at, if_neg (by omega)]; exact hnu_μ2
      have hpn_μ3 : μ3 95 26 = nI p := by rw [hμ3, xup_at, if_neg (by omega)]; exact hpn_μ2
      have hit_μ3 : μ3 95 27 = nI i := by rw [hμ3, xup_at, if_neg (by omega)]; exact hit_μ2
      have hb9_μ3 : μ3 95 23 = nI b9 := by rw [hμ3, xup_at, if_neg (by omega)]; exact hb9
      have hce_μ3 : μ3 95 28 = nI m9 := by rw [hμ3, xup_at, if_pos ⟨rfl, rfl⟩]
      exact l_r3 hE hb hz2 hf0 hh hkd_μ3 hnu_μ3 hz_μ3 (Rd.put (Rd.f23 hC k_143) hμ3 (by omega)) (by omega) hb9_μ3 hp9 hi9 hm9 eA eB (by rw [gC, if_pos h70]; exact hfl) hpn_μ3 hit_μ3 hce_μ3
set_option maxHeartbeats 1000000 in
set_option maxRecDepth 20000 in
theorem l_r1 {X : xD} {Ex : State → Prop} (hE : xEs X false shA.length Ex) {l : Launch} {dev : Int32} (hb : 0 ≤ dev ∧ dev < 6) {z : Nat} (hz2 : z ≤ 60) {μ0 μ : xM} {f : Nat → Int32} (hf0 : ∀ j, j < 60 → μ0 97 (60 * dev.toNatClampNeg + j) &&& 255 = f j) (hh : 2 ≤ z ∧ KS (f 0) ∧ dgt (f 1)) (hkd : μ 95 24 = f 0) (hnu : μ 95 25 = f 1 - 48) (hz : μ 96 dev.toNatClampNeg = nI z) (hC : Rd μ0 μ) {a : Nat} (ha2 : a < 600) (ha : μ 95 23 = nI a) {p : Nat} (hp9 : p < 100000) (eA : gA f z (f 0) = some (a, nI p)) (hpn : μ 95 26 = nI p) : sx l (rmN 2) X Ex false kX6_reads shA.length (xZ X false shA.length (fun r sh' μ' => shA = sh' ∧ Rd μ0 μ' ∧ ∃ x : Int32, r = some (.int x) ∧ ((x = 1 ∧ ∃ t, prs f z = some t ∧ RF μ' t) ∨ (x = 0 ∧ prs f z = none))) 0 0) 90 [some (.ref (X.2 + 95)), some (.int dev), none, none, none] [] shA μ 0 0 := by
  refine sx_aload_n (pc := 90) dX6_reads_90 rfl rfl ?_
  refine sx_aload_n (pc := 91) dX6_reads_91 rfl rfl ?_
  refine sx_geti (pc := 92) (ci := 6) (j := 26) dX6_reads_92 rfl s_Mo rfl (by decide) lf_X6_104 ?_
  rw [hpn]
  refine sx_if_lt (pc := 95) (tgt := 118) dX6_reads_95 (by decide) (fun c_95 => absurd c_95 (nIc hp9)) (fun c_95 => ?_)
  refine sx_aload_n (pc := 98) dX6_reads_98 rfl rfl ?_
  refine sx_geti (pc := 99) (ci := 6) (j := 24) dX6_reads_99 rfl s_Mo rfl (by decide) lf_X6_87 ?_
  rw [hkd]
  refine sx_callS (pc := 102) (As := [.int (f 0)]) dX6_reads_102 (c_hasItem X Ex false shA μ _) mX6_hasItem lm_X6_107 rfl ⟨Nat.le_of_ble_eq_true rfl, Nat.le_of_ble_eq_true rfl⟩ ⟨Nat.le_of_ble_eq_true rfl, Nat.le_of_ble_eq_true rfl⟩ (Nat.le_of_ble_eq_true rfl) hE (fun r_102 sh1 μ1 h_102 => ?_)
  obtain ⟨rfl, rfl, x_102, rfl, hx_102⟩ := h_102
  refine sx_if_eq (pc := 105) (tgt := 118) dX6_reads_105 (by decide) (fun c_105 => ?_) (fun c_105 => ?_)
  · have h_105t := c_105
    have hI9 : ¬ hI (f 0) := dq_f hx_102 h_105t
    refine sx_iconst (pc := 118) (v := 0) dX6_reads_118 (by decide) ?_
    refine sx_puti (pc := 119) (ci := 6) (j := 27) (ty := .int) dX6_reads_119 rfl s_Mo rfl (by decide) lf_X6_110 rfl (by decide +kernel) rfl rfl (fun μ2 hμ2 => ?_)
    have ha_μ2 : μ2 95 23 = nI a := by rw [hμ2, xup_at, if_neg (by omega)]; exact ha
    have hz_μ2 : μ2 96 dev.toNatClampNeg = nI z := by rw [hμ2, xup_at, if_neg (by omega)]; exact hz
    have hkd_μ2 : μ2 95 24 = f 0 := by rw [hμ2, xup_at, if_neg (by omega)]; exact hkd
    have hnu_μ2 : μ2 95 25 = f 1 - 48 := by rw [hμ2, xup_at, if_neg (by omega)]; exact hnu
    have hpn_μ2 : μ2 95 26 = nI p := by rw [hμ2, xup_at, if_neg (by omega)]; exact hpn
    have hit_μ2 : μ2 95 27 = 0 := by rw [hμ2, xup_at, if_pos ⟨rfl, rfl⟩]
    exact l_r2 hE hb hz2 hf0 hh hkd_μ2 hnu_μ2 hz_μ2 (Rd.put hC hμ2 (by omega)) (by omega) ha_μ2 hp9 (i := 0) (by decide) eA (by rw [gB, if_neg hI9]; rfl) hpn_μ2 (hit_μ2.trans rfl)
  · have h_105f := c_105
    have hI9 : hI (f 0) := dq_t hx_102 h_105f
    refine sx_aload_n (pc := 108) dX6_reads_108 rfl rfl ?_
    refine sx_iload_n (pc := 109) dX6_reads_109 rfl rfl ?_
    refine sx_bipush (pc := 110) (v := 98) dX6_reads_110 (by decide) ?_
    refine sx_callV (pc := 112) (As := [.int dev, .int 98]) dX6_reads_112 (c_field X Ex hE μ _ hb _ (by decide) _ z (by omega) hz2 ha hz (f := f) (fun j hj => by rw [(hC).1 97 (by decide)]; exact hf0 j hj)) mX6_field lm_X6_100 rfl s_Mo rfl ⟨Nat.le_of_ble_eq_true rfl, Nat.le_of_ble_eq_true rfl⟩ ⟨Nat.le_of_ble_eq_true rfl, Nat.le_of_ble_eq_true rfl⟩ (Nat.le_of_ble_eq_true rfl) hE (fun r_112 sh1 μ3 h_112 => ?_)
    obtain ⟨rfl, ⟨a_112, al_112, ar_112, ae_112⟩, k_112, h_112⟩ := h_112
    have hz_μ3 : μ3 96 dev.toNatClampNeg = nI z := by rw [k_112.1 96 (by decide)]; exact hz
    have hkd_μ3 : μ3 95 24 = f 0 := (k_112.2 24 (by decide)).trans hkd
    have hnu_μ3 : μ3 95 25 = f 1 - 48 := (k_112.2 25 (by decide)).trans hnu
    have hpn_μ3 : μ3 95 26 = nI p := (k_112.2 26 (by decide)).trans hpn
    have ha_μ3 : μ3 95 23 = nI a_112 := ae_112
    rcases h_112 with ⟨rfl, hfl⟩ | ⟨b9, v9, hfl, rfl, hb9⟩
    · skip
      refine sx_goto (pc := 115) (tgt := 119) dX6_reads_115 (by decide) ?_
      refine sx_puti (pc := 119) (ci := 6) (j := 27) (ty := .int) dX6_reads_119 rfl s_Mo rfl (by decide) lf_X6_110 rfl (by decide +kernel) rfl rfl (fun μ4 hμ4 => ?_)
      have hz_μ4 : μ4 96 dev.toNatClampNeg = nI z := by rw [hμ4, xup_at, if_neg (by omega)]; exact hz_μ3
      have hkd_μ4 : μ4 95 24 = f 0 := by rw [hμ4, xup_at, if_neg (by omega)]; exact hkd_μ3
      have hnu_μ4 : μ4 95 25 = f 1 - 48 := by rw [hμ4, xup_at, if_neg (by omega)]; exact hnu_μ3
      have hpn_μ4 : μ4 95 26 = nI p := by rw [hμ4, xup_at, if_neg (by omega)]; exact hpn_μ3
      have ha_μ4 : μ4 95 23 = nI a_112 := by rw [hμ4, xup_at, if_neg (by omega)]; exact ha_μ3
      have hit_μ4 : μ4 95 27 = (-1) := by rw [hμ4, xup_at, if_pos ⟨rfl, rfl⟩]
      exact l_d2 hE hb hz2 hf0 hh hkd_μ4 hnu_μ4 hz_μ4 (Rd.put (Rd.f23 hC k_112) hμ4 (by omega)) hp9 ha_μ4 (fun q => by rw [q] at hI9; exact absurd hI9 (by decide)) (prs_n2 hh eA (by rw [gB, if_pos hI9]; exact hfl)) hpn_μ4 hit_μ4
    · skip
      obtain ⟨hb1, hb2, hb3, m9, rfl, hm9⟩ := fl_b hfl
      refine sx_goto (pc := 115) (tgt := 119) dX6_reads_115 (by decide) ?_
      refine sx_puti (pc := 119) (ci := 6) (j := 27) (ty := .int) dX6_reads_119 rfl s_Mo rfl (by decide) lf_X6_110 rfl (by decide +kernel) rfl rfl (fun μ4 hμ4 => ?_)
      have hz_μ4 : μ4 96 dev.toNatClampNeg = nI z := by rw [hμ4, xup_at, if_neg (by omega)]; exact hz_μ3
      have hkd_μ4 : μ4 95 24 = f 0 := by rw [hμ4, xup_at, if_neg (by omega)]; exact hkd_μ3
      have hnu_μ4 : μ4 95 25 = f 1 - 48 := by rw [hμ4, xup_at, if_neg (by omega)]; exact hnu_μ3
      have hpn_μ4 : μ4 95 26 = nI p := by rw [hμ4, xup_at, if_neg (by omega)]; exact hpn_μ3
      have hb9_μ4 : μ4 95 23 = nI b9 := by rw [hμ4, xup_at, if_neg (by omega)]; exact hb9
      have hit_μ4 : μ4 95 27 = nI m9 := by rw [hμ4, xup_at, if_pos ⟨rfl, rfl⟩]
      exact l_r2 hE hb hz2 hf0 hh hkd_μ4 hnu_μ4 hz_μ4 (Rd.put (Rd.f23 hC k_112) hμ4 (by omega)) (by omega) hb9_μ4 hp9 hm9 eA (by rw [gB, if_pos hI9]; exact hfl) hpn_μ4 hit_μ4
set_option maxHeartbeats 1000000 in
set_option maxRecDepth 20000 in
theorem c_reads (X : xD) (Ex : State → Prop) (hE : xEs X false shA.length Ex) (μ : xM) (dev : Int32) (hb : 0 ≤ dev ∧ dev < 6) (z : Nat) (hz2 : z ≤ 60) (hz : μ 96 dev.toNatClampNeg = nI z) {f : Nat → Int32} (hf0 : ∀ j, j < 60 → μ 97 (60 * dev.toNatClampNeg + j) &&& 255 = f j) : Ct X Ex false yX6_reads kX6_reads (rmN 2) [.ref (X.2 + 95), .int dev] shA μ (fun r sh' μ' => shA = sh' ∧ Rd μ μ' ∧ ∃ x : Int32, r = some (.int x) ∧ ((x = 1 ∧ ∃ t, prs f z = some t ∧ RF μ' t) ∨ (x = 0 ∧ prs f z = none))) := by
  refine Ct.of (L0 := [some (.ref (X.2 + 95)), some (.int dev), none, none, none]) (by decide) rfl (fun h => by cases h) (by simp [Value.category]) (Nat.le_of_ble_eq_true rfl) rfl (fun l => ?_)
  refine sx_aload_n (pc := 0) dX6_reads_0 rfl rfl ?_
  refine sx_iconst (pc := 1) (v := 0) dX6_reads_1 (by decide) ?_
  refine sx_puti (pc := 2) (ci := 6) (j := 23) (ty := .int) dX6_reads_2 rfl s_Mo rfl (by decide) lf_X6_80 rfl (by decide +kernel) rfl rfl (fun μ1 hμ1 => ?_)
  have hz_μ1 : μ1 96 dev.toNatClampNeg = nI z := by rw [hμ1, xup_at, if_neg (by omega)]; exact hz
  have ha_μ1 : μ1 95 23 = nI 0 := by rw [hμ1, xup_at, if_pos ⟨rfl, rfl⟩]; exact (rfl : (0 : Int32) = nI 0)
  refine sx_aload_n (pc := 5) dX6_reads_5 rfl rfl ?_
  refine sx_aload_n (pc := 6) dX6_reads_6 rfl rfl ?_
  refine sx_iload_n (pc := 7) dX6_reads_7 rfl rfl ?_
  refine sx_callV (pc := 8) (As := [.int dev]) dX6_reads_8 (c_look X Ex hE μ1 _ hb 0 z ha_μ1 (by omega) hz_μ1 hz2 (f := f) (fun j hj => by rw [((Rd.put Rd.rf hμ1 (by omega))).1 97 (by decide)]; exact hf0 j hj)) mX6_look lm_X6_83 rfl s_Mo rfl ⟨Nat.le_of_ble_eq_true rfl, Nat.le_of_ble_eq_true rfl⟩ ⟨Nat.le_of_ble_eq_true rfl, Nat.le_of_ble_eq_true rfl⟩ (Nat.le_of_ble_eq_true rfl) hE (fun r_8 sh1 μl2 h_8 => ?_)
  obtain ⟨rfl, rfl, rfl⟩ := h_8
  refine sx_puti (pc := 11) (ci := 6) (j := 24) (ty := .int) dX6_reads_11 rfl s_Mo rfl (by decide) lf_X6_87 rfl (by decide +kernel) rfl rfl (fun μ3 hμ3 => ?_)
  have hz_μ3 : μ3 96 dev.toNatClampNeg = nI z := by rw [hμ3, xup_at, if_neg (by omega)]; exact hz_μ1
  have ha_μ3 : μ3 95 23 = nI 0 := by rw [hμ3, xup_at, if_neg (by omega)]; exact ha_μ1
  have hkd_μ3 : μ3 95 24 = lk f z 0 := by rw [hμ3, xup_at, if_pos ⟨rfl, rfl⟩]
  refine sx_aload_n (pc := 14) dX6_reads_14 rfl rfl ?_
  refine sx_geti (pc := 15) (ci := 6) (j := 24) dX6_reads_15 rfl s_Mo rfl (by decide) lf_X6_87 ?_
  rw [hkd_μ3]
  refine sx_callS (pc := 18) (As := [.int (lk f z 0)]) dX6_reads_18 (c_isKind X Ex false shA μ3 _) mX6_isKind lm_X6_90 rfl ⟨Nat.le_of_ble_eq_true rfl, Nat.le_of_ble_eq_true rfl⟩ ⟨Nat.le_of_ble_eq_true rfl, Nat.le_of_ble_eq_true rfl⟩ (Nat.le_of_ble_eq_true rfl) hE (fun r_18 sh1 μ4 h_18 => ?_)
  obtain ⟨rfl, rfl, x_18, rfl, hx_18⟩ := h_18
  refine sx_if_ne (pc := 21) (tgt := 26) dX6_reads_21 (by decide) (fun c_21 => ?_) (fun c_21 => ?_)
  · have h_21t := c_21
    have hk9 := lk_k (dq_t hx_18 h_21t)
    refine sx_aload_n (pc := 26) dX6_reads_26 rfl rfl ?_
    refine sx_iconst (pc := 27) (v := 1) dX6_reads_27 (by decide) ?_
    refine sx_puti (pc := 28) (ci := 6) (j := 23) (ty := .int) dX6_reads_28 rfl s_Mo rfl (by decide) lf_X6_80 rfl (by decide +kernel) rfl rfl (fun μ5 hμ5 => ?_)
    have hz_μ5 : μ5 96 dev.toNatClampNeg = nI z := by rw [hμ5, xup_at, if_neg (by omega)]; exact hz_μ3
    have hkd_μ5 : μ5 95 24 = lk f z 0 := by rw [hμ5, xup_at, if_neg (by omega)]; exact hkd_μ3
    have ha_μ5 : μ5 95 23 = nI 1 := by rw [hμ5, xup_at, if_pos ⟨rfl, rfl⟩]; exact (rfl : (1 : Int32) = nI 1)
    refine sx_aload_n (pc := 31) dX6_reads_31 rfl rfl ?_
    refine sx_iload_n (pc := 32) dX6_reads_32 rfl rfl ?_
    refine sx_callV (pc := 33) (As := [.int dev]) dX6_reads_33 (c_look X Ex hE μ5 _ hb 1 z ha_μ5 (by omega) hz_μ5 hz2 (f := f) (fun j hj => by rw [((Rd.put (Rd.put (Rd.put Rd.rf hμ1 (by omega)) hμ3 (by omega)) hμ5 (by omega))).1 97 (by decide)]; exact hf0 j hj)) mX6_look lm_X6_83 rfl s_Mo rfl ⟨Nat.le_of_ble_eq_true rfl, Nat.le_of_ble_eq_true rfl⟩ ⟨Nat.le_of_ble_eq_true rfl, Nat.le_of_ble_eq_true rfl⟩ (Nat.le_of_ble_eq_true rfl) hE (fun r_33 sh1 μl6 h_33 => ?_)
    obtain ⟨rfl, rfl, rfl⟩ := h_33
    refine sx_bipush (pc := 36) (v := 48) dX6_reads_36 (by decide) ?_
    refine sx_bipush (pc := 38) (v := 57) dX6_reads_38 (by decide) ?_
    refine sx_callS (pc := 40) (As := [.int (lk f z 1), .int 48, .int 57]) dX6_reads_40 (c_in X Ex false shA μ5 _ _ _) mX6_in lm_X6_76 rfl ⟨Nat.le_of_ble_eq_true rfl, Nat.le_of_ble_eq_true rfl⟩ ⟨Nat.le_of_ble_eq_true rfl, Nat.le_of_ble_eq_true rfl⟩ (Nat.le_of_ble_eq_true rfl) hE (fun r_40 sh1 μ7 h_40 => ?_)
    obtain ⟨rfl, rfl, x_40, rfl, hx_40⟩ := h_40
    refine sx_if_ne (pc := 43) (tgt := 48) dX6_reads_43 (by decide) (fun c_43 => ?_) (fun c_43 => ?_)
    · have h_43t := c_43
      have hd9 := lk_d (dq_t hx_40 h_43t)
      have hh : 2 ≤ z ∧ KS (f 0) ∧ dgt (f 1) := ⟨by omega, hk9.2, hd9.2⟩
      refine sx_aload_n (pc := 48) dX6_reads_48 rfl rfl ?_
      refine sx_aload_n (pc := 49) dX6_reads_49 rfl rfl ?_
      refine sx_iload_n (pc := 50) dX6_reads_50 rfl rfl ?_
      refine sx_callV (pc := 51) (As := [.int dev]) dX6_reads_51 (c_look X Ex hE μ5 _ hb 1 z ha_μ5 (by omega) hz_μ5 hz2 (f := f) (fun j hj => by rw [((Rd.put (Rd.put (Rd.put Rd.rf hμ1 (by omega)) hμ3 (by omega)) hμ5 (by omega))).1 97 (by decide)]; exact hf0 j hj)) mX6_look lm_X6_83 rfl s_Mo rfl ⟨Nat.le_of_ble_eq_true rfl, Nat.le_of_ble_eq_true rfl⟩ ⟨Nat.le_of_ble_eq_true rfl, Nat.le_of_ble_eq_true rfl⟩ (Nat.le_of_ble_eq_true rfl) hE (fun r_51 sh1 μl8 h_51 => ?_)
      obtain ⟨rfl, rfl, rfl⟩ := h_51
      refine sx_bipush (pc := 54) (v := 48) dX6_reads_54 (by decide) ?_
      refine sx_isub (pc := 56) dX6_reads_56 ?_
      refine sx_puti (pc := 57) (ci := 6) (j := 25) (ty := .int) dX6_reads_57 rfl s_Mo rfl (by decide) lf_X6_94 rfl (by decide +kernel) rfl rfl (fun μ9 hμ9 => ?_)
      have hz_μ9 : μ9 96 dev.toNatClampNeg = nI z := by rw [hμ9, xup_at, if_neg (by omega)]; exact hz_μ5
      have hkd_μ9 : μ9 95 24 = lk f z 0 := by rw [hμ9, xup_at, if_neg (by omega)]; exact hkd_μ5
      have ha_μ9 : μ9 95 23 = nI 1 := by rw [hμ9, xup_at, if_neg (by omega)]; exact ha_μ5
      have hnu_μ9 : μ9 95 25 = (lk f z 1) - 48 := by rw [hμ9, xup_at, if_pos ⟨rfl, rfl⟩]
      refine sx_aload_n (pc := 60) dX6_reads_60 rfl rfl ?_
      refine sx_iconst (pc := 61) (v := 2) dX6_reads_61 (by decide) ?_
      refine sx_puti (pc := 62) (ci := 6) (j := 23) (ty := .int) dX6_reads_62 rfl s_Mo rfl (by decide) lf_X6_80 rfl (by decide +kernel) rfl rfl (fun μ10 hμ10 => ?_)
      have hz_μ10 : μ10 96 dev.toNatClampNeg = nI z := by rw [hμ10, xup_at, if_neg (by omega)]; exact hz_μ9
      have hkd_μ10 : μ10 95 24 = lk f z 0 := by rw [hμ10, xup_at, if_neg (by omega)]; exact hkd_μ9
      have hnu_μ10 : μ10 95 25 = (lk f z 1) - 48 := by rw [hμ10, xup_at, if_neg (by omega)]; exact hnu_μ9
      have ha_μ10 : μ10 95 23 = nI 2 := by rw [hμ10, xup_at, if_pos ⟨rfl, rfl⟩]; exact (rfl : (2 : Int32) = nI 2)
      refine sx_aload_n (pc := 65) dX6_reads_65 rfl rfl ?_
      refine sx_aload_n (pc := 66) dX6_reads_66 rfl rfl ?_
      refine sx_geti (pc := 67) (ci := 6) (j := 24) dX6_reads_67 rfl s_Mo rfl (by decide) lf_X6_87 ?_
      rw [hkd_μ10]
      refine sx_callS (pc := 70) (As := [.int (lk f z 0)]) dX6_reads_70 (c_hasPerson X Ex false shA μ10 _) mX6_hasPerson lm_X6_97 rfl ⟨Nat.le_of_ble_eq_true rfl, Nat.le_of_ble_eq_true rfl⟩ ⟨Nat.le_of_ble_eq_true rfl, Nat.le_of_ble_eq_true rfl⟩ (Nat.le_of_ble_eq_true rfl) hE (fun r_70 sh1 μ11 h_70 => ?_)
      obtain ⟨rfl, rfl, x_70, rfl, hx_70⟩ := h_70
      refine sx_if_eq (pc := 73) (tgt := 86) dX6_reads_73 (by decide) (fun c_73 => ?_) (fun c_73 => ?_)
      · have h_73t := c_73
        have hP9 : ¬ hP (f 0) := by have := dq_f hx_70 h_73t; rw [lk_p hk9.1] at this; exact this
        refine sx_iconst (pc := 86) (v := 0) dX6_reads_86 (by decide) ?_
        refine sx_puti (pc := 87) (ci := 6) (j := 26) (ty := .int) dX6_reads_87 rfl s_Mo rfl (by decide) lf_X6_104 rfl (by decide +kernel) rfl rfl (fun μ12 hμ12 => ?_)
        have hz_μ12 : μ12 96 dev.toNatClampNeg = nI z := by rw [hμ12, xup_at, if_neg (by omega)]; exact hz_μ10
        have hkd_μ12 : μ12 95 24 = lk f z 0 := by rw [hμ12, xup_at, if_neg (by omega)]; exact hkd_μ10
        have hnu_μ12 : μ12 95 25 = (lk f z 1) - 48 := by rw [hμ12, xup_at, if_neg (by omega)]; exact hnu_μ10
        have ha_μ12 : μ12 95 23 = nI 2 := by rw [hμ12, xup_at, if_neg (by omega)]; exact ha_μ10
        have hpn_μ12 : μ12 95 26 = 0 := by rw [hμ12, xup_at, if_pos ⟨rfl, rfl⟩]
        exact l_r1 hE hb hz2 hf0 hh (hkd_μ12.trans (lk_p hk9.1)) (hnu_μ12.trans (by rw [lk_p hd9.1])) hz_μ12 (Rd.put (Rd.put (Rd.put (Rd.put (Rd.put (Rd.put Rd.rf hμ1 (by omega)) hμ3 (by omega)) hμ5 (by omega)) hμ9 (by omega)) hμ10 (by omega)) hμ12 (by omega)) (by omega) ha_μ12 (p := 0) (by decide) (by rw [gA, if_neg hP9]; rfl) (hpn_μ12.trans rfl)
      · have h_73f := c_73
        have hP9 : hP (f 0) := by have := dq_t hx_70 h_73f; rw [lk_p hk9.1] at this; exact this
        refine sx_aload_n (pc := 76) dX6_reads_76 rfl rfl ?_
        refine sx_iload_n (pc := 77) dX6_reads_77 rfl rfl ?_
        refine sx_bipush (pc := 78) (v := 97) dX6_reads_78 (by decide) ?_
        refine sx_callV (pc := 80) (As := [.int dev, .int 97]) dX6_reads_80 (c_field X Ex hE μ10 _ hb _ (by decide) _ z (by omega) hz2 ha_μ10 hz_μ10 (f := f) (fun j hj => by rw [((Rd.put (Rd.put (Rd.put (Rd.put (Rd.put Rd.rf hμ1 (by omega)) hμ3 (by omega)) hμ5 (by omega)) hμ9 (by omega)) hμ10 (by omega))).1 97 (by decide)]; exact hf0 j hj)) mX6_field lm_X6_100 rfl s_Mo rfl ⟨Nat.le_of_ble_eq_true rfl, Nat.le_of_ble_eq_true rfl⟩ ⟨Nat.le_of_ble_eq_true rfl, Nat.le_of_ble_eq_true rfl⟩ (Nat.le_of_ble_eq_true rfl) hE (fun r_80 sh1 μ13 h_80 => ?_)
        obtain ⟨rfl, ⟨a_80, al_80, ar_80, ae_80⟩, k_80, h_80⟩ := h_80
        have hz_μ13 : μ13 96 dev.toNatClampNeg = nI z := by rw [k_80.1 96 (by decide)]; exact hz_μ10
        have hkd_μ13 : μ13 95 24 = lk f z 0 := (k_80.2 24 (by decide)).trans hkd_μ10
        have hnu_μ13 : μ13 95 25 = (lk f z 1) - 48 := (k_80.2 25 (by decide)).trans hnu_μ10
        have ha_μ13 : μ13 95 23 = nI a_80 := ae_80
        rcases h_80 with ⟨rfl, hfl⟩ | ⟨b9, v9, hfl, rfl, hb9⟩
        · skip
          refine sx_goto (pc := 83) (tgt := 87) dX6_reads_83 (by decide) ?_
          refine sx_puti (pc := 87) (ci := 6) (j := 26) (ty := .int) dX6_reads_87 rfl s_Mo rfl (by decide) lf_X6_104 rfl (by decide +kernel) rfl rfl (fun μ14 hμ14 => ?_)
          have hz_μ14 : μ14 96 dev.toNatClampNeg = nI z := by rw [hμ14, xup_at, if_neg (by omega)]; exact hz_μ13
          have hkd_μ14 : μ14 95 24 = lk f z 0 := by rw [hμ14, xup_at, if_neg (by omega)]; exact hkd_μ13
          have hnu_μ14 : μ14 95 25 = (lk f z 1) - 48 := by rw [hμ14, xup_at, if_neg (by omega)]; exact hnu_μ13
          have ha_μ14 : μ14 95 23 = nI a_80 := by rw [hμ14, xup_at, if_neg (by omega)]; exact ha_μ13
          have hpn_μ14 : μ14 95 26 = (-1) := by rw [hμ14, xup_at, if_pos ⟨rfl, rfl⟩]
          exact l_d1 hE hb hz2 hf0 hh (hkd_μ14.trans (lk_p hk9.1)) (hnu_μ14.trans (by rw [lk_p hd9.1])) hz_μ14 (Rd.put (Rd.f23 (Rd.put (Rd.put (Rd.put (Rd.put (Rd.put Rd.rf hμ1 (by omega)) hμ3 (by omega)) hμ5 (by omega)) hμ9 (by omega)) hμ10 (by omega)) k_80) hμ14 (by omega)) ha_μ14 (prs_n1 hh (by rw [gA, if_pos hP9]; exact hfl)) hpn_μ14
        · skip
          obtain ⟨hb1, hb2, hb3, m9, rfl, hm9⟩ := fl_b hfl
          refine sx_goto (pc := 83) (tgt := 87) dX6_reads_83 (by decide) ?_
          refine sx_puti (pc := 87) (ci := 6) (j := 26) (ty := .int) dX6_reads_87 rfl s_Mo rfl (by decide) lf_X6_104 rfl (by decide +kernel) rfl rfl (fun μ14 hμ14 => ?_)
          have hz_μ14 : μ14 96 dev.toNatClampNeg = nI z := by rw [hμ14, xup_at, if_neg (by omega)]; exact hz_μ13
          have hkd_μ14 : μ14 95 24 = lk f z 0 := by rw [hμ14, xup_at, if_neg (by omega)]; exact hkd_μ13
          have hnu_μ14 : μ14 95 25 = (lk f z 1) - 48 := by rw [hμ14, xup_at, if_neg (by omega)]; exact hnu_μ13
          have hb9_μ14 : μ14 95 23 = nI b9 := by rw [hμ14, xup_at, if_neg (by omega)]; exact hb9
          have hpn_μ14 : μ14 95 26 = nI m9 := by rw [hμ14, xup_at, if_pos ⟨rfl, rfl⟩]
          exact l_r1 hE hb hz2 hf0 hh (hkd_μ14.trans (lk_p hk9.1)) (hnu_μ14.trans (by rw [lk_p hd9.1])) hz_μ14 (Rd.put (Rd.f23 (Rd.put (Rd.put (Rd.put (Rd.put (Rd.put Rd.rf hμ1 (by omega)) hμ3 (by omega)) hμ5 (by omega)) hμ9 (by omega)) hμ10 (by omega)) k_80) hμ14 (by omega)) (by omega) hb9_μ14 hm9 (by rw [gA, if_pos hP9]; exact hfl) hpn_μ14
    · have h_43f := c_43
      refine sx_iconst (pc := 46) (v := 0) dX6_reads_46 (by decide) ?_
      exact sx_iret (pc := 47) dX6_reads_47 rfl rfl (Nat.zero_le _) (Nat.zero_le _) (⟨rfl, (Rd.put (Rd.put (Rd.put Rd.rf hμ1 (by omega)) hμ3 (by omega)) hμ5 (by omega)), _, rfl, Or.inr ⟨rfl, prs_n0 (fun q => dq_f hx_40 h_43f (by rw [lk_p (by omega)]; exact q.2.2))⟩⟩)
  · have h_21f := c_21
    refine sx_iconst (pc := 24) (v := 0) dX6_reads_24 (by decide) ?_
    exact sx_iret (pc := 25) dX6_reads_25 rfl rfl (Nat.zero_le _) (Nat.zero_le _) (⟨rfl, (Rd.put (Rd.put Rd.rf hμ1 (by omega)) hμ3 (by omega)), _, rfl, Or.inr ⟨rfl, prs_n0 (fun q => dq_f hx_18 h_21f (by rw [lk_p (by omega)]; exact q.2.1))⟩⟩)
abbrev tM (μ : xM) : PT := (μ 95 24, μ 95 25, μ 95 26, μ 95 27, μ 95 28)
set_option maxHeartbeats 1000000 in
set_option maxRecDepth 20000 in
theorem c_bad (X : xD) (Ex : State → Prop) (hE : xEs X false shA.length Ex) (μ : xM)  : Ct X Ex false yX6_bad kX6_bad (rmN 1) [.ref (X.2 + 95)] shA μ (fun r sh' μ' => shA = sh' ∧ μ = μ' ∧ ∃ x : Int32, r = some (.int x) ∧ ((x ≤ 0 ∧ ¬ bd (tM μ)) ∨ (¬ x ≤ 0 ∧ bd (tM μ)))) := by
  refine Ct.of (L0 := [some (.ref (X.2 + 95))]) (by decide) rfl (fun h => by cases h) (by simp [Value.category]) (Nat.le_of_ble_eq_true rfl) rfl (fun l => ?_)
  refine sx_aload_n (pc := 0) dX6_bad_0 rfl rfl ?_
  refine sx_geti (pc := 1) (ci := 6) (j := 24) dX6_bad_1 rfl s_Mo rfl (by decide) lf_X6_87 ?_
  refine sx_callS (pc := 4) (As := [.int (μ 95 24)]) dX6_bad_4 (c_hasPerson X Ex false shA μ _) mX6_hasPerson lm_X6_97 rfl ⟨Nat.le_of_ble_eq_true rfl, Nat.le_of_ble_eq_true rfl⟩ ⟨Nat.le_of_ble_eq_true rfl, Nat.le_of_ble_eq_true rfl⟩ (Nat.le_of_ble_eq_true rfl) hE (fun r_4 sh1 μ1 h_4 => ?_)
  obtain ⟨rfl, rfl, x_4, rfl, hx_4⟩ := h_4
  refine sx_if_eq (pc := 7) (tgt := 22) dX6_bad_7 (by decide) (fun c_7 => ?_) (fun c_7 => ?_)
  · have h_7t := c_7
    refine sx_aload_n (pc := 22) dX6_bad_22 rfl rfl ?_
    refine sx_geti (pc := 23) (ci := 6) (j := 24) dX6_bad_23 rfl s_Mo rfl (by decide) lf_X6_87 ?_
    refine sx_callS (pc := 26) (As := [.int (μ 95 24)]) dX6_bad_26 (c_hasItem X Ex false shA μ _) mX6_hasItem lm_X6_107 rfl ⟨Nat.le_of_ble_eq_true rfl, Nat.le_of_ble_eq_true rfl⟩ ⟨Nat.le_of_ble_eq_true rfl, Nat.le_of_ble_eq_true rfl⟩ (Nat.le_of_ble_eq_true rfl) hE (fun r_26 sh1 μ2 h_26 => ?_)
    obtain ⟨rfl, rfl, x_26, rfl, hx_26⟩ := h_26
    refine sx_if_eq (pc := 29) (tgt := 44) dX6_bad_29 (by decide) (fun c_29 => ?_) (fun c_29 => ?_)
    · have h_29t := c_29
      refine sx_aload_n (pc := 44) dX6_bad_44 rfl rfl ?_
      refine sx_geti (pc := 45) (ci := 6) (j := 24) dX6_bad_45 rfl s_Mo rfl (by decide) lf_X6_87 ?_
      refine sx_bipush (pc := 48) (v := 70) dX6_bad_48 (by decide) ?_
      refine sx_icmp_ne (pc := 50) (tgt := 67) dX6_bad_50 (by decide) (fun c_50 => ?_) (fun c_50 => ?_)
      · have h_50t := c_50
        refine sx_iconst (pc := 67) (v := 0) dX6_bad_67 (by decide) ?_
        exact sx_iret (pc := 68) dX6_bad_68 rfl rfl (Nat.zero_le _) (Nat.zero_le _) (⟨rfl, rfl, _, rfl, by first | exact Or.inr ⟨by decide, Or.inr (Or.inr ⟨h_50f, Int32.not_le.mp h_59f⟩)⟩ | (refine Or.inl ⟨by decide, fun q => ?_⟩; rcases q with q | q | q; (first | exact absurd h_16t (Int32.not_le.mpr q.2) | exact dq_f hx_4 h_7t q.1); (first | exact absurd h_38t (Int32.not_le.mpr q.2) | exact dq_f hx_26 h_29t q.1); (first | exact h_50t q.1 | exact absurd h_59t (Int32.not_le.mpr q.2)))⟩)
      · have h_50f := c_50
        refine sx_aload_n (pc := 53) dX6_bad_53 rfl rfl ?_
        refine sx_geti (pc := 54) (ci := 6) (j := 28) dX6_bad_54 rfl s_Mo rfl (by decide) lf_X6_113 ?_
        refine sx_ldc (pc := 57) dX6_bad_57 ld_X6_130 ?_
        refine sx_icmp_le (pc := 59) (tgt := 67) dX6_bad_59 (by decide) (fun c_59 => ?_) (fun c_59 => ?_)
        · have h_59t := c_59
          refine sx_iconst (pc := 67) (v := 0) dX6_bad_67 (by decide) ?_
          exact sx_iret (pc := 68) dX6_bad_68 rfl rfl (Nat.zero_le _) (Nat.zero_le _) (⟨rfl, rfl, _, rfl, by first | exact Or.inr ⟨by decide, Or.inr (Or.inr ⟨h_50f, Int32.not_le.mp h_59f⟩)⟩ | (refine Or.inl ⟨by decide, fun q => ?_⟩; rcases q with q | q | q; (first | exact absurd h_16t (Int32.not_le.mpr q.2) | exact dq_f hx_4 h_7t q.1); (first | exact absurd h_38t (Int32.not_le.mpr q.2) | exact dq_f hx_26 h_29t q.1); (first | exact h_50t q.1 | exact absurd h_59t (Int32.not_le.mpr q.2)))⟩)
        · have h_59f := c_59
          refine sx_bipush (pc := 62) (v := 99) dX6_bad_62 (by decide) ?_
          refine sx_goto (pc := 64) (tgt := 68) dX6_bad_64 (by decide) ?_
          exact sx_iret (pc := 68) dX6_bad_68 rfl rfl (Nat.zero_le _) (Nat.zero_le _) (⟨rfl, rfl, _, rfl, by first | exact Or.inr ⟨by decide, Or.inr (Or.inr ⟨h_50f, Int32.not_le.mp h_59f⟩)⟩ | (refine Or.inl ⟨by decide, fun q => ?_⟩; rcases q with q | q | q; (first | exact absurd h_16t (Int32.not_le.mpr q.2) | exact dq_f hx_4 h_7t q.1); (first | exact absurd h_38t (Int32.not_le.mpr q.2) | exact dq_f hx_26 h_29t q.1); (first | exact h_50t q.1 | exact absurd h_59t (Int32.not_le.mpr q.2)))⟩)
    · have h_29f := c_29
      refine sx_aload_n (pc := 32) dX6_bad_32 rfl rfl ?_
      refine sx_geti (pc := 33) (ci := 6) (j := 27) dX6_bad_33 rfl s_Mo rfl (by decide) lf_X6_110 ?_
      refine sx_bipush (pc := 36) (v := 29) dX6_bad_36 (by decide) ?_
      refine sx_icmp_le (pc := 38) (tgt := 44) dX6_bad_38 (by decide) (fun c_38 => ?_) (fun c_38 => ?_)
      · have h_38t := c_38
        refine sx_aload_n (pc := 44) dX6_bad_44 rfl rfl ?_
        refine sx_geti (pc := 45) (ci := 6) (j := 24) dX6_bad_45 rfl s_Mo rfl (by decide) lf_X6_87 ?_
        refine sx_bipush (pc := 48) (v := 70) dX6_bad_48 (by decide) ?_
        refine sx_icmp_ne (pc := 50) (tgt := 67) dX6_bad_50 (by decide) (fun c_50 => ?_) (fun c_50 => ?_)
        · have h_50t := c_50
          refine sx_iconst (pc := 67) (v := 0) dX6_bad_67 (by decide) ?_
          exact sx_iret (pc := 68) dX6_bad_68 rfl rfl (Nat.zero_le _) (Nat.zero_le _) (⟨rfl, rfl, _, rfl, by first | exact Or.inr ⟨by decide, Or.inr (Or.inr ⟨h_50f, Int32.not_le.mp h_59f⟩)⟩ | (refine Or.inl ⟨by decide, fun q => ?_⟩; rcases q with q | q | q; (first | exact absurd h_16t (Int32.not_le.mpr q.2) | exact dq_f hx_4 h_7t q.1); (first | exact absurd h_38t (Int32.not_le.mpr q.2) | exact dq_f hx_26 h_29t q.1); (first | exact h_50t q.1 | exact absurd h_59t (Int32.not_le.mpr q.2)))⟩)
        · have h_50f := c_50
          refine sx_aload_n (pc := 53) dX6_bad_53 rfl rfl ?_
          refine sx_geti (pc := 54) (ci := 6) (j := 28) dX6_bad_54 rfl s_Mo rfl (by decide) lf_X6_113 ?_
          refine sx_ldc (pc := 57) dX6_bad_57 ld_X6_130 ?_
          refine sx_icmp_le (pc := 59) (tgt := 67) dX6_bad_59 (by decide) (fun c_59 => ?_) (fun c_59 => ?_)
          · have h_59t := c_59
            refine sx_iconst (pc := 67) (v := 0) dX6_bad_67 (by decide) ?_
            exact sx_iret (pc := 68) dX6_bad_68 rfl rfl (Nat.zero_le _) (Nat.zero_le _) (⟨rfl, rfl, _, rfl, by first | exact Or.inr ⟨by decide, Or.inr (Or.inr ⟨h_50f, Int32.not_le.mp h_59f⟩)⟩ | (refine Or.inl ⟨by decide, fun q => ?_⟩; rcases q with q | q | q; (first | exact absurd h_16t (Int32.not_le.mpr q.2) | exact dq_f hx_4 h_7t q.1); (first | exact absurd h_38t (Int32.not_le.mpr q.2) | exact dq_f hx_26 h_29t q.1); (first | exact h_50t q.1 | exact absurd h_59t (Int32.not_le.mpr q.2)))⟩)
          · have h_59f := c_59
            refine sx_bipush (pc := 62) (v := 99) dX6_bad_62 (by decide) ?_
            refine sx_goto (pc := 64) (tgt := 68) dX6_bad_64 (by decide) ?_
            exact sx_iret (pc := 68) dX6_bad_68 rfl rfl (Nat.zero_le _) (Nat.zero_le _) (⟨rfl, rfl, _, rfl, by first | exact Or.inr ⟨by decide, Or.inr (Or.inr ⟨h_50f, Int32.not_le.mp h_59f⟩)⟩ | (refine Or.inl ⟨by decide, fun q => ?_⟩; rcases q with q | q | q; (first | exact absurd h_16t (Int32.not_le.mpr q.2) | exact dq_f hx_4 h_7t q.1); (first | exact absurd h_38t (Int32.not_le.mpr q.2) | exact dq_f hx_26 h_29t q.1); (first | exact h_50t q.1 | exact absurd h_59t (Int32.not_le.mpr q.2)))⟩)
      · have h_38f := c_38
        refine sx_bipush (pc := 41) (v := 98) dX6_bad_41 (by decide) ?_
        exact sx_iret (pc := 43) dX6_bad_43 rfl rfl (Nat.zero_le _) (Nat.zero_le _) (⟨rfl, rfl, _, rfl, Or.inr ⟨by decide, Or.inr (Or.inl ⟨dq_t hx_26 h_29f, Int32.not_le.mp h_38f⟩)⟩⟩)
  · have h_7f := c_7
    refine sx_aload_n (pc := 10) dX6_bad_10 rfl rfl ?_
    refine sx_geti (pc := 11) (ci := 6) (j := 26) dX6_bad_11 rfl s_Mo rfl (by decide) lf_X6_104 ?_
    refine sx_bipush (pc := 14) (v := 29) dX6_bad_14 (by decide) ?_
    refine sx_icmp_le (pc := 16) (tgt := 22) dX6_bad_16 (by decide) (fun c_16 => ?_) (fun c_16 => ?_)
    · have h_16t := c_16
      refine sx_aload_n (pc := 22) dX6_bad_22 rfl rfl ?_
      refine sx_geti (pc := 23) (ci := 6) (j := 24) dX6_bad_23 rfl s_Mo rfl (by decide) lf_X6_87 ?_
      refine sx_callS (pc := 26) (As := [.int (μ 95 24)]) dX6_bad_26 (c_hasItem X Ex false shA μ _) mX6_hasItem lm_X6_107 rfl ⟨Nat.le_of_ble_eq_true rfl, Nat.le_of_ble_eq_true rfl⟩ ⟨Nat.le_of_ble_eq_true rfl, Nat.le_of_ble_eq_true rfl⟩ (Nat.le_of_ble_eq_true rfl) hE (fun r_26 sh1 μ3 h_26 => ?_)
      obtain ⟨rfl, rfl, x_26, rfl, hx_26⟩ := h_26
      refine sx_if_eq (pc := 29) (tgt := 44) dX6_bad_29 (by decide) (fun c_29 => ?_) (fun c_29 => ?_)
      · have h_29t := c_29
        refine sx_aload_n (pc := 44) dX6_bad_44 rfl rfl ?_
        refine sx_geti (pc := 45) (ci := 6) (j := 24) dX6_bad_45 rfl s_Mo rfl (by decide) lf_X6_87 ?_
        refine sx_bipush (pc := 48) (v := 70) dX6_bad_48 (by decide) ?_
        refine sx_icmp_ne (pc := 50) (tgt := 67) dX6_bad_50 (by decide) (fun c_50 => ?_) (fun c_50 => ?_)
        · have h_50t := c_50
          refine sx_iconst (pc := 67) (v := 0) dX6_bad_67 (by decide) ?_
          exact sx_iret (pc := 68) dX6_bad_68 rfl rfl (Nat.zero_le _) (Nat.zero_le _) (⟨rfl, rfl, _, rfl, by first | exact Or.inr ⟨by decide, Or.inr (Or.inr ⟨h_50f, Int32.not_le.mp h_59f⟩)⟩ | (refine Or.inl ⟨by decide, fun q => ?_⟩; rcases q with q | q | q; (first | exact absurd h_16t (Int32.not_le.mpr q.2) | exact dq_f hx_4 h_7t q.1); (first | exact absurd h_38t (Int32.not_le.mpr q.2) | exact dq_f hx_26 h_29t q.1); (first | exact h_50t q.1 | exact absurd h_59t (Int32.not_le.mpr q.2)))⟩)
        · have h_50f := c_50
          refine sx_aload_n (pc := 53) dX6_bad_53 rfl rfl ?_
          refine sx_geti (pc := 54) (ci := 6) (j := 28) dX6_bad_54 rfl s_Mo rfl (by decide) lf_X6_113 ?_
          refine sx_ldc (pc := 57) dX6_bad_57 ld_X6_130 ?_
          refine sx_icmp_le (pc := 59) (tgt := 67) dX6_bad_59 (by decide) (fun c_59 => ?_) (fun c_59 => ?_)
          · have h_59t := c_59
            refine sx_iconst (pc := 67) (v := 0) dX6_bad_67 (by decide) ?_
            exact sx_iret (pc := 68) dX6_bad_68 rfl rfl (Nat.zero_le _) (Nat.zero_le _) (⟨rfl, rfl, _, rfl, by first | exact Or.inr ⟨by decide, Or.inr (Or.inr ⟨h_50f, Int32.not_le.mp h_59f⟩)⟩ | (refine Or.inl ⟨by decide, fun q => ?_⟩; rcases q with q | q | q; (first | exact absurd h_16t (Int32.not_le.mpr q.2) | exact dq_f hx_4 h_7t q.1); (first | exact absurd h_38t (Int32.not_le.mpr q.2) | exact dq_f hx_26 h_29t q.1); (first | exact h_50t q.1 | exact absurd h_59t (Int32.not_le.mpr q.2)))⟩)
          · have h_59f := c_59
            refine sx_bipush (pc := 62) (v := 99) dX6_bad_62 (by decide) ?_
            refine sx_goto (pc := 64) (tgt := 68) dX6_bad_64 (by decide) ?_
            exact sx_iret (pc := 68) dX6_bad_68 rfl rfl (Nat.zero_le _) (Nat.zero_le _) (⟨rfl, rfl, _, rfl, by first | exact Or.inr ⟨by decide, Or.inr (Or.inr ⟨h_50f, Int32.not_le.mp h_59f⟩)⟩ | (refine Or.inl ⟨by decide, fun q => ?_⟩; rcases q with q | q | q; (first | exact absurd h_16t (Int32.not_le.mpr q.2) | exact dq_f hx_4 h_7t q.1); (first | exact absurd h_38t (Int32.not_le.mpr q.2) | exact dq_f hx_26 h_29t q.1); (first | exact h_50t q.1 | exact absurd h_59t (Int32.not_le.mpr q.2)))⟩)
      · have h_29f := c_29
        refine sx_aload_n (pc := 32) dX6_bad_32 rfl rfl ?_
        refine sx_geti (pc := 33) (ci := 6) (j := 27) dX6_bad_33 rfl s_Mo rfl (by decide) lf_X6_110 ?_
        refine sx_bipush (pc := 36) (v := 29) dX6_bad_36 (by decide) ?_
        refine sx_icmp_le (pc := 38) (tgt := 44) dX6_bad_38 (by decide) (fun c_38 => ?_) (fun c_38 => ?_)
        · have h_38t := c_38
          refine sx_aload_n (pc := 44) dX6_bad_44 rfl rfl ?_
          refine sx_geti (pc := 45) (ci := 6) (j := 24) dX6_bad_45 rfl s_Mo rfl (by decide) lf_X6_87 ?_
          refine sx_bipush (pc := 48) (v := 70) dX6_bad_48 (by decide) ?_
          refine sx_icmp_ne (pc := 50) (tgt := 67) dX6_bad_50 (by decide) (fun c_50 => ?_) (fun c_50 => ?_)
          · have h_50t := c_50
            refine sx_iconst (pc := 67) (v := 0) dX6_bad_67 (by decide) ?_
            exact sx_iret (pc := 68) dX6_bad_68 rfl rfl (Nat.zero_le _) (Nat.zero_le _) (⟨rfl, rfl, _, rfl, by first | exact Or.inr ⟨by decide, Or.inr (Or.inr ⟨h_50f, Int32.not_le.mp h_59f⟩)⟩ | (refine Or.inl ⟨by decide, fun q => ?_⟩; rcases q with q | q | q; (first | exact absurd h_16t (Int32.not_le.mpr q.2) | exact dq_f hx_4 h_7t q.1); (first | exact absurd h_38t (Int32.not_le.mpr q.2) | exact dq_f hx_26 h_29t q.1); (first | exact h_50t q.1 | exact absurd h_59t (Int32.not_le.mpr q.2)))⟩)
          · have h_50f := c_50
            refine sx_aload_n (pc := 53) dX6_bad_53 rfl rfl ?_
            refine sx_geti (pc := 54) (ci := 6) (j := 28) dX6_bad_54 rfl s_Mo rfl (by decide) lf_X6_113 ?_
            refine sx_ldc (pc := 57) dX6_bad_57 ld_X6_130 ?_
            refine sx_icmp_le (pc := 59) (tgt := 67) dX6_bad_59 (by decide) (fun c_59 => ?_) (fun c_59 => ?_)
            · have h_59t := c_59
              refine sx_iconst (pc := 67) (v := 0) dX6_bad_67 (by decide) ?_
              exact sx_iret (pc := 68) dX6_bad_68 rfl rfl (Nat.zero_le _) (Nat.zero_le _) (⟨rfl, rfl, _, rfl, by first | exact Or.inr ⟨by decide, Or.inr (Or.inr ⟨h_50f, Int32.not_le.mp h_59f⟩)⟩ | (refine Or.inl ⟨by decide, fun q => ?_⟩; rcases q with q | q | q; (first | exact absurd h_16t (Int32.not_le.mpr q.2) | exact dq_f hx_4 h_7t q.1); (first | exact absurd h_38t (Int32.not_le.mpr q.2) | exact dq_f hx_26 h_29t q.1); (first | exact h_50t q.1 | exact absurd h_59t (Int32.not_le.mpr q.2)))⟩)
            · have h_59f := c_59
              refine sx_bipush (pc := 62) (v := 99) dX6_bad_62 (by decide) ?_
              refine sx_goto (pc := 64) (tgt := 68) dX6_bad_64 (by decide) ?_
              exact sx_iret (pc := 68) dX6_bad_68 rfl rfl (Nat.zero_le _) (Nat.zero_le _) (⟨rfl, rfl, _, rfl, by first | exact Or.inr ⟨by decide, Or.inr (Or.inr ⟨h_50f, Int32.not_le.mp h_59f⟩)⟩ | (refine Or.inl ⟨by decide, fun q => ?_⟩; rcases q with q | q | q; (first | exact absurd h_16t (Int32.not_le.mpr q.2) | exact dq_f hx_4 h_7t q.1); (first | exact absurd h_38t (Int32.not_le.mpr q.2) | exact dq_f hx_26 h_29t q.1); (first | exact h_50t q.1 | exact absurd h_59t (Int32.not_le.mpr q.2)))⟩)
        · have h_38f := c_38
          refine sx_bipush (pc := 41) (v := 98) dX6_bad_41 (by decide) ?_
          exact sx_iret (pc := 43) dX6_bad_43 rfl rfl (Nat.zero_le _) (Nat.zero_le _) (⟨rfl, rfl, _, rfl, Or.inr ⟨by decide, Or.inr (Or.inl ⟨dq_t hx_26 h_29f, Int32.not_le.mp h_38f⟩)⟩⟩)
    · have h_16f := c_16
      refine sx_bipush (pc := 19) (v := 97) dX6_bad_19 (by decide) ?_
      exact sx_iret (pc := 21) dX6_bad_21 rfl rfl (Nat.zero_le _) (Nat.zero_le _) (⟨rfl, rfl, _, rfl, Or.inr ⟨by decide, Or.inl ⟨dq_t hx_4 h_7f, Int32.not_le.mp h_16f⟩⟩⟩)
